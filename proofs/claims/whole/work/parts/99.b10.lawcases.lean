theorem dL_law_0 : decode cL_law 0 = .ok (.new 8, 3) := by decide +kernel
theorem dL_law_3 : decode cL_law 3 = .ok (.dup, 1) := by decide +kernel
theorem dL_law_4 : decode cL_law 4 = .ok (.invokespecial 15, 3) := by decide +kernel
theorem dL_law_7 : decode cL_law 7 = .ok (.astore_n 1, 1) := by decide +kernel
theorem dL_law_8 : decode cL_law 8 = .ok (.new 16, 3) := by decide +kernel
theorem dL_law_11 : decode cL_law 11 = .ok (.dup, 1) := by decide +kernel
theorem dL_law_12 : decode cL_law 12 = .ok (.invokespecial 18, 3) := by decide +kernel
theorem dL_law_15 : decode cL_law 15 = .ok (.astore_n 2, 1) := by decide +kernel
theorem dL_law_16 : decode cL_law 16 = .ok (.iconst 1, 1) := by decide +kernel
theorem dL_law_17 : decode cL_law 17 = .ok (.newarray .long, 2) := by decide +kernel
theorem dL_law_19 : decode cL_law 19 = .ok (.astore_n 3, 1) := by decide +kernel
theorem dL_law_20 : decode cL_law 20 = .ok (.iconst 0, 1) := by decide +kernel
theorem dL_law_21 : decode cL_law 21 = .ok (.istore 4, 2) := by decide +kernel
theorem dL_law_23 : decode cL_law 23 = .ok (.iload 4, 2) := by decide +kernel
theorem dL_law_25 : decode cL_law 25 = .ok (.aload_n 0, 1) := by decide +kernel
theorem dL_law_26 : decode cL_law 26 = .ok (.arraylength, 1) := by decide +kernel
theorem dL_law_27 : decode cL_law 27 = .ok (.bipush 6, 2) := by decide +kernel
theorem dL_law_29 : decode cL_law 29 = .ok (.isub, 1) := by decide +kernel
theorem dL_law_30 : decode cL_law 30 = .ok (.if_icmp .gt 1665, 3) := by decide +kernel
theorem dL_law_33 : decode cL_law 33 = .ok (.aload_n 0, 1) := by decide +kernel
theorem dL_law_34 : decode cL_law 34 = .ok (.iload 4, 2) := by decide +kernel
theorem dL_law_36 : decode cL_law 36 = .ok (.iaload, 1) := by decide +kernel
theorem dL_law_37 : decode cL_law 37 = .ok (.bipush 63, 2) := by decide +kernel
theorem dL_law_39 : decode cL_law 39 = .ok (.iand, 1) := by decide +kernel
theorem dL_law_40 : decode cL_law 40 = .ok (.tableswitch 1649 0 41 #[184, 257, 282, 295, 308, 345, 382, 419, 444, 469, 506, 543, 580, 593, 630, 655, 692, 729, 742, 767, 780, 841, 866, 943, 980, 1005, 1042, 1079, 1156, 1217, 1254, 1303, 1368, 1381, 1394, 1407, 1432, 1469, 1506, 1543, 1611, 1636], 184) := by decide +kernel
theorem dL_law_224 : decode cL_law 224 = .ok (.aload_n 1, 1) := by decide +kernel
theorem dL_law_225 : decode cL_law 225 = .ok (.aload_n 0, 1) := by decide +kernel
theorem dL_law_226 : decode cL_law 226 = .ok (.iload 4, 2) := by decide +kernel
theorem dL_law_228 : decode cL_law 228 = .ok (.iconst 1, 1) := by decide +kernel
theorem dL_law_229 : decode cL_law 229 = .ok (.iadd, 1) := by decide +kernel
theorem dL_law_230 : decode cL_law 230 = .ok (.iaload, 1) := by decide +kernel
theorem dL_law_231 : decode cL_law 231 = .ok (.aload_n 0, 1) := by decide +kernel
theorem dL_law_232 : decode cL_law 232 = .ok (.iload 4, 2) := by decide +kernel
theorem dL_law_234 : decode cL_law 234 = .ok (.iconst 2, 1) := by decide +kernel
theorem dL_law_235 : decode cL_law 235 = .ok (.iadd, 1) := by decide +kernel
theorem dL_law_236 : decode cL_law 236 = .ok (.iaload, 1) := by decide +kernel
theorem dL_law_237 : decode cL_law 237 = .ok (.aload_n 0, 1) := by decide +kernel
theorem dL_law_238 : decode cL_law 238 = .ok (.iload 4, 2) := by decide +kernel
theorem dL_law_240 : decode cL_law 240 = .ok (.iconst 3, 1) := by decide +kernel
theorem dL_law_241 : decode cL_law 241 = .ok (.iadd, 1) := by decide +kernel
theorem dL_law_242 : decode cL_law 242 = .ok (.iaload, 1) := by decide +kernel
theorem dL_law_243 : decode cL_law 243 = .ok (.aload_n 0, 1) := by decide +kernel
theorem dL_law_244 : decode cL_law 244 = .ok (.iload 4, 2) := by decide +kernel
theorem dL_law_246 : decode cL_law 246 = .ok (.iconst 4, 1) := by decide +kernel
theorem dL_law_247 : decode cL_law 247 = .ok (.iadd, 1) := by decide +kernel
theorem dL_law_248 : decode cL_law 248 = .ok (.iaload, 1) := by decide +kernel
theorem dL_law_249 : decode cL_law 249 = .ok (.aload_n 0, 1) := by decide +kernel
theorem dL_law_250 : decode cL_law 250 = .ok (.iload 4, 2) := by decide +kernel
theorem dL_law_252 : decode cL_law 252 = .ok (.iconst 5, 1) := by decide +kernel
theorem dL_law_253 : decode cL_law 253 = .ok (.iadd, 1) := by decide +kernel
theorem dL_law_254 : decode cL_law 254 = .ok (.iaload, 1) := by decide +kernel
theorem dL_law_255 : decode cL_law 255 = .ok (.invokevirtual 19, 3) := by decide +kernel
theorem dL_law_258 : decode cL_law 258 = .ok (.aload_n 2, 1) := by decide +kernel
theorem dL_law_259 : decode cL_law 259 = .ok (.aload_n 0, 1) := by decide +kernel
theorem dL_law_260 : decode cL_law 260 = .ok (.iload 4, 2) := by decide +kernel
theorem dL_law_262 : decode cL_law 262 = .ok (.iconst 1, 1) := by decide +kernel
theorem dL_law_263 : decode cL_law 263 = .ok (.iadd, 1) := by decide +kernel
theorem dL_law_264 : decode cL_law 264 = .ok (.iaload, 1) := by decide +kernel
theorem dL_law_265 : decode cL_law 265 = .ok (.aload_n 0, 1) := by decide +kernel
theorem dL_law_266 : decode cL_law 266 = .ok (.iload 4, 2) := by decide +kernel
theorem dL_law_268 : decode cL_law 268 = .ok (.iconst 2, 1) := by decide +kernel
theorem dL_law_269 : decode cL_law 269 = .ok (.iadd, 1) := by decide +kernel
theorem dL_law_270 : decode cL_law 270 = .ok (.iaload, 1) := by decide +kernel
theorem dL_law_271 : decode cL_law 271 = .ok (.aload_n 0, 1) := by decide +kernel
theorem dL_law_272 : decode cL_law 272 = .ok (.iload 4, 2) := by decide +kernel
theorem dL_law_274 : decode cL_law 274 = .ok (.iconst 3, 1) := by decide +kernel
theorem dL_law_275 : decode cL_law 275 = .ok (.iadd, 1) := by decide +kernel
theorem dL_law_276 : decode cL_law 276 = .ok (.iaload, 1) := by decide +kernel
theorem dL_law_277 : decode cL_law 277 = .ok (.aload_n 0, 1) := by decide +kernel
theorem dL_law_278 : decode cL_law 278 = .ok (.iload 4, 2) := by decide +kernel
theorem dL_law_280 : decode cL_law 280 = .ok (.iconst 4, 1) := by decide +kernel
theorem dL_law_281 : decode cL_law 281 = .ok (.iadd, 1) := by decide +kernel
theorem dL_law_282 : decode cL_law 282 = .ok (.iaload, 1) := by decide +kernel
theorem dL_law_283 : decode cL_law 283 = .ok (.aload_n 0, 1) := by decide +kernel
theorem dL_law_284 : decode cL_law 284 = .ok (.iload 4, 2) := by decide +kernel
theorem dL_law_286 : decode cL_law 286 = .ok (.iconst 5, 1) := by decide +kernel
theorem dL_law_287 : decode cL_law 287 = .ok (.iadd, 1) := by decide +kernel
theorem dL_law_288 : decode cL_law 288 = .ok (.iaload, 1) := by decide +kernel
theorem dL_law_289 : decode cL_law 289 = .ok (.invokevirtual 23, 3) := by decide +kernel
theorem dL_law_292 : decode cL_law 292 = .ok (.if_icmp .eq 1397, 3) := by decide +kernel
theorem dL_law_295 : decode cL_law 295 = .ok (.iconst 0, 1) := by decide +kernel
theorem dL_law_296 : decode cL_law 296 = .ok (.ireturn, 1) := by decide +kernel
theorem dL_law_297 : decode cL_law 297 = .ok (.aload_n 1, 1) := by decide +kernel
theorem dL_law_298 : decode cL_law 298 = .ok (.aload_n 0, 1) := by decide +kernel
theorem dL_law_299 : decode cL_law 299 = .ok (.iload 4, 2) := by decide +kernel
theorem dL_law_301 : decode cL_law 301 = .ok (.iconst 1, 1) := by decide +kernel
theorem dL_law_302 : decode cL_law 302 = .ok (.iadd, 1) := by decide +kernel
theorem dL_law_303 : decode cL_law 303 = .ok (.iaload, 1) := by decide +kernel
theorem dL_law_304 : decode cL_law 304 = .ok (.invokevirtual 24, 3) := by decide +kernel
theorem dL_law_307 : decode cL_law 307 = .ok (.aload_n 2, 1) := by decide +kernel
theorem dL_law_308 : decode cL_law 308 = .ok (.aload_n 0, 1) := by decide +kernel
theorem dL_law_309 : decode cL_law 309 = .ok (.iload 4, 2) := by decide +kernel
theorem dL_law_311 : decode cL_law 311 = .ok (.iconst 1, 1) := by decide +kernel
theorem dL_law_312 : decode cL_law 312 = .ok (.iadd, 1) := by decide +kernel
theorem dL_law_313 : decode cL_law 313 = .ok (.iaload, 1) := by decide +kernel
theorem dL_law_314 : decode cL_law 314 = .ok (.invokevirtual 28, 3) := by decide +kernel
theorem dL_law_317 : decode cL_law 317 = .ok (.if_icmp .eq 1372, 3) := by decide +kernel
theorem dL_law_320 : decode cL_law 320 = .ok (.iconst 0, 1) := by decide +kernel
theorem dL_law_321 : decode cL_law 321 = .ok (.ireturn, 1) := by decide +kernel
theorem dL_law_322 : decode cL_law 322 = .ok (.aload_n 1, 1) := by decide +kernel
theorem dL_law_323 : decode cL_law 323 = .ok (.invokevirtual 29, 3) := by decide +kernel
theorem dL_law_326 : decode cL_law 326 = .ok (.aload_n 2, 1) := by decide +kernel
theorem dL_law_327 : decode cL_law 327 = .ok (.invokevirtual 33, 3) := by decide +kernel
theorem dL_law_330 : decode cL_law 330 = .ok (.if_icmp .eq 1359, 3) := by decide +kernel
theorem dL_law_333 : decode cL_law 333 = .ok (.iconst 0, 1) := by decide +kernel
theorem dL_law_334 : decode cL_law 334 = .ok (.ireturn, 1) := by decide +kernel
theorem dL_law_335 : decode cL_law 335 = .ok (.aload_n 1, 1) := by decide +kernel
theorem dL_law_336 : decode cL_law 336 = .ok (.invokevirtual 34, 3) := by decide +kernel
theorem dL_law_339 : decode cL_law 339 = .ok (.aload_n 2, 1) := by decide +kernel
theorem dL_law_340 : decode cL_law 340 = .ok (.invokevirtual 37, 3) := by decide +kernel
theorem dL_law_343 : decode cL_law 343 = .ok (.if_icmp .eq 1346, 3) := by decide +kernel
theorem dL_law_346 : decode cL_law 346 = .ok (.iconst 0, 1) := by decide +kernel
theorem dL_law_347 : decode cL_law 347 = .ok (.ireturn, 1) := by decide +kernel
theorem dL_law_348 : decode cL_law 348 = .ok (.aload_n 1, 1) := by decide +kernel
theorem dL_law_349 : decode cL_law 349 = .ok (.aload_n 0, 1) := by decide +kernel
theorem dL_law_350 : decode cL_law 350 = .ok (.iload 4, 2) := by decide +kernel
theorem dL_law_352 : decode cL_law 352 = .ok (.iconst 1, 1) := by decide +kernel
theorem dL_law_353 : decode cL_law 353 = .ok (.iadd, 1) := by decide +kernel
theorem dL_law_354 : decode cL_law 354 = .ok (.iaload, 1) := by decide +kernel
theorem dL_law_355 : decode cL_law 355 = .ok (.aload_n 0, 1) := by decide +kernel
theorem dL_law_356 : decode cL_law 356 = .ok (.iload 4, 2) := by decide +kernel
theorem dL_law_358 : decode cL_law 358 = .ok (.iconst 2, 1) := by decide +kernel
theorem dL_law_359 : decode cL_law 359 = .ok (.iadd, 1) := by decide +kernel
theorem dL_law_360 : decode cL_law 360 = .ok (.iaload, 1) := by decide +kernel
theorem dL_law_361 : decode cL_law 361 = .ok (.invokevirtual 38, 3) := by decide +kernel
theorem dL_law_364 : decode cL_law 364 = .ok (.aload_n 2, 1) := by decide +kernel
theorem dL_law_365 : decode cL_law 365 = .ok (.aload_n 0, 1) := by decide +kernel
theorem dL_law_366 : decode cL_law 366 = .ok (.iload 4, 2) := by decide +kernel
theorem dL_law_368 : decode cL_law 368 = .ok (.iconst 1, 1) := by decide +kernel
theorem dL_law_369 : decode cL_law 369 = .ok (.iadd, 1) := by decide +kernel
theorem dL_law_370 : decode cL_law 370 = .ok (.iaload, 1) := by decide +kernel
theorem dL_law_371 : decode cL_law 371 = .ok (.aload_n 0, 1) := by decide +kernel
theorem dL_law_372 : decode cL_law 372 = .ok (.iload 4, 2) := by decide +kernel
theorem dL_law_374 : decode cL_law 374 = .ok (.iconst 2, 1) := by decide +kernel
theorem dL_law_375 : decode cL_law 375 = .ok (.iadd, 1) := by decide +kernel
theorem dL_law_376 : decode cL_law 376 = .ok (.iaload, 1) := by decide +kernel
theorem dL_law_377 : decode cL_law 377 = .ok (.invokevirtual 41, 3) := by decide +kernel
theorem dL_law_380 : decode cL_law 380 = .ok (.if_icmp .eq 1309, 3) := by decide +kernel
theorem dL_law_383 : decode cL_law 383 = .ok (.iconst 0, 1) := by decide +kernel
theorem dL_law_384 : decode cL_law 384 = .ok (.ireturn, 1) := by decide +kernel
theorem dL_law_385 : decode cL_law 385 = .ok (.aload_n 1, 1) := by decide +kernel
theorem dL_law_386 : decode cL_law 386 = .ok (.aload_n 0, 1) := by decide +kernel
theorem dL_law_387 : decode cL_law 387 = .ok (.iload 4, 2) := by decide +kernel
theorem dL_law_389 : decode cL_law 389 = .ok (.iconst 1, 1) := by decide +kernel
theorem dL_law_390 : decode cL_law 390 = .ok (.iadd, 1) := by decide +kernel
theorem dL_law_391 : decode cL_law 391 = .ok (.iaload, 1) := by decide +kernel
theorem dL_law_392 : decode cL_law 392 = .ok (.aload_n 0, 1) := by decide +kernel
theorem dL_law_393 : decode cL_law 393 = .ok (.iload 4, 2) := by decide +kernel
theorem dL_law_395 : decode cL_law 395 = .ok (.iconst 2, 1) := by decide +kernel
theorem dL_law_396 : decode cL_law 396 = .ok (.iadd, 1) := by decide +kernel
theorem dL_law_397 : decode cL_law 397 = .ok (.iaload, 1) := by decide +kernel
theorem dL_law_398 : decode cL_law 398 = .ok (.invokevirtual 42, 3) := by decide +kernel
theorem dL_law_401 : decode cL_law 401 = .ok (.aload_n 2, 1) := by decide +kernel
theorem dL_law_402 : decode cL_law 402 = .ok (.aload_n 0, 1) := by decide +kernel
theorem dL_law_403 : decode cL_law 403 = .ok (.iload 4, 2) := by decide +kernel
theorem dL_law_405 : decode cL_law 405 = .ok (.iconst 1, 1) := by decide +kernel
theorem dL_law_406 : decode cL_law 406 = .ok (.iadd, 1) := by decide +kernel
theorem dL_law_407 : decode cL_law 407 = .ok (.iaload, 1) := by decide +kernel
theorem dL_law_408 : decode cL_law 408 = .ok (.aload_n 0, 1) := by decide +kernel
theorem dL_law_409 : decode cL_law 409 = .ok (.iload 4, 2) := by decide +kernel
theorem dL_law_411 : decode cL_law 411 = .ok (.iconst 2, 1) := by decide +kernel
theorem dL_law_412 : decode cL_law 412 = .ok (.iadd, 1) := by decide +kernel
theorem dL_law_413 : decode cL_law 413 = .ok (.iaload, 1) := by decide +kernel
theorem dL_law_414 : decode cL_law 414 = .ok (.invokevirtual 45, 3) := by decide +kernel
theorem dL_law_417 : decode cL_law 417 = .ok (.if_icmp .eq 1272, 3) := by decide +kernel
theorem dL_law_420 : decode cL_law 420 = .ok (.iconst 0, 1) := by decide +kernel
theorem dL_law_421 : decode cL_law 421 = .ok (.ireturn, 1) := by decide +kernel
theorem dL_law_422 : decode cL_law 422 = .ok (.aload_n 1, 1) := by decide +kernel
theorem dL_law_423 : decode cL_law 423 = .ok (.aload_n 0, 1) := by decide +kernel
theorem dL_law_424 : decode cL_law 424 = .ok (.iload 4, 2) := by decide +kernel
theorem dL_law_426 : decode cL_law 426 = .ok (.iconst 1, 1) := by decide +kernel
theorem dL_law_427 : decode cL_law 427 = .ok (.iadd, 1) := by decide +kernel
theorem dL_law_428 : decode cL_law 428 = .ok (.iaload, 1) := by decide +kernel
theorem dL_law_429 : decode cL_law 429 = .ok (.aload_n 0, 1) := by decide +kernel
theorem dL_law_430 : decode cL_law 430 = .ok (.iload 4, 2) := by decide +kernel
theorem dL_law_432 : decode cL_law 432 = .ok (.iconst 2, 1) := by decide +kernel
theorem dL_law_433 : decode cL_law 433 = .ok (.iadd, 1) := by decide +kernel
theorem dL_law_434 : decode cL_law 434 = .ok (.iaload, 1) := by decide +kernel
theorem dL_law_435 : decode cL_law 435 = .ok (.invokevirtual 46, 3) := by decide +kernel
theorem dL_law_438 : decode cL_law 438 = .ok (.aload_n 2, 1) := by decide +kernel
theorem dL_law_439 : decode cL_law 439 = .ok (.aload_n 0, 1) := by decide +kernel
theorem dL_law_440 : decode cL_law 440 = .ok (.iload 4, 2) := by decide +kernel
theorem dL_law_442 : decode cL_law 442 = .ok (.iconst 1, 1) := by decide +kernel
theorem dL_law_443 : decode cL_law 443 = .ok (.iadd, 1) := by decide +kernel
theorem dL_law_444 : decode cL_law 444 = .ok (.iaload, 1) := by decide +kernel
theorem dL_law_445 : decode cL_law 445 = .ok (.aload_n 0, 1) := by decide +kernel
theorem dL_law_446 : decode cL_law 446 = .ok (.iload 4, 2) := by decide +kernel
theorem dL_law_448 : decode cL_law 448 = .ok (.iconst 2, 1) := by decide +kernel
theorem dL_law_449 : decode cL_law 449 = .ok (.iadd, 1) := by decide +kernel
theorem dL_law_450 : decode cL_law 450 = .ok (.iaload, 1) := by decide +kernel
theorem dL_law_451 : decode cL_law 451 = .ok (.invokevirtual 49, 3) := by decide +kernel
theorem dL_law_454 : decode cL_law 454 = .ok (.if_icmp .eq 1235, 3) := by decide +kernel
theorem dL_law_457 : decode cL_law 457 = .ok (.iconst 0, 1) := by decide +kernel
theorem dL_law_458 : decode cL_law 458 = .ok (.ireturn, 1) := by decide +kernel
theorem dL_law_459 : decode cL_law 459 = .ok (.aload_n 1, 1) := by decide +kernel
theorem dL_law_460 : decode cL_law 460 = .ok (.aload_n 0, 1) := by decide +kernel
theorem dL_law_461 : decode cL_law 461 = .ok (.iload 4, 2) := by decide +kernel
theorem dL_law_463 : decode cL_law 463 = .ok (.iconst 1, 1) := by decide +kernel
theorem dL_law_464 : decode cL_law 464 = .ok (.iadd, 1) := by decide +kernel
theorem dL_law_465 : decode cL_law 465 = .ok (.iaload, 1) := by decide +kernel
theorem dL_law_466 : decode cL_law 466 = .ok (.invokevirtual 50, 3) := by decide +kernel
theorem dL_law_469 : decode cL_law 469 = .ok (.aload_n 2, 1) := by decide +kernel
theorem dL_law_470 : decode cL_law 470 = .ok (.aload_n 0, 1) := by decide +kernel
theorem dL_law_471 : decode cL_law 471 = .ok (.iload 4, 2) := by decide +kernel
theorem dL_law_473 : decode cL_law 473 = .ok (.iconst 1, 1) := by decide +kernel
theorem dL_law_474 : decode cL_law 474 = .ok (.iadd, 1) := by decide +kernel
theorem dL_law_475 : decode cL_law 475 = .ok (.iaload, 1) := by decide +kernel
theorem dL_law_476 : decode cL_law 476 = .ok (.invokevirtual 53, 3) := by decide +kernel
theorem dL_law_479 : decode cL_law 479 = .ok (.if_icmp .eq 1210, 3) := by decide +kernel
theorem dL_law_482 : decode cL_law 482 = .ok (.iconst 0, 1) := by decide +kernel
theorem dL_law_483 : decode cL_law 483 = .ok (.ireturn, 1) := by decide +kernel
theorem dL_law_484 : decode cL_law 484 = .ok (.aload_n 1, 1) := by decide +kernel
theorem dL_law_485 : decode cL_law 485 = .ok (.aload_n 0, 1) := by decide +kernel
theorem dL_law_486 : decode cL_law 486 = .ok (.iload 4, 2) := by decide +kernel
theorem dL_law_488 : decode cL_law 488 = .ok (.iconst 1, 1) := by decide +kernel
theorem dL_law_489 : decode cL_law 489 = .ok (.iadd, 1) := by decide +kernel
theorem dL_law_490 : decode cL_law 490 = .ok (.iaload, 1) := by decide +kernel
theorem dL_law_491 : decode cL_law 491 = .ok (.invokevirtual 54, 3) := by decide +kernel
theorem dL_law_494 : decode cL_law 494 = .ok (.aload_n 2, 1) := by decide +kernel
theorem dL_law_495 : decode cL_law 495 = .ok (.aload_n 0, 1) := by decide +kernel
theorem dL_law_496 : decode cL_law 496 = .ok (.iload 4, 2) := by decide +kernel
theorem dL_law_498 : decode cL_law 498 = .ok (.iconst 1, 1) := by decide +kernel
theorem dL_law_499 : decode cL_law 499 = .ok (.iadd, 1) := by decide +kernel
theorem dL_law_500 : decode cL_law 500 = .ok (.iaload, 1) := by decide +kernel
theorem dL_law_501 : decode cL_law 501 = .ok (.invokevirtual 57, 3) := by decide +kernel
theorem dL_law_504 : decode cL_law 504 = .ok (.if_icmp .eq 1185, 3) := by decide +kernel
theorem dL_law_507 : decode cL_law 507 = .ok (.iconst 0, 1) := by decide +kernel
theorem dL_law_508 : decode cL_law 508 = .ok (.ireturn, 1) := by decide +kernel
theorem dL_law_509 : decode cL_law 509 = .ok (.aload_n 1, 1) := by decide +kernel
theorem dL_law_510 : decode cL_law 510 = .ok (.aload_n 0, 1) := by decide +kernel
theorem dL_law_511 : decode cL_law 511 = .ok (.iload 4, 2) := by decide +kernel
theorem dL_law_513 : decode cL_law 513 = .ok (.iconst 1, 1) := by decide +kernel
theorem dL_law_514 : decode cL_law 514 = .ok (.iadd, 1) := by decide +kernel
theorem dL_law_515 : decode cL_law 515 = .ok (.iaload, 1) := by decide +kernel
theorem dL_law_516 : decode cL_law 516 = .ok (.aload_n 0, 1) := by decide +kernel
theorem dL_law_517 : decode cL_law 517 = .ok (.iload 4, 2) := by decide +kernel
theorem dL_law_519 : decode cL_law 519 = .ok (.iconst 2, 1) := by decide +kernel
theorem dL_law_520 : decode cL_law 520 = .ok (.iadd, 1) := by decide +kernel
theorem dL_law_521 : decode cL_law 521 = .ok (.iaload, 1) := by decide +kernel
theorem dL_law_522 : decode cL_law 522 = .ok (.invokevirtual 58, 3) := by decide +kernel
theorem dL_law_525 : decode cL_law 525 = .ok (.aload_n 2, 1) := by decide +kernel
theorem dL_law_526 : decode cL_law 526 = .ok (.aload_n 0, 1) := by decide +kernel
theorem dL_law_527 : decode cL_law 527 = .ok (.iload 4, 2) := by decide +kernel
theorem dL_law_529 : decode cL_law 529 = .ok (.iconst 1, 1) := by decide +kernel
theorem dL_law_530 : decode cL_law 530 = .ok (.iadd, 1) := by decide +kernel
theorem dL_law_531 : decode cL_law 531 = .ok (.iaload, 1) := by decide +kernel
theorem dL_law_532 : decode cL_law 532 = .ok (.aload_n 0, 1) := by decide +kernel
theorem dL_law_533 : decode cL_law 533 = .ok (.iload 4, 2) := by decide +kernel
theorem dL_law_535 : decode cL_law 535 = .ok (.iconst 2, 1) := by decide +kernel
theorem dL_law_536 : decode cL_law 536 = .ok (.iadd, 1) := by decide +kernel
theorem dL_law_537 : decode cL_law 537 = .ok (.iaload, 1) := by decide +kernel
theorem dL_law_538 : decode cL_law 538 = .ok (.invokevirtual 61, 3) := by decide +kernel
theorem dL_law_541 : decode cL_law 541 = .ok (.if_icmp .eq 1148, 3) := by decide +kernel
theorem dL_law_544 : decode cL_law 544 = .ok (.iconst 0, 1) := by decide +kernel
theorem dL_law_545 : decode cL_law 545 = .ok (.ireturn, 1) := by decide +kernel
theorem dL_law_546 : decode cL_law 546 = .ok (.aload_n 1, 1) := by decide +kernel
theorem dL_law_547 : decode cL_law 547 = .ok (.aload_n 0, 1) := by decide +kernel
theorem dL_law_548 : decode cL_law 548 = .ok (.iload 4, 2) := by decide +kernel
theorem dL_law_550 : decode cL_law 550 = .ok (.iconst 1, 1) := by decide +kernel
theorem dL_law_551 : decode cL_law 551 = .ok (.iadd, 1) := by decide +kernel
theorem dL_law_552 : decode cL_law 552 = .ok (.iaload, 1) := by decide +kernel
theorem dL_law_553 : decode cL_law 553 = .ok (.aload_n 0, 1) := by decide +kernel
theorem dL_law_554 : decode cL_law 554 = .ok (.iload 4, 2) := by decide +kernel
theorem dL_law_556 : decode cL_law 556 = .ok (.iconst 2, 1) := by decide +kernel
theorem dL_law_557 : decode cL_law 557 = .ok (.iadd, 1) := by decide +kernel
theorem dL_law_558 : decode cL_law 558 = .ok (.iaload, 1) := by decide +kernel
theorem dL_law_559 : decode cL_law 559 = .ok (.invokevirtual 62, 3) := by decide +kernel
theorem dL_law_562 : decode cL_law 562 = .ok (.aload_n 2, 1) := by decide +kernel
theorem dL_law_563 : decode cL_law 563 = .ok (.aload_n 0, 1) := by decide +kernel
theorem dL_law_564 : decode cL_law 564 = .ok (.iload 4, 2) := by decide +kernel
theorem dL_law_566 : decode cL_law 566 = .ok (.iconst 1, 1) := by decide +kernel
theorem dL_law_567 : decode cL_law 567 = .ok (.iadd, 1) := by decide +kernel
theorem dL_law_568 : decode cL_law 568 = .ok (.iaload, 1) := by decide +kernel
theorem dL_law_569 : decode cL_law 569 = .ok (.aload_n 0, 1) := by decide +kernel
theorem dL_law_570 : decode cL_law 570 = .ok (.iload 4, 2) := by decide +kernel
theorem dL_law_572 : decode cL_law 572 = .ok (.iconst 2, 1) := by decide +kernel
theorem dL_law_573 : decode cL_law 573 = .ok (.iadd, 1) := by decide +kernel
theorem dL_law_574 : decode cL_law 574 = .ok (.iaload, 1) := by decide +kernel
theorem dL_law_575 : decode cL_law 575 = .ok (.invokevirtual 65, 3) := by decide +kernel
theorem dL_law_578 : decode cL_law 578 = .ok (.if_icmp .eq 1111, 3) := by decide +kernel
theorem dL_law_581 : decode cL_law 581 = .ok (.iconst 0, 1) := by decide +kernel
theorem dL_law_582 : decode cL_law 582 = .ok (.ireturn, 1) := by decide +kernel
theorem dL_law_583 : decode cL_law 583 = .ok (.aload_n 1, 1) := by decide +kernel
theorem dL_law_584 : decode cL_law 584 = .ok (.aload_n 0, 1) := by decide +kernel
theorem dL_law_585 : decode cL_law 585 = .ok (.iload 4, 2) := by decide +kernel
theorem dL_law_587 : decode cL_law 587 = .ok (.iconst 1, 1) := by decide +kernel
theorem dL_law_588 : decode cL_law 588 = .ok (.iadd, 1) := by decide +kernel
theorem dL_law_589 : decode cL_law 589 = .ok (.iaload, 1) := by decide +kernel
theorem dL_law_590 : decode cL_law 590 = .ok (.aload_n 0, 1) := by decide +kernel
theorem dL_law_591 : decode cL_law 591 = .ok (.iload 4, 2) := by decide +kernel
theorem dL_law_593 : decode cL_law 593 = .ok (.iconst 2, 1) := by decide +kernel
theorem dL_law_594 : decode cL_law 594 = .ok (.iadd, 1) := by decide +kernel
theorem dL_law_595 : decode cL_law 595 = .ok (.iaload, 1) := by decide +kernel
theorem dL_law_596 : decode cL_law 596 = .ok (.invokevirtual 66, 3) := by decide +kernel
theorem dL_law_599 : decode cL_law 599 = .ok (.aload_n 2, 1) := by decide +kernel
theorem dL_law_600 : decode cL_law 600 = .ok (.aload_n 0, 1) := by decide +kernel
theorem dL_law_601 : decode cL_law 601 = .ok (.iload 4, 2) := by decide +kernel
theorem dL_law_603 : decode cL_law 603 = .ok (.iconst 1, 1) := by decide +kernel
theorem dL_law_604 : decode cL_law 604 = .ok (.iadd, 1) := by decide +kernel
theorem dL_law_605 : decode cL_law 605 = .ok (.iaload, 1) := by decide +kernel
theorem dL_law_606 : decode cL_law 606 = .ok (.aload_n 0, 1) := by decide +kernel
theorem dL_law_607 : decode cL_law 607 = .ok (.iload 4, 2) := by decide +kernel
theorem dL_law_609 : decode cL_law 609 = .ok (.iconst 2, 1) := by decide +kernel
theorem dL_law_610 : decode cL_law 610 = .ok (.iadd, 1) := by decide +kernel
theorem dL_law_611 : decode cL_law 611 = .ok (.iaload, 1) := by decide +kernel
theorem dL_law_612 : decode cL_law 612 = .ok (.invokevirtual 69, 3) := by decide +kernel
theorem dL_law_615 : decode cL_law 615 = .ok (.if_icmp .eq 1074, 3) := by decide +kernel
theorem dL_law_618 : decode cL_law 618 = .ok (.iconst 0, 1) := by decide +kernel
theorem dL_law_619 : decode cL_law 619 = .ok (.ireturn, 1) := by decide +kernel
theorem dL_law_620 : decode cL_law 620 = .ok (.aload_n 1, 1) := by decide +kernel
theorem dL_law_621 : decode cL_law 621 = .ok (.invokevirtual 70, 3) := by decide +kernel
theorem dL_law_624 : decode cL_law 624 = .ok (.aload_n 2, 1) := by decide +kernel
theorem dL_law_625 : decode cL_law 625 = .ok (.invokevirtual 73, 3) := by decide +kernel
theorem dL_law_628 : decode cL_law 628 = .ok (.if_icmp .eq 1061, 3) := by decide +kernel
theorem dL_law_631 : decode cL_law 631 = .ok (.iconst 0, 1) := by decide +kernel
theorem dL_law_632 : decode cL_law 632 = .ok (.ireturn, 1) := by decide +kernel
theorem dL_law_633 : decode cL_law 633 = .ok (.aload_n 1, 1) := by decide +kernel
theorem dL_law_634 : decode cL_law 634 = .ok (.aload_n 0, 1) := by decide +kernel
theorem dL_law_635 : decode cL_law 635 = .ok (.iload 4, 2) := by decide +kernel
theorem dL_law_637 : decode cL_law 637 = .ok (.iconst 1, 1) := by decide +kernel
theorem dL_law_638 : decode cL_law 638 = .ok (.iadd, 1) := by decide +kernel
theorem dL_law_639 : decode cL_law 639 = .ok (.iaload, 1) := by decide +kernel
theorem dL_law_640 : decode cL_law 640 = .ok (.aload_n 0, 1) := by decide +kernel
theorem dL_law_641 : decode cL_law 641 = .ok (.iload 4, 2) := by decide +kernel
theorem dL_law_643 : decode cL_law 643 = .ok (.iconst 2, 1) := by decide +kernel
theorem dL_law_644 : decode cL_law 644 = .ok (.iadd, 1) := by decide +kernel
theorem dL_law_645 : decode cL_law 645 = .ok (.iaload, 1) := by decide +kernel
theorem dL_law_646 : decode cL_law 646 = .ok (.invokevirtual 74, 3) := by decide +kernel
theorem dL_law_649 : decode cL_law 649 = .ok (.aload_n 2, 1) := by decide +kernel
theorem dL_law_650 : decode cL_law 650 = .ok (.aload_n 0, 1) := by decide +kernel
theorem dL_law_651 : decode cL_law 651 = .ok (.iload 4, 2) := by decide +kernel
theorem dL_law_653 : decode cL_law 653 = .ok (.iconst 1, 1) := by decide +kernel
theorem dL_law_654 : decode cL_law 654 = .ok (.iadd, 1) := by decide +kernel
theorem dL_law_655 : decode cL_law 655 = .ok (.iaload, 1) := by decide +kernel
theorem dL_law_656 : decode cL_law 656 = .ok (.aload_n 0, 1) := by decide +kernel
theorem dL_law_657 : decode cL_law 657 = .ok (.iload 4, 2) := by decide +kernel
theorem dL_law_659 : decode cL_law 659 = .ok (.iconst 2, 1) := by decide +kernel
theorem dL_law_660 : decode cL_law 660 = .ok (.iadd, 1) := by decide +kernel
theorem dL_law_661 : decode cL_law 661 = .ok (.iaload, 1) := by decide +kernel
theorem dL_law_662 : decode cL_law 662 = .ok (.invokevirtual 77, 3) := by decide +kernel
theorem dL_law_665 : decode cL_law 665 = .ok (.if_icmp .eq 1024, 3) := by decide +kernel
theorem dL_law_668 : decode cL_law 668 = .ok (.iconst 0, 1) := by decide +kernel
theorem dL_law_669 : decode cL_law 669 = .ok (.ireturn, 1) := by decide +kernel
theorem dL_law_670 : decode cL_law 670 = .ok (.aload_n 1, 1) := by decide +kernel
theorem dL_law_671 : decode cL_law 671 = .ok (.aload_n 0, 1) := by decide +kernel
theorem dL_law_672 : decode cL_law 672 = .ok (.iload 4, 2) := by decide +kernel
theorem dL_law_674 : decode cL_law 674 = .ok (.iconst 1, 1) := by decide +kernel
theorem dL_law_675 : decode cL_law 675 = .ok (.iadd, 1) := by decide +kernel
theorem dL_law_676 : decode cL_law 676 = .ok (.iaload, 1) := by decide +kernel
theorem dL_law_677 : decode cL_law 677 = .ok (.invokevirtual 78, 3) := by decide +kernel
theorem dL_law_680 : decode cL_law 680 = .ok (.aload_n 2, 1) := by decide +kernel
theorem dL_law_681 : decode cL_law 681 = .ok (.aload_n 0, 1) := by decide +kernel
theorem dL_law_682 : decode cL_law 682 = .ok (.iload 4, 2) := by decide +kernel
theorem dL_law_684 : decode cL_law 684 = .ok (.iconst 1, 1) := by decide +kernel
theorem dL_law_685 : decode cL_law 685 = .ok (.iadd, 1) := by decide +kernel
theorem dL_law_686 : decode cL_law 686 = .ok (.iaload, 1) := by decide +kernel
theorem dL_law_687 : decode cL_law 687 = .ok (.invokevirtual 81, 3) := by decide +kernel
theorem dL_law_690 : decode cL_law 690 = .ok (.if_icmp .eq 999, 3) := by decide +kernel
theorem dL_law_693 : decode cL_law 693 = .ok (.iconst 0, 1) := by decide +kernel
theorem dL_law_694 : decode cL_law 694 = .ok (.ireturn, 1) := by decide +kernel
theorem dL_law_695 : decode cL_law 695 = .ok (.aload_n 1, 1) := by decide +kernel
theorem dL_law_696 : decode cL_law 696 = .ok (.aload_n 0, 1) := by decide +kernel
theorem dL_law_697 : decode cL_law 697 = .ok (.iload 4, 2) := by decide +kernel
theorem dL_law_699 : decode cL_law 699 = .ok (.iconst 1, 1) := by decide +kernel
theorem dL_law_700 : decode cL_law 700 = .ok (.iadd, 1) := by decide +kernel
theorem dL_law_701 : decode cL_law 701 = .ok (.iaload, 1) := by decide +kernel
theorem dL_law_702 : decode cL_law 702 = .ok (.aload_n 0, 1) := by decide +kernel
theorem dL_law_703 : decode cL_law 703 = .ok (.iload 4, 2) := by decide +kernel
theorem dL_law_705 : decode cL_law 705 = .ok (.iconst 2, 1) := by decide +kernel
theorem dL_law_706 : decode cL_law 706 = .ok (.iadd, 1) := by decide +kernel
theorem dL_law_707 : decode cL_law 707 = .ok (.iaload, 1) := by decide +kernel
theorem dL_law_708 : decode cL_law 708 = .ok (.invokevirtual 82, 3) := by decide +kernel
theorem dL_law_711 : decode cL_law 711 = .ok (.aload_n 2, 1) := by decide +kernel
theorem dL_law_712 : decode cL_law 712 = .ok (.aload_n 0, 1) := by decide +kernel
theorem dL_law_713 : decode cL_law 713 = .ok (.iload 4, 2) := by decide +kernel
theorem dL_law_715 : decode cL_law 715 = .ok (.iconst 1, 1) := by decide +kernel
theorem dL_law_716 : decode cL_law 716 = .ok (.iadd, 1) := by decide +kernel
theorem dL_law_717 : decode cL_law 717 = .ok (.iaload, 1) := by decide +kernel
theorem dL_law_718 : decode cL_law 718 = .ok (.aload_n 0, 1) := by decide +kernel
theorem dL_law_719 : decode cL_law 719 = .ok (.iload 4, 2) := by decide +kernel
theorem dL_law_721 : decode cL_law 721 = .ok (.iconst 2, 1) := by decide +kernel
theorem dL_law_722 : decode cL_law 722 = .ok (.iadd, 1) := by decide +kernel
theorem dL_law_723 : decode cL_law 723 = .ok (.iaload, 1) := by decide +kernel
theorem dL_law_724 : decode cL_law 724 = .ok (.invokevirtual 85, 3) := by decide +kernel
theorem dL_law_727 : decode cL_law 727 = .ok (.if_icmp .eq 962, 3) := by decide +kernel
theorem dL_law_730 : decode cL_law 730 = .ok (.iconst 0, 1) := by decide +kernel
theorem dL_law_731 : decode cL_law 731 = .ok (.ireturn, 1) := by decide +kernel
theorem dL_law_732 : decode cL_law 732 = .ok (.aload_n 1, 1) := by decide +kernel
theorem dL_law_733 : decode cL_law 733 = .ok (.aload_n 0, 1) := by decide +kernel
theorem dL_law_734 : decode cL_law 734 = .ok (.iload 4, 2) := by decide +kernel
theorem dL_law_736 : decode cL_law 736 = .ok (.iconst 1, 1) := by decide +kernel
theorem dL_law_737 : decode cL_law 737 = .ok (.iadd, 1) := by decide +kernel
theorem dL_law_738 : decode cL_law 738 = .ok (.iaload, 1) := by decide +kernel
theorem dL_law_739 : decode cL_law 739 = .ok (.aload_n 0, 1) := by decide +kernel
theorem dL_law_740 : decode cL_law 740 = .ok (.iload 4, 2) := by decide +kernel
theorem dL_law_742 : decode cL_law 742 = .ok (.iconst 2, 1) := by decide +kernel
theorem dL_law_743 : decode cL_law 743 = .ok (.iadd, 1) := by decide +kernel
theorem dL_law_744 : decode cL_law 744 = .ok (.iaload, 1) := by decide +kernel
theorem dL_law_745 : decode cL_law 745 = .ok (.invokevirtual 86, 3) := by decide +kernel
theorem dL_law_748 : decode cL_law 748 = .ok (.aload_n 2, 1) := by decide +kernel
theorem dL_law_749 : decode cL_law 749 = .ok (.aload_n 0, 1) := by decide +kernel
theorem dL_law_750 : decode cL_law 750 = .ok (.iload 4, 2) := by decide +kernel
theorem dL_law_752 : decode cL_law 752 = .ok (.iconst 1, 1) := by decide +kernel
theorem dL_law_753 : decode cL_law 753 = .ok (.iadd, 1) := by decide +kernel
theorem dL_law_754 : decode cL_law 754 = .ok (.iaload, 1) := by decide +kernel
theorem dL_law_755 : decode cL_law 755 = .ok (.aload_n 0, 1) := by decide +kernel
theorem dL_law_756 : decode cL_law 756 = .ok (.iload 4, 2) := by decide +kernel
theorem dL_law_758 : decode cL_law 758 = .ok (.iconst 2, 1) := by decide +kernel
theorem dL_law_759 : decode cL_law 759 = .ok (.iadd, 1) := by decide +kernel
theorem dL_law_760 : decode cL_law 760 = .ok (.iaload, 1) := by decide +kernel
theorem dL_law_761 : decode cL_law 761 = .ok (.invokevirtual 89, 3) := by decide +kernel
theorem dL_law_764 : decode cL_law 764 = .ok (.if_icmp .eq 925, 3) := by decide +kernel
theorem dL_law_767 : decode cL_law 767 = .ok (.iconst 0, 1) := by decide +kernel
theorem dL_law_768 : decode cL_law 768 = .ok (.ireturn, 1) := by decide +kernel
theorem dL_law_769 : decode cL_law 769 = .ok (.aload_n 1, 1) := by decide +kernel
theorem dL_law_770 : decode cL_law 770 = .ok (.invokevirtual 90, 3) := by decide +kernel
theorem dL_law_773 : decode cL_law 773 = .ok (.aload_n 2, 1) := by decide +kernel
theorem dL_law_774 : decode cL_law 774 = .ok (.invokevirtual 93, 3) := by decide +kernel
theorem dL_law_777 : decode cL_law 777 = .ok (.if_icmp .eq 912, 3) := by decide +kernel
theorem dL_law_780 : decode cL_law 780 = .ok (.iconst 0, 1) := by decide +kernel
theorem dL_law_781 : decode cL_law 781 = .ok (.ireturn, 1) := by decide +kernel
theorem dL_law_782 : decode cL_law 782 = .ok (.aload_n 1, 1) := by decide +kernel
theorem dL_law_783 : decode cL_law 783 = .ok (.aload_n 0, 1) := by decide +kernel
theorem dL_law_784 : decode cL_law 784 = .ok (.iload 4, 2) := by decide +kernel
theorem dL_law_786 : decode cL_law 786 = .ok (.iconst 1, 1) := by decide +kernel
theorem dL_law_787 : decode cL_law 787 = .ok (.iadd, 1) := by decide +kernel
theorem dL_law_788 : decode cL_law 788 = .ok (.iaload, 1) := by decide +kernel
theorem dL_law_789 : decode cL_law 789 = .ok (.invokevirtual 94, 3) := by decide +kernel
theorem dL_law_792 : decode cL_law 792 = .ok (.aload_n 2, 1) := by decide +kernel
theorem dL_law_793 : decode cL_law 793 = .ok (.aload_n 0, 1) := by decide +kernel
theorem dL_law_794 : decode cL_law 794 = .ok (.iload 4, 2) := by decide +kernel
theorem dL_law_796 : decode cL_law 796 = .ok (.iconst 1, 1) := by decide +kernel
theorem dL_law_797 : decode cL_law 797 = .ok (.iadd, 1) := by decide +kernel
theorem dL_law_798 : decode cL_law 798 = .ok (.iaload, 1) := by decide +kernel
theorem dL_law_799 : decode cL_law 799 = .ok (.invokevirtual 97, 3) := by decide +kernel
theorem dL_law_802 : decode cL_law 802 = .ok (.if_icmp .eq 887, 3) := by decide +kernel
theorem dL_law_805 : decode cL_law 805 = .ok (.iconst 0, 1) := by decide +kernel
theorem dL_law_806 : decode cL_law 806 = .ok (.ireturn, 1) := by decide +kernel
theorem dL_law_807 : decode cL_law 807 = .ok (.aload_n 1, 1) := by decide +kernel
theorem dL_law_808 : decode cL_law 808 = .ok (.invokevirtual 98, 3) := by decide +kernel
theorem dL_law_811 : decode cL_law 811 = .ok (.aload_n 2, 1) := by decide +kernel
theorem dL_law_812 : decode cL_law 812 = .ok (.invokevirtual 101, 3) := by decide +kernel
theorem dL_law_815 : decode cL_law 815 = .ok (.if_icmp .eq 874, 3) := by decide +kernel
theorem dL_law_818 : decode cL_law 818 = .ok (.iconst 0, 1) := by decide +kernel
theorem dL_law_819 : decode cL_law 819 = .ok (.ireturn, 1) := by decide +kernel
theorem dL_law_820 : decode cL_law 820 = .ok (.aload_n 1, 1) := by decide +kernel
theorem dL_law_821 : decode cL_law 821 = .ok (.aload_n 0, 1) := by decide +kernel
theorem dL_law_822 : decode cL_law 822 = .ok (.iload 4, 2) := by decide +kernel
theorem dL_law_824 : decode cL_law 824 = .ok (.iconst 1, 1) := by decide +kernel
theorem dL_law_825 : decode cL_law 825 = .ok (.iadd, 1) := by decide +kernel
theorem dL_law_826 : decode cL_law 826 = .ok (.iaload, 1) := by decide +kernel
theorem dL_law_827 : decode cL_law 827 = .ok (.aload_n 0, 1) := by decide +kernel
theorem dL_law_828 : decode cL_law 828 = .ok (.iload 4, 2) := by decide +kernel
theorem dL_law_830 : decode cL_law 830 = .ok (.iconst 2, 1) := by decide +kernel
theorem dL_law_831 : decode cL_law 831 = .ok (.iadd, 1) := by decide +kernel
theorem dL_law_832 : decode cL_law 832 = .ok (.iaload, 1) := by decide +kernel
theorem dL_law_833 : decode cL_law 833 = .ok (.aload_n 0, 1) := by decide +kernel
theorem dL_law_834 : decode cL_law 834 = .ok (.iload 4, 2) := by decide +kernel
theorem dL_law_836 : decode cL_law 836 = .ok (.iconst 3, 1) := by decide +kernel
theorem dL_law_837 : decode cL_law 837 = .ok (.iadd, 1) := by decide +kernel
theorem dL_law_838 : decode cL_law 838 = .ok (.iaload, 1) := by decide +kernel
theorem dL_law_839 : decode cL_law 839 = .ok (.aload_n 0, 1) := by decide +kernel
theorem dL_law_840 : decode cL_law 840 = .ok (.iload 4, 2) := by decide +kernel
theorem dL_law_842 : decode cL_law 842 = .ok (.iconst 4, 1) := by decide +kernel
theorem dL_law_843 : decode cL_law 843 = .ok (.iadd, 1) := by decide +kernel
theorem dL_law_844 : decode cL_law 844 = .ok (.iaload, 1) := by decide +kernel
theorem dL_law_845 : decode cL_law 845 = .ok (.invokevirtual 102, 3) := by decide +kernel
theorem dL_law_848 : decode cL_law 848 = .ok (.aload_n 2, 1) := by decide +kernel
theorem dL_law_849 : decode cL_law 849 = .ok (.aload_n 0, 1) := by decide +kernel
theorem dL_law_850 : decode cL_law 850 = .ok (.iload 4, 2) := by decide +kernel
theorem dL_law_852 : decode cL_law 852 = .ok (.iconst 1, 1) := by decide +kernel
theorem dL_law_853 : decode cL_law 853 = .ok (.iadd, 1) := by decide +kernel
theorem dL_law_854 : decode cL_law 854 = .ok (.iaload, 1) := by decide +kernel
theorem dL_law_855 : decode cL_law 855 = .ok (.aload_n 0, 1) := by decide +kernel
theorem dL_law_856 : decode cL_law 856 = .ok (.iload 4, 2) := by decide +kernel
theorem dL_law_858 : decode cL_law 858 = .ok (.iconst 2, 1) := by decide +kernel
theorem dL_law_859 : decode cL_law 859 = .ok (.iadd, 1) := by decide +kernel
theorem dL_law_860 : decode cL_law 860 = .ok (.iaload, 1) := by decide +kernel
theorem dL_law_861 : decode cL_law 861 = .ok (.aload_n 0, 1) := by decide +kernel
theorem dL_law_862 : decode cL_law 862 = .ok (.iload 4, 2) := by decide +kernel
theorem dL_law_864 : decode cL_law 864 = .ok (.iconst 3, 1) := by decide +kernel
theorem dL_law_865 : decode cL_law 865 = .ok (.iadd, 1) := by decide +kernel
theorem dL_law_866 : decode cL_law 866 = .ok (.iaload, 1) := by decide +kernel
theorem dL_law_867 : decode cL_law 867 = .ok (.aload_n 0, 1) := by decide +kernel
theorem dL_law_868 : decode cL_law 868 = .ok (.iload 4, 2) := by decide +kernel
theorem dL_law_870 : decode cL_law 870 = .ok (.iconst 4, 1) := by decide +kernel
theorem dL_law_871 : decode cL_law 871 = .ok (.iadd, 1) := by decide +kernel
theorem dL_law_872 : decode cL_law 872 = .ok (.iaload, 1) := by decide +kernel
theorem dL_law_873 : decode cL_law 873 = .ok (.invokevirtual 106, 3) := by decide +kernel
theorem dL_law_876 : decode cL_law 876 = .ok (.if_icmp .eq 813, 3) := by decide +kernel
theorem dL_law_879 : decode cL_law 879 = .ok (.iconst 0, 1) := by decide +kernel
theorem dL_law_880 : decode cL_law 880 = .ok (.ireturn, 1) := by decide +kernel
theorem dL_law_881 : decode cL_law 881 = .ok (.aload_n 1, 1) := by decide +kernel
theorem dL_law_882 : decode cL_law 882 = .ok (.aload_n 0, 1) := by decide +kernel
theorem dL_law_883 : decode cL_law 883 = .ok (.iload 4, 2) := by decide +kernel
theorem dL_law_885 : decode cL_law 885 = .ok (.iconst 1, 1) := by decide +kernel
theorem dL_law_886 : decode cL_law 886 = .ok (.iadd, 1) := by decide +kernel
theorem dL_law_887 : decode cL_law 887 = .ok (.iaload, 1) := by decide +kernel
theorem dL_law_888 : decode cL_law 888 = .ok (.invokevirtual 107, 3) := by decide +kernel
theorem dL_law_891 : decode cL_law 891 = .ok (.aload_n 2, 1) := by decide +kernel
theorem dL_law_892 : decode cL_law 892 = .ok (.aload_n 0, 1) := by decide +kernel
theorem dL_law_893 : decode cL_law 893 = .ok (.iload 4, 2) := by decide +kernel
theorem dL_law_895 : decode cL_law 895 = .ok (.iconst 1, 1) := by decide +kernel
theorem dL_law_896 : decode cL_law 896 = .ok (.iadd, 1) := by decide +kernel
theorem dL_law_897 : decode cL_law 897 = .ok (.iaload, 1) := by decide +kernel
theorem dL_law_898 : decode cL_law 898 = .ok (.invokevirtual 110, 3) := by decide +kernel
theorem dL_law_901 : decode cL_law 901 = .ok (.if_icmp .eq 788, 3) := by decide +kernel
theorem dL_law_904 : decode cL_law 904 = .ok (.iconst 0, 1) := by decide +kernel
theorem dL_law_905 : decode cL_law 905 = .ok (.ireturn, 1) := by decide +kernel
theorem dL_law_906 : decode cL_law 906 = .ok (.aload_n 1, 1) := by decide +kernel
theorem dL_law_907 : decode cL_law 907 = .ok (.aload_n 0, 1) := by decide +kernel
theorem dL_law_908 : decode cL_law 908 = .ok (.iload 4, 2) := by decide +kernel
theorem dL_law_910 : decode cL_law 910 = .ok (.iconst 1, 1) := by decide +kernel
theorem dL_law_911 : decode cL_law 911 = .ok (.iadd, 1) := by decide +kernel
theorem dL_law_912 : decode cL_law 912 = .ok (.iaload, 1) := by decide +kernel
theorem dL_law_913 : decode cL_law 913 = .ok (.aload_n 0, 1) := by decide +kernel
theorem dL_law_914 : decode cL_law 914 = .ok (.iload 4, 2) := by decide +kernel
theorem dL_law_916 : decode cL_law 916 = .ok (.iconst 2, 1) := by decide +kernel
theorem dL_law_917 : decode cL_law 917 = .ok (.iadd, 1) := by decide +kernel
theorem dL_law_918 : decode cL_law 918 = .ok (.iaload, 1) := by decide +kernel
theorem dL_law_919 : decode cL_law 919 = .ok (.aload_n 0, 1) := by decide +kernel
theorem dL_law_920 : decode cL_law 920 = .ok (.iload 4, 2) := by decide +kernel
theorem dL_law_922 : decode cL_law 922 = .ok (.iconst 3, 1) := by decide +kernel
theorem dL_law_923 : decode cL_law 923 = .ok (.iadd, 1) := by decide +kernel
theorem dL_law_924 : decode cL_law 924 = .ok (.iaload, 1) := by decide +kernel
theorem dL_law_925 : decode cL_law 925 = .ok (.aload_n 0, 1) := by decide +kernel
theorem dL_law_926 : decode cL_law 926 = .ok (.iload 4, 2) := by decide +kernel
theorem dL_law_928 : decode cL_law 928 = .ok (.iconst 4, 1) := by decide +kernel
theorem dL_law_929 : decode cL_law 929 = .ok (.iadd, 1) := by decide +kernel
theorem dL_law_930 : decode cL_law 930 = .ok (.iaload, 1) := by decide +kernel
theorem dL_law_931 : decode cL_law 931 = .ok (.ifCond .eq 7, 3) := by decide +kernel
theorem dL_law_934 : decode cL_law 934 = .ok (.iconst 1, 1) := by decide +kernel
theorem dL_law_935 : decode cL_law 935 = .ok (.goto 4, 3) := by decide +kernel
theorem dL_law_938 : decode cL_law 938 = .ok (.iconst 0, 1) := by decide +kernel
theorem dL_law_939 : decode cL_law 939 = .ok (.invokevirtual 111, 3) := by decide +kernel
theorem dL_law_942 : decode cL_law 942 = .ok (.aload_n 2, 1) := by decide +kernel
theorem dL_law_943 : decode cL_law 943 = .ok (.aload_n 0, 1) := by decide +kernel
theorem dL_law_944 : decode cL_law 944 = .ok (.iload 4, 2) := by decide +kernel
theorem dL_law_946 : decode cL_law 946 = .ok (.iconst 1, 1) := by decide +kernel
theorem dL_law_947 : decode cL_law 947 = .ok (.iadd, 1) := by decide +kernel
theorem dL_law_948 : decode cL_law 948 = .ok (.iaload, 1) := by decide +kernel
theorem dL_law_949 : decode cL_law 949 = .ok (.aload_n 0, 1) := by decide +kernel
theorem dL_law_950 : decode cL_law 950 = .ok (.iload 4, 2) := by decide +kernel
theorem dL_law_952 : decode cL_law 952 = .ok (.iconst 2, 1) := by decide +kernel
theorem dL_law_953 : decode cL_law 953 = .ok (.iadd, 1) := by decide +kernel
theorem dL_law_954 : decode cL_law 954 = .ok (.iaload, 1) := by decide +kernel
theorem dL_law_955 : decode cL_law 955 = .ok (.aload_n 0, 1) := by decide +kernel
theorem dL_law_956 : decode cL_law 956 = .ok (.iload 4, 2) := by decide +kernel
theorem dL_law_958 : decode cL_law 958 = .ok (.iconst 3, 1) := by decide +kernel
theorem dL_law_959 : decode cL_law 959 = .ok (.iadd, 1) := by decide +kernel
theorem dL_law_960 : decode cL_law 960 = .ok (.iaload, 1) := by decide +kernel
theorem dL_law_961 : decode cL_law 961 = .ok (.aload_n 0, 1) := by decide +kernel
theorem dL_law_962 : decode cL_law 962 = .ok (.iload 4, 2) := by decide +kernel
theorem dL_law_964 : decode cL_law 964 = .ok (.iconst 4, 1) := by decide +kernel
theorem dL_law_965 : decode cL_law 965 = .ok (.iadd, 1) := by decide +kernel
theorem dL_law_966 : decode cL_law 966 = .ok (.iaload, 1) := by decide +kernel
theorem dL_law_967 : decode cL_law 967 = .ok (.ifCond .eq 7, 3) := by decide +kernel
theorem dL_law_970 : decode cL_law 970 = .ok (.iconst 1, 1) := by decide +kernel
theorem dL_law_971 : decode cL_law 971 = .ok (.goto 4, 3) := by decide +kernel
theorem dL_law_974 : decode cL_law 974 = .ok (.iconst 0, 1) := by decide +kernel
theorem dL_law_975 : decode cL_law 975 = .ok (.invokevirtual 115, 3) := by decide +kernel
theorem dL_law_978 : decode cL_law 978 = .ok (.if_icmp .eq 711, 3) := by decide +kernel
theorem dL_law_981 : decode cL_law 981 = .ok (.iconst 0, 1) := by decide +kernel
theorem dL_law_982 : decode cL_law 982 = .ok (.ireturn, 1) := by decide +kernel
theorem dL_law_983 : decode cL_law 983 = .ok (.aload_n 1, 1) := by decide +kernel
theorem dL_law_984 : decode cL_law 984 = .ok (.aload_n 0, 1) := by decide +kernel
theorem dL_law_985 : decode cL_law 985 = .ok (.iload 4, 2) := by decide +kernel
theorem dL_law_987 : decode cL_law 987 = .ok (.iconst 1, 1) := by decide +kernel
theorem dL_law_988 : decode cL_law 988 = .ok (.iadd, 1) := by decide +kernel
theorem dL_law_989 : decode cL_law 989 = .ok (.iaload, 1) := by decide +kernel
theorem dL_law_990 : decode cL_law 990 = .ok (.aload_n 0, 1) := by decide +kernel
theorem dL_law_991 : decode cL_law 991 = .ok (.iload 4, 2) := by decide +kernel
theorem dL_law_993 : decode cL_law 993 = .ok (.iconst 2, 1) := by decide +kernel
theorem dL_law_994 : decode cL_law 994 = .ok (.iadd, 1) := by decide +kernel
theorem dL_law_995 : decode cL_law 995 = .ok (.iaload, 1) := by decide +kernel
theorem dL_law_996 : decode cL_law 996 = .ok (.invokevirtual 116, 3) := by decide +kernel
theorem dL_law_999 : decode cL_law 999 = .ok (.aload_n 2, 1) := by decide +kernel
theorem dL_law_1000 : decode cL_law 1000 = .ok (.aload_n 0, 1) := by decide +kernel
theorem dL_law_1001 : decode cL_law 1001 = .ok (.iload 4, 2) := by decide +kernel
theorem dL_law_1003 : decode cL_law 1003 = .ok (.iconst 1, 1) := by decide +kernel
theorem dL_law_1004 : decode cL_law 1004 = .ok (.iadd, 1) := by decide +kernel
theorem dL_law_1005 : decode cL_law 1005 = .ok (.iaload, 1) := by decide +kernel
theorem dL_law_1006 : decode cL_law 1006 = .ok (.aload_n 0, 1) := by decide +kernel
theorem dL_law_1007 : decode cL_law 1007 = .ok (.iload 4, 2) := by decide +kernel
theorem dL_law_1009 : decode cL_law 1009 = .ok (.iconst 2, 1) := by decide +kernel
theorem dL_law_1010 : decode cL_law 1010 = .ok (.iadd, 1) := by decide +kernel
theorem dL_law_1011 : decode cL_law 1011 = .ok (.iaload, 1) := by decide +kernel
theorem dL_law_1012 : decode cL_law 1012 = .ok (.invokevirtual 119, 3) := by decide +kernel
theorem dL_law_1015 : decode cL_law 1015 = .ok (.if_icmp .eq 674, 3) := by decide +kernel
theorem dL_law_1018 : decode cL_law 1018 = .ok (.iconst 0, 1) := by decide +kernel
theorem dL_law_1019 : decode cL_law 1019 = .ok (.ireturn, 1) := by decide +kernel
theorem dL_law_1020 : decode cL_law 1020 = .ok (.aload_n 1, 1) := by decide +kernel
theorem dL_law_1021 : decode cL_law 1021 = .ok (.aload_n 0, 1) := by decide +kernel
theorem dL_law_1022 : decode cL_law 1022 = .ok (.iload 4, 2) := by decide +kernel
theorem dL_law_1024 : decode cL_law 1024 = .ok (.iconst 1, 1) := by decide +kernel
theorem dL_law_1025 : decode cL_law 1025 = .ok (.iadd, 1) := by decide +kernel
theorem dL_law_1026 : decode cL_law 1026 = .ok (.iaload, 1) := by decide +kernel
theorem dL_law_1027 : decode cL_law 1027 = .ok (.invokevirtual 120, 3) := by decide +kernel
theorem dL_law_1030 : decode cL_law 1030 = .ok (.aload_n 2, 1) := by decide +kernel
theorem dL_law_1031 : decode cL_law 1031 = .ok (.aload_n 0, 1) := by decide +kernel
theorem dL_law_1032 : decode cL_law 1032 = .ok (.iload 4, 2) := by decide +kernel
theorem dL_law_1034 : decode cL_law 1034 = .ok (.iconst 1, 1) := by decide +kernel
theorem dL_law_1035 : decode cL_law 1035 = .ok (.iadd, 1) := by decide +kernel
theorem dL_law_1036 : decode cL_law 1036 = .ok (.iaload, 1) := by decide +kernel
theorem dL_law_1037 : decode cL_law 1037 = .ok (.invokevirtual 123, 3) := by decide +kernel
theorem dL_law_1040 : decode cL_law 1040 = .ok (.if_icmp .eq 649, 3) := by decide +kernel
theorem dL_law_1043 : decode cL_law 1043 = .ok (.iconst 0, 1) := by decide +kernel
theorem dL_law_1044 : decode cL_law 1044 = .ok (.ireturn, 1) := by decide +kernel
theorem dL_law_1045 : decode cL_law 1045 = .ok (.aload_n 1, 1) := by decide +kernel
theorem dL_law_1046 : decode cL_law 1046 = .ok (.aload_n 0, 1) := by decide +kernel
theorem dL_law_1047 : decode cL_law 1047 = .ok (.iload 4, 2) := by decide +kernel
theorem dL_law_1049 : decode cL_law 1049 = .ok (.iconst 1, 1) := by decide +kernel
theorem dL_law_1050 : decode cL_law 1050 = .ok (.iadd, 1) := by decide +kernel
theorem dL_law_1051 : decode cL_law 1051 = .ok (.iaload, 1) := by decide +kernel
theorem dL_law_1052 : decode cL_law 1052 = .ok (.aload_n 0, 1) := by decide +kernel
theorem dL_law_1053 : decode cL_law 1053 = .ok (.iload 4, 2) := by decide +kernel
theorem dL_law_1055 : decode cL_law 1055 = .ok (.iconst 2, 1) := by decide +kernel
theorem dL_law_1056 : decode cL_law 1056 = .ok (.iadd, 1) := by decide +kernel
theorem dL_law_1057 : decode cL_law 1057 = .ok (.iaload, 1) := by decide +kernel
theorem dL_law_1058 : decode cL_law 1058 = .ok (.invokevirtual 124, 3) := by decide +kernel
theorem dL_law_1061 : decode cL_law 1061 = .ok (.aload_n 2, 1) := by decide +kernel
theorem dL_law_1062 : decode cL_law 1062 = .ok (.aload_n 0, 1) := by decide +kernel
theorem dL_law_1063 : decode cL_law 1063 = .ok (.iload 4, 2) := by decide +kernel
theorem dL_law_1065 : decode cL_law 1065 = .ok (.iconst 1, 1) := by decide +kernel
theorem dL_law_1066 : decode cL_law 1066 = .ok (.iadd, 1) := by decide +kernel
theorem dL_law_1067 : decode cL_law 1067 = .ok (.iaload, 1) := by decide +kernel
theorem dL_law_1068 : decode cL_law 1068 = .ok (.aload_n 0, 1) := by decide +kernel
theorem dL_law_1069 : decode cL_law 1069 = .ok (.iload 4, 2) := by decide +kernel
theorem dL_law_1071 : decode cL_law 1071 = .ok (.iconst 2, 1) := by decide +kernel
theorem dL_law_1072 : decode cL_law 1072 = .ok (.iadd, 1) := by decide +kernel
theorem dL_law_1073 : decode cL_law 1073 = .ok (.iaload, 1) := by decide +kernel
theorem dL_law_1074 : decode cL_law 1074 = .ok (.invokevirtual 127, 3) := by decide +kernel
theorem dL_law_1077 : decode cL_law 1077 = .ok (.if_icmp .eq 612, 3) := by decide +kernel
theorem dL_law_1080 : decode cL_law 1080 = .ok (.iconst 0, 1) := by decide +kernel
theorem dL_law_1081 : decode cL_law 1081 = .ok (.ireturn, 1) := by decide +kernel
theorem dL_law_1082 : decode cL_law 1082 = .ok (.aload_n 1, 1) := by decide +kernel
theorem dL_law_1083 : decode cL_law 1083 = .ok (.aload_n 0, 1) := by decide +kernel
theorem dL_law_1084 : decode cL_law 1084 = .ok (.iload 4, 2) := by decide +kernel
theorem dL_law_1086 : decode cL_law 1086 = .ok (.iconst 1, 1) := by decide +kernel
theorem dL_law_1087 : decode cL_law 1087 = .ok (.iadd, 1) := by decide +kernel
theorem dL_law_1088 : decode cL_law 1088 = .ok (.iaload, 1) := by decide +kernel
theorem dL_law_1089 : decode cL_law 1089 = .ok (.aload_n 0, 1) := by decide +kernel
theorem dL_law_1090 : decode cL_law 1090 = .ok (.iload 4, 2) := by decide +kernel
theorem dL_law_1092 : decode cL_law 1092 = .ok (.iconst 2, 1) := by decide +kernel
theorem dL_law_1093 : decode cL_law 1093 = .ok (.iadd, 1) := by decide +kernel
theorem dL_law_1094 : decode cL_law 1094 = .ok (.iaload, 1) := by decide +kernel
theorem dL_law_1095 : decode cL_law 1095 = .ok (.invokevirtual 128, 3) := by decide +kernel
theorem dL_law_1098 : decode cL_law 1098 = .ok (.aload_n 2, 1) := by decide +kernel
theorem dL_law_1099 : decode cL_law 1099 = .ok (.aload_n 0, 1) := by decide +kernel
theorem dL_law_1100 : decode cL_law 1100 = .ok (.iload 4, 2) := by decide +kernel
theorem dL_law_1102 : decode cL_law 1102 = .ok (.iconst 1, 1) := by decide +kernel
theorem dL_law_1103 : decode cL_law 1103 = .ok (.iadd, 1) := by decide +kernel
theorem dL_law_1104 : decode cL_law 1104 = .ok (.iaload, 1) := by decide +kernel
theorem dL_law_1105 : decode cL_law 1105 = .ok (.aload_n 0, 1) := by decide +kernel
theorem dL_law_1106 : decode cL_law 1106 = .ok (.iload 4, 2) := by decide +kernel
theorem dL_law_1108 : decode cL_law 1108 = .ok (.iconst 2, 1) := by decide +kernel
theorem dL_law_1109 : decode cL_law 1109 = .ok (.iadd, 1) := by decide +kernel
theorem dL_law_1110 : decode cL_law 1110 = .ok (.iaload, 1) := by decide +kernel
theorem dL_law_1111 : decode cL_law 1111 = .ok (.invokevirtual 131, 3) := by decide +kernel
theorem dL_law_1114 : decode cL_law 1114 = .ok (.if_icmp .eq 575, 3) := by decide +kernel
theorem dL_law_1117 : decode cL_law 1117 = .ok (.iconst 0, 1) := by decide +kernel
theorem dL_law_1118 : decode cL_law 1118 = .ok (.ireturn, 1) := by decide +kernel
theorem dL_law_1119 : decode cL_law 1119 = .ok (.aload_n 1, 1) := by decide +kernel
theorem dL_law_1120 : decode cL_law 1120 = .ok (.aload_n 0, 1) := by decide +kernel
theorem dL_law_1121 : decode cL_law 1121 = .ok (.iload 4, 2) := by decide +kernel
theorem dL_law_1123 : decode cL_law 1123 = .ok (.iconst 1, 1) := by decide +kernel
theorem dL_law_1124 : decode cL_law 1124 = .ok (.iadd, 1) := by decide +kernel
theorem dL_law_1125 : decode cL_law 1125 = .ok (.iaload, 1) := by decide +kernel
theorem dL_law_1126 : decode cL_law 1126 = .ok (.aload_n 0, 1) := by decide +kernel
theorem dL_law_1127 : decode cL_law 1127 = .ok (.iload 4, 2) := by decide +kernel
theorem dL_law_1129 : decode cL_law 1129 = .ok (.iconst 2, 1) := by decide +kernel
theorem dL_law_1130 : decode cL_law 1130 = .ok (.iadd, 1) := by decide +kernel
theorem dL_law_1131 : decode cL_law 1131 = .ok (.iaload, 1) := by decide +kernel
theorem dL_law_1132 : decode cL_law 1132 = .ok (.aload_n 0, 1) := by decide +kernel
theorem dL_law_1133 : decode cL_law 1133 = .ok (.iload 4, 2) := by decide +kernel
theorem dL_law_1135 : decode cL_law 1135 = .ok (.iconst 3, 1) := by decide +kernel
theorem dL_law_1136 : decode cL_law 1136 = .ok (.iadd, 1) := by decide +kernel
theorem dL_law_1137 : decode cL_law 1137 = .ok (.iaload, 1) := by decide +kernel
theorem dL_law_1138 : decode cL_law 1138 = .ok (.aload_n 0, 1) := by decide +kernel
theorem dL_law_1139 : decode cL_law 1139 = .ok (.iload 4, 2) := by decide +kernel
theorem dL_law_1141 : decode cL_law 1141 = .ok (.iconst 4, 1) := by decide +kernel
theorem dL_law_1142 : decode cL_law 1142 = .ok (.iadd, 1) := by decide +kernel
theorem dL_law_1143 : decode cL_law 1143 = .ok (.iaload, 1) := by decide +kernel
theorem dL_law_1144 : decode cL_law 1144 = .ok (.ifCond .eq 7, 3) := by decide +kernel
theorem dL_law_1147 : decode cL_law 1147 = .ok (.iconst 1, 1) := by decide +kernel
theorem dL_law_1148 : decode cL_law 1148 = .ok (.goto 4, 3) := by decide +kernel
theorem dL_law_1151 : decode cL_law 1151 = .ok (.iconst 0, 1) := by decide +kernel
theorem dL_law_1152 : decode cL_law 1152 = .ok (.invokevirtual 132, 3) := by decide +kernel
theorem dL_law_1155 : decode cL_law 1155 = .ok (.aload_n 2, 1) := by decide +kernel
theorem dL_law_1156 : decode cL_law 1156 = .ok (.aload_n 0, 1) := by decide +kernel
theorem dL_law_1157 : decode cL_law 1157 = .ok (.iload 4, 2) := by decide +kernel
theorem dL_law_1159 : decode cL_law 1159 = .ok (.iconst 1, 1) := by decide +kernel
theorem dL_law_1160 : decode cL_law 1160 = .ok (.iadd, 1) := by decide +kernel
theorem dL_law_1161 : decode cL_law 1161 = .ok (.iaload, 1) := by decide +kernel
theorem dL_law_1162 : decode cL_law 1162 = .ok (.aload_n 0, 1) := by decide +kernel
theorem dL_law_1163 : decode cL_law 1163 = .ok (.iload 4, 2) := by decide +kernel
theorem dL_law_1165 : decode cL_law 1165 = .ok (.iconst 2, 1) := by decide +kernel
theorem dL_law_1166 : decode cL_law 1166 = .ok (.iadd, 1) := by decide +kernel
theorem dL_law_1167 : decode cL_law 1167 = .ok (.iaload, 1) := by decide +kernel
theorem dL_law_1168 : decode cL_law 1168 = .ok (.aload_n 0, 1) := by decide +kernel
theorem dL_law_1169 : decode cL_law 1169 = .ok (.iload 4, 2) := by decide +kernel
theorem dL_law_1171 : decode cL_law 1171 = .ok (.iconst 3, 1) := by decide +kernel
theorem dL_law_1172 : decode cL_law 1172 = .ok (.iadd, 1) := by decide +kernel
theorem dL_law_1173 : decode cL_law 1173 = .ok (.iaload, 1) := by decide +kernel
theorem dL_law_1174 : decode cL_law 1174 = .ok (.aload_n 0, 1) := by decide +kernel
theorem dL_law_1175 : decode cL_law 1175 = .ok (.iload 4, 2) := by decide +kernel
theorem dL_law_1177 : decode cL_law 1177 = .ok (.iconst 4, 1) := by decide +kernel
theorem dL_law_1178 : decode cL_law 1178 = .ok (.iadd, 1) := by decide +kernel
theorem dL_law_1179 : decode cL_law 1179 = .ok (.iaload, 1) := by decide +kernel
theorem dL_law_1180 : decode cL_law 1180 = .ok (.ifCond .eq 7, 3) := by decide +kernel
theorem dL_law_1183 : decode cL_law 1183 = .ok (.iconst 1, 1) := by decide +kernel
theorem dL_law_1184 : decode cL_law 1184 = .ok (.goto 4, 3) := by decide +kernel
theorem dL_law_1187 : decode cL_law 1187 = .ok (.iconst 0, 1) := by decide +kernel
theorem dL_law_1188 : decode cL_law 1188 = .ok (.invokevirtual 135, 3) := by decide +kernel
theorem dL_law_1191 : decode cL_law 1191 = .ok (.if_icmp .eq 498, 3) := by decide +kernel
theorem dL_law_1194 : decode cL_law 1194 = .ok (.iconst 0, 1) := by decide +kernel
theorem dL_law_1195 : decode cL_law 1195 = .ok (.ireturn, 1) := by decide +kernel
theorem dL_law_1196 : decode cL_law 1196 = .ok (.aload_n 1, 1) := by decide +kernel
theorem dL_law_1197 : decode cL_law 1197 = .ok (.aload_n 0, 1) := by decide +kernel
theorem dL_law_1198 : decode cL_law 1198 = .ok (.iload 4, 2) := by decide +kernel
theorem dL_law_1200 : decode cL_law 1200 = .ok (.iconst 1, 1) := by decide +kernel
theorem dL_law_1201 : decode cL_law 1201 = .ok (.iadd, 1) := by decide +kernel
theorem dL_law_1202 : decode cL_law 1202 = .ok (.iaload, 1) := by decide +kernel
theorem dL_law_1203 : decode cL_law 1203 = .ok (.aload_n 0, 1) := by decide +kernel
theorem dL_law_1204 : decode cL_law 1204 = .ok (.iload 4, 2) := by decide +kernel
theorem dL_law_1206 : decode cL_law 1206 = .ok (.iconst 2, 1) := by decide +kernel
theorem dL_law_1207 : decode cL_law 1207 = .ok (.iadd, 1) := by decide +kernel
theorem dL_law_1208 : decode cL_law 1208 = .ok (.iaload, 1) := by decide +kernel
theorem dL_law_1209 : decode cL_law 1209 = .ok (.aload_n 0, 1) := by decide +kernel
theorem dL_law_1210 : decode cL_law 1210 = .ok (.iload 4, 2) := by decide +kernel
theorem dL_law_1212 : decode cL_law 1212 = .ok (.iconst 3, 1) := by decide +kernel
theorem dL_law_1213 : decode cL_law 1213 = .ok (.iadd, 1) := by decide +kernel
theorem dL_law_1214 : decode cL_law 1214 = .ok (.iaload, 1) := by decide +kernel
theorem dL_law_1215 : decode cL_law 1215 = .ok (.aload_n 0, 1) := by decide +kernel
theorem dL_law_1216 : decode cL_law 1216 = .ok (.iload 4, 2) := by decide +kernel
theorem dL_law_1218 : decode cL_law 1218 = .ok (.iconst 4, 1) := by decide +kernel
theorem dL_law_1219 : decode cL_law 1219 = .ok (.iadd, 1) := by decide +kernel
theorem dL_law_1220 : decode cL_law 1220 = .ok (.iaload, 1) := by decide +kernel
theorem dL_law_1221 : decode cL_law 1221 = .ok (.invokevirtual 136, 3) := by decide +kernel
theorem dL_law_1224 : decode cL_law 1224 = .ok (.aload_n 2, 1) := by decide +kernel
theorem dL_law_1225 : decode cL_law 1225 = .ok (.aload_n 0, 1) := by decide +kernel
theorem dL_law_1226 : decode cL_law 1226 = .ok (.iload 4, 2) := by decide +kernel
theorem dL_law_1228 : decode cL_law 1228 = .ok (.iconst 1, 1) := by decide +kernel
theorem dL_law_1229 : decode cL_law 1229 = .ok (.iadd, 1) := by decide +kernel
theorem dL_law_1230 : decode cL_law 1230 = .ok (.iaload, 1) := by decide +kernel
theorem dL_law_1231 : decode cL_law 1231 = .ok (.aload_n 0, 1) := by decide +kernel
theorem dL_law_1232 : decode cL_law 1232 = .ok (.iload 4, 2) := by decide +kernel
theorem dL_law_1234 : decode cL_law 1234 = .ok (.iconst 2, 1) := by decide +kernel
theorem dL_law_1235 : decode cL_law 1235 = .ok (.iadd, 1) := by decide +kernel
theorem dL_law_1236 : decode cL_law 1236 = .ok (.iaload, 1) := by decide +kernel
theorem dL_law_1237 : decode cL_law 1237 = .ok (.aload_n 0, 1) := by decide +kernel
theorem dL_law_1238 : decode cL_law 1238 = .ok (.iload 4, 2) := by decide +kernel
theorem dL_law_1240 : decode cL_law 1240 = .ok (.iconst 3, 1) := by decide +kernel
theorem dL_law_1241 : decode cL_law 1241 = .ok (.iadd, 1) := by decide +kernel
theorem dL_law_1242 : decode cL_law 1242 = .ok (.iaload, 1) := by decide +kernel
theorem dL_law_1243 : decode cL_law 1243 = .ok (.aload_n 0, 1) := by decide +kernel
theorem dL_law_1244 : decode cL_law 1244 = .ok (.iload 4, 2) := by decide +kernel
theorem dL_law_1246 : decode cL_law 1246 = .ok (.iconst 4, 1) := by decide +kernel
theorem dL_law_1247 : decode cL_law 1247 = .ok (.iadd, 1) := by decide +kernel
theorem dL_law_1248 : decode cL_law 1248 = .ok (.iaload, 1) := by decide +kernel
theorem dL_law_1249 : decode cL_law 1249 = .ok (.invokevirtual 140, 3) := by decide +kernel
theorem dL_law_1252 : decode cL_law 1252 = .ok (.if_icmp .eq 437, 3) := by decide +kernel
theorem dL_law_1255 : decode cL_law 1255 = .ok (.iconst 0, 1) := by decide +kernel
theorem dL_law_1256 : decode cL_law 1256 = .ok (.ireturn, 1) := by decide +kernel
theorem dL_law_1257 : decode cL_law 1257 = .ok (.aload_n 1, 1) := by decide +kernel
theorem dL_law_1258 : decode cL_law 1258 = .ok (.aload_n 0, 1) := by decide +kernel
theorem dL_law_1259 : decode cL_law 1259 = .ok (.iload 4, 2) := by decide +kernel
theorem dL_law_1261 : decode cL_law 1261 = .ok (.iconst 1, 1) := by decide +kernel
theorem dL_law_1262 : decode cL_law 1262 = .ok (.iadd, 1) := by decide +kernel
theorem dL_law_1263 : decode cL_law 1263 = .ok (.iaload, 1) := by decide +kernel
theorem dL_law_1264 : decode cL_law 1264 = .ok (.aload_n 0, 1) := by decide +kernel
theorem dL_law_1265 : decode cL_law 1265 = .ok (.iload 4, 2) := by decide +kernel
theorem dL_law_1267 : decode cL_law 1267 = .ok (.iconst 2, 1) := by decide +kernel
theorem dL_law_1268 : decode cL_law 1268 = .ok (.iadd, 1) := by decide +kernel
theorem dL_law_1269 : decode cL_law 1269 = .ok (.iaload, 1) := by decide +kernel
theorem dL_law_1270 : decode cL_law 1270 = .ok (.invokevirtual 141, 3) := by decide +kernel
theorem dL_law_1273 : decode cL_law 1273 = .ok (.aload_n 2, 1) := by decide +kernel
theorem dL_law_1274 : decode cL_law 1274 = .ok (.aload_n 0, 1) := by decide +kernel
theorem dL_law_1275 : decode cL_law 1275 = .ok (.iload 4, 2) := by decide +kernel
theorem dL_law_1277 : decode cL_law 1277 = .ok (.iconst 1, 1) := by decide +kernel
theorem dL_law_1278 : decode cL_law 1278 = .ok (.iadd, 1) := by decide +kernel
theorem dL_law_1279 : decode cL_law 1279 = .ok (.iaload, 1) := by decide +kernel
theorem dL_law_1280 : decode cL_law 1280 = .ok (.aload_n 0, 1) := by decide +kernel
theorem dL_law_1281 : decode cL_law 1281 = .ok (.iload 4, 2) := by decide +kernel
theorem dL_law_1283 : decode cL_law 1283 = .ok (.iconst 2, 1) := by decide +kernel
theorem dL_law_1284 : decode cL_law 1284 = .ok (.iadd, 1) := by decide +kernel
theorem dL_law_1285 : decode cL_law 1285 = .ok (.iaload, 1) := by decide +kernel
theorem dL_law_1286 : decode cL_law 1286 = .ok (.invokevirtual 145, 3) := by decide +kernel
theorem dL_law_1289 : decode cL_law 1289 = .ok (.if_icmp .eq 400, 3) := by decide +kernel
theorem dL_law_1292 : decode cL_law 1292 = .ok (.iconst 0, 1) := by decide +kernel
theorem dL_law_1293 : decode cL_law 1293 = .ok (.ireturn, 1) := by decide +kernel
theorem dL_law_1294 : decode cL_law 1294 = .ok (.aload_n 1, 1) := by decide +kernel
theorem dL_law_1295 : decode cL_law 1295 = .ok (.aload_n 0, 1) := by decide +kernel
theorem dL_law_1296 : decode cL_law 1296 = .ok (.iload 4, 2) := by decide +kernel
theorem dL_law_1298 : decode cL_law 1298 = .ok (.iconst 1, 1) := by decide +kernel
theorem dL_law_1299 : decode cL_law 1299 = .ok (.iadd, 1) := by decide +kernel
theorem dL_law_1300 : decode cL_law 1300 = .ok (.iaload, 1) := by decide +kernel
theorem dL_law_1301 : decode cL_law 1301 = .ok (.aload_n 0, 1) := by decide +kernel
theorem dL_law_1302 : decode cL_law 1302 = .ok (.iload 4, 2) := by decide +kernel
theorem dL_law_1304 : decode cL_law 1304 = .ok (.iconst 2, 1) := by decide +kernel
theorem dL_law_1305 : decode cL_law 1305 = .ok (.iadd, 1) := by decide +kernel
theorem dL_law_1306 : decode cL_law 1306 = .ok (.iaload, 1) := by decide +kernel
theorem dL_law_1307 : decode cL_law 1307 = .ok (.aload_n 0, 1) := by decide +kernel
theorem dL_law_1308 : decode cL_law 1308 = .ok (.iload 4, 2) := by decide +kernel
theorem dL_law_1310 : decode cL_law 1310 = .ok (.iconst 3, 1) := by decide +kernel
theorem dL_law_1311 : decode cL_law 1311 = .ok (.iadd, 1) := by decide +kernel
theorem dL_law_1312 : decode cL_law 1312 = .ok (.iaload, 1) := by decide +kernel
theorem dL_law_1313 : decode cL_law 1313 = .ok (.invokevirtual 146, 3) := by decide +kernel
theorem dL_law_1316 : decode cL_law 1316 = .ok (.aload_n 2, 1) := by decide +kernel
theorem dL_law_1317 : decode cL_law 1317 = .ok (.aload_n 0, 1) := by decide +kernel
theorem dL_law_1318 : decode cL_law 1318 = .ok (.iload 4, 2) := by decide +kernel
theorem dL_law_1320 : decode cL_law 1320 = .ok (.iconst 1, 1) := by decide +kernel
theorem dL_law_1321 : decode cL_law 1321 = .ok (.iadd, 1) := by decide +kernel
theorem dL_law_1322 : decode cL_law 1322 = .ok (.iaload, 1) := by decide +kernel
theorem dL_law_1323 : decode cL_law 1323 = .ok (.aload_n 0, 1) := by decide +kernel
theorem dL_law_1324 : decode cL_law 1324 = .ok (.iload 4, 2) := by decide +kernel
theorem dL_law_1326 : decode cL_law 1326 = .ok (.iconst 2, 1) := by decide +kernel
theorem dL_law_1327 : decode cL_law 1327 = .ok (.iadd, 1) := by decide +kernel
theorem dL_law_1328 : decode cL_law 1328 = .ok (.iaload, 1) := by decide +kernel
theorem dL_law_1329 : decode cL_law 1329 = .ok (.aload_n 0, 1) := by decide +kernel
theorem dL_law_1330 : decode cL_law 1330 = .ok (.iload 4, 2) := by decide +kernel
theorem dL_law_1332 : decode cL_law 1332 = .ok (.iconst 3, 1) := by decide +kernel
theorem dL_law_1333 : decode cL_law 1333 = .ok (.iadd, 1) := by decide +kernel
theorem dL_law_1334 : decode cL_law 1334 = .ok (.iaload, 1) := by decide +kernel
theorem dL_law_1335 : decode cL_law 1335 = .ok (.invokevirtual 150, 3) := by decide +kernel
theorem dL_law_1338 : decode cL_law 1338 = .ok (.if_icmp .eq 351, 3) := by decide +kernel
theorem dL_law_1341 : decode cL_law 1341 = .ok (.iconst 0, 1) := by decide +kernel
theorem dL_law_1342 : decode cL_law 1342 = .ok (.ireturn, 1) := by decide +kernel
theorem dL_law_1343 : decode cL_law 1343 = .ok (.aload_n 1, 1) := by decide +kernel
theorem dL_law_1344 : decode cL_law 1344 = .ok (.aload_n 0, 1) := by decide +kernel
theorem dL_law_1345 : decode cL_law 1345 = .ok (.iload 4, 2) := by decide +kernel
theorem dL_law_1347 : decode cL_law 1347 = .ok (.iconst 1, 1) := by decide +kernel
theorem dL_law_1348 : decode cL_law 1348 = .ok (.iadd, 1) := by decide +kernel
theorem dL_law_1349 : decode cL_law 1349 = .ok (.iaload, 1) := by decide +kernel
theorem dL_law_1350 : decode cL_law 1350 = .ok (.aload_n 0, 1) := by decide +kernel
theorem dL_law_1351 : decode cL_law 1351 = .ok (.iload 4, 2) := by decide +kernel
theorem dL_law_1353 : decode cL_law 1353 = .ok (.iconst 2, 1) := by decide +kernel
theorem dL_law_1354 : decode cL_law 1354 = .ok (.iadd, 1) := by decide +kernel
theorem dL_law_1355 : decode cL_law 1355 = .ok (.iaload, 1) := by decide +kernel
theorem dL_law_1356 : decode cL_law 1356 = .ok (.aload_n 0, 1) := by decide +kernel
theorem dL_law_1357 : decode cL_law 1357 = .ok (.iload 4, 2) := by decide +kernel
theorem dL_law_1359 : decode cL_law 1359 = .ok (.iconst 3, 1) := by decide +kernel
theorem dL_law_1360 : decode cL_law 1360 = .ok (.iadd, 1) := by decide +kernel
theorem dL_law_1361 : decode cL_law 1361 = .ok (.iaload, 1) := by decide +kernel
theorem dL_law_1362 : decode cL_law 1362 = .ok (.ifCond .eq 7, 3) := by decide +kernel
theorem dL_law_1365 : decode cL_law 1365 = .ok (.iconst 1, 1) := by decide +kernel
theorem dL_law_1366 : decode cL_law 1366 = .ok (.goto 4, 3) := by decide +kernel
theorem dL_law_1369 : decode cL_law 1369 = .ok (.iconst 0, 1) := by decide +kernel
theorem dL_law_1370 : decode cL_law 1370 = .ok (.invokevirtual 151, 3) := by decide +kernel
theorem dL_law_1373 : decode cL_law 1373 = .ok (.aload_n 2, 1) := by decide +kernel
theorem dL_law_1374 : decode cL_law 1374 = .ok (.aload_n 0, 1) := by decide +kernel
theorem dL_law_1375 : decode cL_law 1375 = .ok (.iload 4, 2) := by decide +kernel
theorem dL_law_1377 : decode cL_law 1377 = .ok (.iconst 1, 1) := by decide +kernel
theorem dL_law_1378 : decode cL_law 1378 = .ok (.iadd, 1) := by decide +kernel
theorem dL_law_1379 : decode cL_law 1379 = .ok (.iaload, 1) := by decide +kernel
theorem dL_law_1380 : decode cL_law 1380 = .ok (.aload_n 0, 1) := by decide +kernel
theorem dL_law_1381 : decode cL_law 1381 = .ok (.iload 4, 2) := by decide +kernel
theorem dL_law_1383 : decode cL_law 1383 = .ok (.iconst 2, 1) := by decide +kernel
theorem dL_law_1384 : decode cL_law 1384 = .ok (.iadd, 1) := by decide +kernel
theorem dL_law_1385 : decode cL_law 1385 = .ok (.iaload, 1) := by decide +kernel
theorem dL_law_1386 : decode cL_law 1386 = .ok (.aload_n 0, 1) := by decide +kernel
theorem dL_law_1387 : decode cL_law 1387 = .ok (.iload 4, 2) := by decide +kernel
theorem dL_law_1389 : decode cL_law 1389 = .ok (.iconst 3, 1) := by decide +kernel
theorem dL_law_1390 : decode cL_law 1390 = .ok (.iadd, 1) := by decide +kernel
theorem dL_law_1391 : decode cL_law 1391 = .ok (.iaload, 1) := by decide +kernel
theorem dL_law_1392 : decode cL_law 1392 = .ok (.ifCond .eq 7, 3) := by decide +kernel
theorem dL_law_1395 : decode cL_law 1395 = .ok (.iconst 1, 1) := by decide +kernel
theorem dL_law_1396 : decode cL_law 1396 = .ok (.goto 4, 3) := by decide +kernel
theorem dL_law_1399 : decode cL_law 1399 = .ok (.iconst 0, 1) := by decide +kernel
theorem dL_law_1400 : decode cL_law 1400 = .ok (.invokevirtual 155, 3) := by decide +kernel
theorem dL_law_1403 : decode cL_law 1403 = .ok (.if_icmp .eq 286, 3) := by decide +kernel
theorem dL_law_1406 : decode cL_law 1406 = .ok (.iconst 0, 1) := by decide +kernel
theorem dL_law_1407 : decode cL_law 1407 = .ok (.ireturn, 1) := by decide +kernel
theorem dL_law_1408 : decode cL_law 1408 = .ok (.aload_n 1, 1) := by decide +kernel
theorem dL_law_1409 : decode cL_law 1409 = .ok (.invokevirtual 156, 3) := by decide +kernel
theorem dL_law_1412 : decode cL_law 1412 = .ok (.aload_n 2, 1) := by decide +kernel
theorem dL_law_1413 : decode cL_law 1413 = .ok (.invokevirtual 160, 3) := by decide +kernel
theorem dL_law_1416 : decode cL_law 1416 = .ok (.if_icmp .eq 273, 3) := by decide +kernel
theorem dL_law_1419 : decode cL_law 1419 = .ok (.iconst 0, 1) := by decide +kernel
theorem dL_law_1420 : decode cL_law 1420 = .ok (.ireturn, 1) := by decide +kernel
theorem dL_law_1421 : decode cL_law 1421 = .ok (.aload_n 1, 1) := by decide +kernel
theorem dL_law_1422 : decode cL_law 1422 = .ok (.invokevirtual 161, 3) := by decide +kernel
theorem dL_law_1425 : decode cL_law 1425 = .ok (.aload_n 2, 1) := by decide +kernel
theorem dL_law_1426 : decode cL_law 1426 = .ok (.invokevirtual 164, 3) := by decide +kernel
theorem dL_law_1429 : decode cL_law 1429 = .ok (.if_icmp .eq 260, 3) := by decide +kernel
theorem dL_law_1432 : decode cL_law 1432 = .ok (.iconst 0, 1) := by decide +kernel
theorem dL_law_1433 : decode cL_law 1433 = .ok (.ireturn, 1) := by decide +kernel
theorem dL_law_1434 : decode cL_law 1434 = .ok (.aload_n 1, 1) := by decide +kernel
theorem dL_law_1435 : decode cL_law 1435 = .ok (.invokevirtual 165, 3) := by decide +kernel
theorem dL_law_1438 : decode cL_law 1438 = .ok (.aload_n 2, 1) := by decide +kernel
theorem dL_law_1439 : decode cL_law 1439 = .ok (.invokevirtual 168, 3) := by decide +kernel
theorem dL_law_1442 : decode cL_law 1442 = .ok (.if_icmp .eq 247, 3) := by decide +kernel
theorem dL_law_1445 : decode cL_law 1445 = .ok (.iconst 0, 1) := by decide +kernel
theorem dL_law_1446 : decode cL_law 1446 = .ok (.ireturn, 1) := by decide +kernel
theorem dL_law_1447 : decode cL_law 1447 = .ok (.aload_n 1, 1) := by decide +kernel
theorem dL_law_1448 : decode cL_law 1448 = .ok (.aload_n 0, 1) := by decide +kernel
theorem dL_law_1449 : decode cL_law 1449 = .ok (.iload 4, 2) := by decide +kernel
theorem dL_law_1451 : decode cL_law 1451 = .ok (.iconst 1, 1) := by decide +kernel
theorem dL_law_1452 : decode cL_law 1452 = .ok (.iadd, 1) := by decide +kernel
theorem dL_law_1453 : decode cL_law 1453 = .ok (.iaload, 1) := by decide +kernel
theorem dL_law_1454 : decode cL_law 1454 = .ok (.invokevirtual 169, 3) := by decide +kernel
theorem dL_law_1457 : decode cL_law 1457 = .ok (.aload_n 2, 1) := by decide +kernel
theorem dL_law_1458 : decode cL_law 1458 = .ok (.aload_n 0, 1) := by decide +kernel
theorem dL_law_1459 : decode cL_law 1459 = .ok (.iload 4, 2) := by decide +kernel
theorem dL_law_1461 : decode cL_law 1461 = .ok (.iconst 1, 1) := by decide +kernel
theorem dL_law_1462 : decode cL_law 1462 = .ok (.iadd, 1) := by decide +kernel
theorem dL_law_1463 : decode cL_law 1463 = .ok (.iaload, 1) := by decide +kernel
theorem dL_law_1464 : decode cL_law 1464 = .ok (.invokevirtual 173, 3) := by decide +kernel
theorem dL_law_1467 : decode cL_law 1467 = .ok (.if_icmp .eq 222, 3) := by decide +kernel
theorem dL_law_1470 : decode cL_law 1470 = .ok (.iconst 0, 1) := by decide +kernel
theorem dL_law_1471 : decode cL_law 1471 = .ok (.ireturn, 1) := by decide +kernel
theorem dL_law_1472 : decode cL_law 1472 = .ok (.aload_n 1, 1) := by decide +kernel
theorem dL_law_1473 : decode cL_law 1473 = .ok (.aload_n 0, 1) := by decide +kernel
theorem dL_law_1474 : decode cL_law 1474 = .ok (.iload 4, 2) := by decide +kernel
theorem dL_law_1476 : decode cL_law 1476 = .ok (.iconst 1, 1) := by decide +kernel
theorem dL_law_1477 : decode cL_law 1477 = .ok (.iadd, 1) := by decide +kernel
theorem dL_law_1478 : decode cL_law 1478 = .ok (.iaload, 1) := by decide +kernel
theorem dL_law_1479 : decode cL_law 1479 = .ok (.aload_n 0, 1) := by decide +kernel
theorem dL_law_1480 : decode cL_law 1480 = .ok (.iload 4, 2) := by decide +kernel
theorem dL_law_1482 : decode cL_law 1482 = .ok (.iconst 2, 1) := by decide +kernel
theorem dL_law_1483 : decode cL_law 1483 = .ok (.iadd, 1) := by decide +kernel
theorem dL_law_1484 : decode cL_law 1484 = .ok (.iaload, 1) := by decide +kernel
theorem dL_law_1485 : decode cL_law 1485 = .ok (.invokevirtual 174, 3) := by decide +kernel
theorem dL_law_1488 : decode cL_law 1488 = .ok (.aload_n 2, 1) := by decide +kernel
theorem dL_law_1489 : decode cL_law 1489 = .ok (.aload_n 0, 1) := by decide +kernel
theorem dL_law_1490 : decode cL_law 1490 = .ok (.iload 4, 2) := by decide +kernel
theorem dL_law_1492 : decode cL_law 1492 = .ok (.iconst 1, 1) := by decide +kernel
theorem dL_law_1493 : decode cL_law 1493 = .ok (.iadd, 1) := by decide +kernel
theorem dL_law_1494 : decode cL_law 1494 = .ok (.iaload, 1) := by decide +kernel
theorem dL_law_1495 : decode cL_law 1495 = .ok (.aload_n 0, 1) := by decide +kernel
theorem dL_law_1496 : decode cL_law 1496 = .ok (.iload 4, 2) := by decide +kernel
theorem dL_law_1498 : decode cL_law 1498 = .ok (.iconst 2, 1) := by decide +kernel
theorem dL_law_1499 : decode cL_law 1499 = .ok (.iadd, 1) := by decide +kernel
theorem dL_law_1500 : decode cL_law 1500 = .ok (.iaload, 1) := by decide +kernel
theorem dL_law_1501 : decode cL_law 1501 = .ok (.invokevirtual 177, 3) := by decide +kernel
theorem dL_law_1504 : decode cL_law 1504 = .ok (.if_icmp .eq 185, 3) := by decide +kernel
theorem dL_law_1507 : decode cL_law 1507 = .ok (.iconst 0, 1) := by decide +kernel
theorem dL_law_1508 : decode cL_law 1508 = .ok (.ireturn, 1) := by decide +kernel
theorem dL_law_1509 : decode cL_law 1509 = .ok (.aload_n 1, 1) := by decide +kernel
theorem dL_law_1510 : decode cL_law 1510 = .ok (.aload_n 0, 1) := by decide +kernel
theorem dL_law_1511 : decode cL_law 1511 = .ok (.iload 4, 2) := by decide +kernel
theorem dL_law_1513 : decode cL_law 1513 = .ok (.iconst 1, 1) := by decide +kernel
theorem dL_law_1514 : decode cL_law 1514 = .ok (.iadd, 1) := by decide +kernel
theorem dL_law_1515 : decode cL_law 1515 = .ok (.iaload, 1) := by decide +kernel
theorem dL_law_1516 : decode cL_law 1516 = .ok (.aload_n 0, 1) := by decide +kernel
theorem dL_law_1517 : decode cL_law 1517 = .ok (.iload 4, 2) := by decide +kernel
theorem dL_law_1519 : decode cL_law 1519 = .ok (.iconst 2, 1) := by decide +kernel
theorem dL_law_1520 : decode cL_law 1520 = .ok (.iadd, 1) := by decide +kernel
theorem dL_law_1521 : decode cL_law 1521 = .ok (.iaload, 1) := by decide +kernel
theorem dL_law_1522 : decode cL_law 1522 = .ok (.invokevirtual 178, 3) := by decide +kernel
theorem dL_law_1525 : decode cL_law 1525 = .ok (.aload_n 2, 1) := by decide +kernel
theorem dL_law_1526 : decode cL_law 1526 = .ok (.aload_n 0, 1) := by decide +kernel
theorem dL_law_1527 : decode cL_law 1527 = .ok (.iload 4, 2) := by decide +kernel
theorem dL_law_1529 : decode cL_law 1529 = .ok (.iconst 1, 1) := by decide +kernel
theorem dL_law_1530 : decode cL_law 1530 = .ok (.iadd, 1) := by decide +kernel
theorem dL_law_1531 : decode cL_law 1531 = .ok (.iaload, 1) := by decide +kernel
theorem dL_law_1532 : decode cL_law 1532 = .ok (.aload_n 0, 1) := by decide +kernel
theorem dL_law_1533 : decode cL_law 1533 = .ok (.iload 4, 2) := by decide +kernel
theorem dL_law_1535 : decode cL_law 1535 = .ok (.iconst 2, 1) := by decide +kernel
theorem dL_law_1536 : decode cL_law 1536 = .ok (.iadd, 1) := by decide +kernel
theorem dL_law_1537 : decode cL_law 1537 = .ok (.iaload, 1) := by decide +kernel
theorem dL_law_1538 : decode cL_law 1538 = .ok (.invokevirtual 181, 3) := by decide +kernel
theorem dL_law_1541 : decode cL_law 1541 = .ok (.if_icmp .eq 148, 3) := by decide +kernel
theorem dL_law_1544 : decode cL_law 1544 = .ok (.iconst 0, 1) := by decide +kernel
theorem dL_law_1545 : decode cL_law 1545 = .ok (.ireturn, 1) := by decide +kernel
theorem dL_law_1546 : decode cL_law 1546 = .ok (.aload_n 1, 1) := by decide +kernel
theorem dL_law_1547 : decode cL_law 1547 = .ok (.aload_n 0, 1) := by decide +kernel
theorem dL_law_1548 : decode cL_law 1548 = .ok (.iload 4, 2) := by decide +kernel
theorem dL_law_1550 : decode cL_law 1550 = .ok (.iconst 1, 1) := by decide +kernel
theorem dL_law_1551 : decode cL_law 1551 = .ok (.iadd, 1) := by decide +kernel
theorem dL_law_1552 : decode cL_law 1552 = .ok (.iaload, 1) := by decide +kernel
theorem dL_law_1553 : decode cL_law 1553 = .ok (.aload_n 0, 1) := by decide +kernel
theorem dL_law_1554 : decode cL_law 1554 = .ok (.iload 4, 2) := by decide +kernel
theorem dL_law_1556 : decode cL_law 1556 = .ok (.iconst 2, 1) := by decide +kernel
theorem dL_law_1557 : decode cL_law 1557 = .ok (.iadd, 1) := by decide +kernel
theorem dL_law_1558 : decode cL_law 1558 = .ok (.iaload, 1) := by decide +kernel
theorem dL_law_1559 : decode cL_law 1559 = .ok (.invokevirtual 182, 3) := by decide +kernel
theorem dL_law_1562 : decode cL_law 1562 = .ok (.aload_n 2, 1) := by decide +kernel
theorem dL_law_1563 : decode cL_law 1563 = .ok (.aload_n 0, 1) := by decide +kernel
theorem dL_law_1564 : decode cL_law 1564 = .ok (.iload 4, 2) := by decide +kernel
theorem dL_law_1566 : decode cL_law 1566 = .ok (.iconst 1, 1) := by decide +kernel
theorem dL_law_1567 : decode cL_law 1567 = .ok (.iadd, 1) := by decide +kernel
theorem dL_law_1568 : decode cL_law 1568 = .ok (.iaload, 1) := by decide +kernel
theorem dL_law_1569 : decode cL_law 1569 = .ok (.aload_n 0, 1) := by decide +kernel
theorem dL_law_1570 : decode cL_law 1570 = .ok (.iload 4, 2) := by decide +kernel
theorem dL_law_1572 : decode cL_law 1572 = .ok (.iconst 2, 1) := by decide +kernel
theorem dL_law_1573 : decode cL_law 1573 = .ok (.iadd, 1) := by decide +kernel
theorem dL_law_1574 : decode cL_law 1574 = .ok (.iaload, 1) := by decide +kernel
theorem dL_law_1575 : decode cL_law 1575 = .ok (.invokevirtual 185, 3) := by decide +kernel
theorem dL_law_1578 : decode cL_law 1578 = .ok (.if_icmp .eq 111, 3) := by decide +kernel
theorem dL_law_1581 : decode cL_law 1581 = .ok (.iconst 0, 1) := by decide +kernel
theorem dL_law_1582 : decode cL_law 1582 = .ok (.ireturn, 1) := by decide +kernel
theorem dL_law_1583 : decode cL_law 1583 = .ok (.aload_n 1, 1) := by decide +kernel
theorem dL_law_1584 : decode cL_law 1584 = .ok (.aload_n 0, 1) := by decide +kernel
theorem dL_law_1585 : decode cL_law 1585 = .ok (.iload 4, 2) := by decide +kernel
theorem dL_law_1587 : decode cL_law 1587 = .ok (.iconst 1, 1) := by decide +kernel
theorem dL_law_1588 : decode cL_law 1588 = .ok (.iadd, 1) := by decide +kernel
theorem dL_law_1589 : decode cL_law 1589 = .ok (.iaload, 1) := by decide +kernel
theorem dL_law_1590 : decode cL_law 1590 = .ok (.aload_n 0, 1) := by decide +kernel
theorem dL_law_1591 : decode cL_law 1591 = .ok (.iload 4, 2) := by decide +kernel
theorem dL_law_1593 : decode cL_law 1593 = .ok (.iconst 2, 1) := by decide +kernel
theorem dL_law_1594 : decode cL_law 1594 = .ok (.iadd, 1) := by decide +kernel
theorem dL_law_1595 : decode cL_law 1595 = .ok (.iaload, 1) := by decide +kernel
theorem dL_law_1596 : decode cL_law 1596 = .ok (.aload_n 3, 1) := by decide +kernel
theorem dL_law_1597 : decode cL_law 1597 = .ok (.invokestatic 186, 3) := by decide +kernel
theorem dL_law_1600 : decode cL_law 1600 = .ok (.istore 5, 2) := by decide +kernel
theorem dL_law_1602 : decode cL_law 1602 = .ok (.aload_n 2, 1) := by decide +kernel
theorem dL_law_1603 : decode cL_law 1603 = .ok (.aload_n 0, 1) := by decide +kernel
theorem dL_law_1604 : decode cL_law 1604 = .ok (.iload 4, 2) := by decide +kernel
theorem dL_law_1606 : decode cL_law 1606 = .ok (.iconst 1, 1) := by decide +kernel
theorem dL_law_1607 : decode cL_law 1607 = .ok (.iadd, 1) := by decide +kernel
theorem dL_law_1608 : decode cL_law 1608 = .ok (.iaload, 1) := by decide +kernel
theorem dL_law_1609 : decode cL_law 1609 = .ok (.aload_n 0, 1) := by decide +kernel
theorem dL_law_1610 : decode cL_law 1610 = .ok (.iload 4, 2) := by decide +kernel
theorem dL_law_1612 : decode cL_law 1612 = .ok (.iconst 2, 1) := by decide +kernel
theorem dL_law_1613 : decode cL_law 1613 = .ok (.iadd, 1) := by decide +kernel
theorem dL_law_1614 : decode cL_law 1614 = .ok (.iaload, 1) := by decide +kernel
theorem dL_law_1615 : decode cL_law 1615 = .ok (.invokevirtual 191, 3) := by decide +kernel
theorem dL_law_1618 : decode cL_law 1618 = .ok (.istore 6, 2) := by decide +kernel
theorem dL_law_1620 : decode cL_law 1620 = .ok (.aload_n 2, 1) := by decide +kernel
theorem dL_law_1621 : decode cL_law 1621 = .ok (.invokevirtual 192, 3) := by decide +kernel
theorem dL_law_1624 : decode cL_law 1624 = .ok (.iload 5, 2) := by decide +kernel
theorem dL_law_1626 : decode cL_law 1626 = .ok (.if_icmp .eq 5, 3) := by decide +kernel
theorem dL_law_1629 : decode cL_law 1629 = .ok (.iconst 0, 1) := by decide +kernel
theorem dL_law_1630 : decode cL_law 1630 = .ok (.ireturn, 1) := by decide +kernel
theorem dL_law_1631 : decode cL_law 1631 = .ok (.iload 5, 2) := by decide +kernel
theorem dL_law_1633 : decode cL_law 1633 = .ok (.ifCond .ne 15, 3) := by decide +kernel
theorem dL_law_1636 : decode cL_law 1636 = .ok (.aload_n 3, 1) := by decide +kernel
theorem dL_law_1637 : decode cL_law 1637 = .ok (.iconst 0, 1) := by decide +kernel
theorem dL_law_1638 : decode cL_law 1638 = .ok (.laload, 1) := by decide +kernel
theorem dL_law_1639 : decode cL_law 1639 = .ok (.iload 6, 2) := by decide +kernel
theorem dL_law_1641 : decode cL_law 1641 = .ok (.i2l, 1) := by decide +kernel
theorem dL_law_1642 : decode cL_law 1642 = .ok (.lcmp, 1) := by decide +kernel
theorem dL_law_1643 : decode cL_law 1643 = .ok (.ifCond .eq 5, 3) := by decide +kernel
theorem dL_law_1646 : decode cL_law 1646 = .ok (.iconst 0, 1) := by decide +kernel
theorem dL_law_1647 : decode cL_law 1647 = .ok (.ireturn, 1) := by decide +kernel
theorem dL_law_1648 : decode cL_law 1648 = .ok (.goto 41, 3) := by decide +kernel
theorem dL_law_1651 : decode cL_law 1651 = .ok (.aload_n 1, 1) := by decide +kernel
theorem dL_law_1652 : decode cL_law 1652 = .ok (.aload_n 0, 1) := by decide +kernel
theorem dL_law_1653 : decode cL_law 1653 = .ok (.iload 4, 2) := by decide +kernel
theorem dL_law_1655 : decode cL_law 1655 = .ok (.iconst 1, 1) := by decide +kernel
theorem dL_law_1656 : decode cL_law 1656 = .ok (.iadd, 1) := by decide +kernel
theorem dL_law_1657 : decode cL_law 1657 = .ok (.iaload, 1) := by decide +kernel
theorem dL_law_1658 : decode cL_law 1658 = .ok (.invokevirtual 195, 3) := by decide +kernel
theorem dL_law_1661 : decode cL_law 1661 = .ok (.aload_n 2, 1) := by decide +kernel
theorem dL_law_1662 : decode cL_law 1662 = .ok (.aload_n 0, 1) := by decide +kernel
theorem dL_law_1663 : decode cL_law 1663 = .ok (.iload 4, 2) := by decide +kernel
theorem dL_law_1665 : decode cL_law 1665 = .ok (.iconst 1, 1) := by decide +kernel
theorem dL_law_1666 : decode cL_law 1666 = .ok (.iadd, 1) := by decide +kernel
theorem dL_law_1667 : decode cL_law 1667 = .ok (.iaload, 1) := by decide +kernel
theorem dL_law_1668 : decode cL_law 1668 = .ok (.invokevirtual 198, 3) := by decide +kernel
theorem dL_law_1671 : decode cL_law 1671 = .ok (.if_icmp .eq 18, 3) := by decide +kernel
theorem dL_law_1674 : decode cL_law 1674 = .ok (.iconst 0, 1) := by decide +kernel
theorem dL_law_1675 : decode cL_law 1675 = .ok (.ireturn, 1) := by decide +kernel
theorem dL_law_1676 : decode cL_law 1676 = .ok (.aload_n 1, 1) := by decide +kernel
theorem dL_law_1677 : decode cL_law 1677 = .ok (.invokevirtual 199, 3) := by decide +kernel
theorem dL_law_1680 : decode cL_law 1680 = .ok (.aload_n 2, 1) := by decide +kernel
theorem dL_law_1681 : decode cL_law 1681 = .ok (.invokevirtual 202, 3) := by decide +kernel
theorem dL_law_1684 : decode cL_law 1684 = .ok (.if_icmp .eq 5, 3) := by decide +kernel
theorem dL_law_1687 : decode cL_law 1687 = .ok (.iconst 0, 1) := by decide +kernel
theorem dL_law_1688 : decode cL_law 1688 = .ok (.ireturn, 1) := by decide +kernel
theorem dL_law_1689 : decode cL_law 1689 = .ok (.iinc 4 6, 3) := by decide +kernel
theorem dL_law_1692 : decode cL_law 1692 = .ok (.goto (-1669), 3) := by decide +kernel
theorem dL_law_1695 : decode cL_law 1695 = .ok (.iconst 1, 1) := by decide +kernel
theorem dL_law_1696 : decode cL_law 1696 = .ok (.ireturn, 1) := by decide +kernel
section
variable {sb Ls b : Nat} {xs : Nat → Int32} {ad : Nat → Nat} {n : Nat} {I : HI} {L : HL} {R : HR} {x5 x6 : Option Value} {B B2 t : Nat} {tp : Nat → Nat} {nt tr fa pl : Nat} {F : bkF} {S : Nat → LSt} {u r : Nat} {im : Nat → LSt} {ic : Nat}
theorem lw_feed (hLs : Ls ≤ 3072) (hn : 6 * n + 6 ≤ Ls) (h : ClsB I L R B B2 t tp nt tr fa pl F S u r im ic) (hr : RefB I tp nt tr fa pl F S u r im ic) (nxt : ∀ (I' : HI) (L' : HL) (R' : HR) (y5 y6 : Option Value), LJ I' L' R' → VG yL_law cL_law 7 (some .boolean) room_1 (PW sb Ls b xs) b ad false (172 + (n + 1)) (7753 + 6 * (n + 1)) 1689 [some (.ref sb), some (.ref (b + 0)), some (.ref (b + 157)), some (.ref (b + 171)), some (.int (nI (6 * n))), y5, y6] [] NN SH I' L' R') : VG yL_law cL_law 7 (some .boolean) room_1 (PW sb Ls b xs) b ad false (172 + n) (7753 + 6 * n) 224 [some (.ref sb), some (.ref (b + 0)), some (.ref (b + 157)), some (.ref (b + 171)), some (.int (nI (6 * n))), x5, x6] [] NN SH I L R := by
  have hl : ∀ k, live u r k → LOK F (S k) := fun k hk => (h.2.2.2.2.2.1.2.2.2.2.2 k hk).2
  have hI : ∀ c, c < ic → LOK F (im c) := fun c hc => (h.2.2.2.2.2.2.1.2.2 c hc).2
  refine g_aload_1 dL_law_224 ?_
  refine g_aload_0 dL_law_225 ?_
  refine g_iload_4 dL_law_226 ?_
  refine g_iconst (v := nI 1) dL_law_228 (by decide) ?_
  refine g_iadd dL_law_229 ?_
  rw [nI_add]
  refine g_sld dL_law_230 (by omega) hLs ?_
  refine g_aload_0 dL_law_231 ?_
  refine g_iload_4 dL_law_232 ?_
  refine g_iconst (v := nI 2) dL_law_234 (by decide) ?_
  refine g_iadd dL_law_235 ?_
  rw [nI_add]
  refine g_sld dL_law_236 (by omega) hLs ?_
  refine g_aload_0 dL_law_237 ?_
  refine g_iload_4 dL_law_238 ?_
  refine g_iconst (v := nI 3) dL_law_240 (by decide) ?_
  refine g_iadd dL_law_241 ?_
  rw [nI_add]
  refine g_sld dL_law_242 (by omega) hLs ?_
  refine g_aload_0 dL_law_243 ?_
  refine g_iload_4 dL_law_244 ?_
  refine g_iconst (v := nI 4) dL_law_246 (by decide) ?_
  refine g_iadd dL_law_247 ?_
  rw [nI_add]
  refine g_sld dL_law_248 (by omega) hLs ?_
  refine g_aload_0 dL_law_249 ?_
  refine g_iload_4 dL_law_250 ?_
  refine g_iconst (v := nI 5) dL_law_252 (by decide) ?_
  refine g_iadd dL_law_253 ?_
  rw [nI_add]
  refine g_sld dL_law_254 (by omega) hLs ?_
  refine g_callV_5 dL_law_255 ml_L_19 mv_X11_feed (by first | assumption | rfl | exact led_1 (by assumption) | exact led_2 (by assumption) | exact bk_m (by assumption) (by first | assumption | omega) | exact bk_p (by assumption) (by first | assumption | omega) | exact bk_o (by assumption) (by first | assumption | omega) | exact bk_s (by assumption) (by first | assumption | omega) | exact bk_1 (by assumption) | exact bk_2 (by assumption) | exact bk_3 (by assumption) | exact bk_4 (by assumption) | exact bk_5 (by assumption) | exact bk_6 (by assumption) | exact bk_7 (by assumption) | exact bk_8 (by assumption) | exact sh_ring _ (by first | assumption | omega) | exact sh_imgs _ (by first | assumption | omega)) (by first | decide | (show _ < 172; omega)) (by decide) rfl (by decide) (by decide) (by show _ ≤ 601024; omega) (by show _ ≤ 7293034; omega) (Nat.le_of_ble_eq_true rfl) (fun h => h) (c_X11_feed h (fun c1 I1 L1 R1 B1 B3 t1 h1 hh => ?_) (fun c1 I1 L1 R1 B1 B3 t1 h1 hh => ?_))
  · refine g_aload_2 dL_law_258 ?_
    refine g_aload_0 dL_law_259 ?_
    refine g_iload_4 dL_law_260 ?_
    refine g_iconst (v := nI 1) dL_law_262 (by decide) ?_
    refine g_iadd dL_law_263 ?_
    rw [nI_add]
    refine g_sld dL_law_264 (by omega) hLs ?_
    refine g_aload_0 dL_law_265 ?_
    refine g_iload_4 dL_law_266 ?_
    refine g_iconst (v := nI 2) dL_law_268 (by decide) ?_
    refine g_iadd dL_law_269 ?_
    rw [nI_add]
    refine g_sld dL_law_270 (by omega) hLs ?_
    refine g_aload_0 dL_law_271 ?_
    refine g_iload_4 dL_law_272 ?_
    refine g_iconst (v := nI 3) dL_law_274 (by decide) ?_
    refine g_iadd dL_law_275 ?_
    rw [nI_add]
    refine g_sld dL_law_276 (by omega) hLs ?_
    refine g_aload_0 dL_law_277 ?_
    refine g_iload_4 dL_law_278 ?_
    refine g_iconst (v := nI 4) dL_law_280 (by decide) ?_
    refine g_iadd dL_law_281 ?_
    rw [nI_add]
    refine g_sld dL_law_282 (by omega) hLs ?_
    refine g_aload_0 dL_law_283 ?_
    refine g_iload_4 dL_law_284 ?_
    refine g_iconst (v := nI 5) dL_law_286 (by decide) ?_
    refine g_iadd dL_law_287 ?_
    rw [nI_add]
    refine g_sld dL_law_288 (by omega) hLs ?_
    refine g_callV_5 dL_law_289 ml_L_23 mv_X12_feed (by first | assumption | rfl | exact led_1 (by assumption) | exact led_2 (by assumption) | exact bk_m (by assumption) (by first | assumption | omega) | exact bk_p (by assumption) (by first | assumption | omega) | exact bk_o (by assumption) (by first | assumption | omega) | exact bk_s (by assumption) (by first | assumption | omega) | exact bk_1 (by assumption) | exact bk_2 (by assumption) | exact bk_3 (by assumption) | exact bk_4 (by assumption) | exact bk_5 (by assumption) | exact bk_6 (by assumption) | exact bk_7 (by assumption) | exact bk_8 (by assumption) | exact sh_ring _ (by first | assumption | omega) | exact sh_imgs _ (by first | assumption | omega)) (by first | decide | (show _ < 172; omega)) (by decide) rfl (by decide) (by decide) (by show _ ≤ 601024; omega) (by show _ ≤ 7293034; omega) (Nat.le_of_ble_eq_true rfl) (fun h => h) (r_feed h1.1 (hr.hi hh) (fun _ J2 M2 h2 f2 l2 => ?_) (fun c2 => absurd c2 c1))
    refine g_icmp_eq (tgt := 1689) dL_law_292 (by decide) (fun hc292 => ?_) (fun hc292 => ?_)
    · skip
      exact VG.widen (by omega) (by omega) (nxt _ _ _ _ _ ⟨B1, B3, t1, _, _, _, _, _, _, _, _, _, _, _, h1.lo f2 (fun x a _ => l2 x a), h2⟩)
    · exact absurd rfl hc292
  · refine g_aload_2 dL_law_258 ?_
    refine g_aload_0 dL_law_259 ?_
    refine g_iload_4 dL_law_260 ?_
    refine g_iconst (v := nI 1) dL_law_262 (by decide) ?_
    refine g_iadd dL_law_263 ?_
    rw [nI_add]
    refine g_sld dL_law_264 (by omega) hLs ?_
    refine g_aload_0 dL_law_265 ?_
    refine g_iload_4 dL_law_266 ?_
    refine g_iconst (v := nI 2) dL_law_268 (by decide) ?_
    refine g_iadd dL_law_269 ?_
    rw [nI_add]
    refine g_sld dL_law_270 (by omega) hLs ?_
    refine g_aload_0 dL_law_271 ?_
    refine g_iload_4 dL_law_272 ?_
    refine g_iconst (v := nI 3) dL_law_274 (by decide) ?_
    refine g_iadd dL_law_275 ?_
    rw [nI_add]
    refine g_sld dL_law_276 (by omega) hLs ?_
    refine g_aload_0 dL_law_277 ?_
    refine g_iload_4 dL_law_278 ?_
    refine g_iconst (v := nI 4) dL_law_280 (by decide) ?_
    refine g_iadd dL_law_281 ?_
    rw [nI_add]
    refine g_sld dL_law_282 (by omega) hLs ?_
    refine g_aload_0 dL_law_283 ?_
    refine g_iload_4 dL_law_284 ?_
    refine g_iconst (v := nI 5) dL_law_286 (by decide) ?_
    refine g_iadd dL_law_287 ?_
    rw [nI_add]
    refine g_sld dL_law_288 (by omega) hLs ?_
    refine g_callV_5 dL_law_289 ml_L_23 mv_X12_feed (by first | assumption | rfl | exact led_1 (by assumption) | exact led_2 (by assumption) | exact bk_m (by assumption) (by first | assumption | omega) | exact bk_p (by assumption) (by first | assumption | omega) | exact bk_o (by assumption) (by first | assumption | omega) | exact bk_s (by assumption) (by first | assumption | omega) | exact bk_1 (by assumption) | exact bk_2 (by assumption) | exact bk_3 (by assumption) | exact bk_4 (by assumption) | exact bk_5 (by assumption) | exact bk_6 (by assumption) | exact bk_7 (by assumption) | exact bk_8 (by assumption) | exact sh_ring _ (by first | assumption | omega) | exact sh_imgs _ (by first | assumption | omega)) (by first | decide | (show _ < 172; omega)) (by decide) rfl (by decide) (by decide) (by show _ ≤ 601024; omega) (by show _ ≤ 7293034; omega) (Nat.le_of_ble_eq_true rfl) (fun h => h) (r_feed h1.1 (hr.hi hh) (fun c2 => absurd c1 c2) (fun _ J2 M2 h2 f2 l2 => ?_))
    refine g_icmp_eq (tgt := 1689) dL_law_292 (by decide) (fun hc292 => ?_) (fun hc292 => ?_)
    · skip
      exact VG.widen (by omega) (by omega) (nxt _ _ _ _ _ ⟨B1, B3, t1, _, _, _, _, _, _, _, _, _, _, _, h1.lo f2 (fun x a _ => l2 x a), h2⟩)
    · exact absurd rfl hc292
theorem lw_book (hLs : Ls ≤ 3072) (hn : 6 * n + 6 ≤ Ls) (h : ClsB I L R B B2 t tp nt tr fa pl F S u r im ic) (hr : RefB I tp nt tr fa pl F S u r im ic) (nxt : ∀ (I' : HI) (L' : HL) (R' : HR) (y5 y6 : Option Value), LJ I' L' R' → VG yL_law cL_law 7 (some .boolean) room_1 (PW sb Ls b xs) b ad false (172 + (n + 1)) (7753 + 6 * (n + 1)) 1689 [some (.ref sb), some (.ref (b + 0)), some (.ref (b + 157)), some (.ref (b + 171)), some (.int (nI (6 * n))), y5, y6] [] NN SH I' L' R') : VG yL_law cL_law 7 (some .boolean) room_1 (PW sb Ls b xs) b ad false (172 + n) (7753 + 6 * n) 297 [some (.ref sb), some (.ref (b + 0)), some (.ref (b + 157)), some (.ref (b + 171)), some (.int (nI (6 * n))), x5, x6] [] NN SH I L R := by
  have hl : ∀ k, live u r k → LOK F (S k) := fun k hk => (h.2.2.2.2.2.1.2.2.2.2.2 k hk).2
  have hI : ∀ c, c < ic → LOK F (im c) := fun c hc => (h.2.2.2.2.2.2.1.2.2 c hc).2
  refine g_aload_1 dL_law_297 ?_
  refine g_aload_0 dL_law_298 ?_
  refine g_iload_4 dL_law_299 ?_
  refine g_iconst (v := nI 1) dL_law_301 (by decide) ?_
  refine g_iadd dL_law_302 ?_
  rw [nI_add]
  refine g_sld dL_law_303 (by omega) hLs ?_
  refine g_callV_1 dL_law_304 ml_L_24 mv_X11_book (by first | assumption | rfl | exact led_1 (by assumption) | exact led_2 (by assumption) | exact bk_m (by assumption) (by first | assumption | omega) | exact bk_p (by assumption) (by first | assumption | omega) | exact bk_o (by assumption) (by first | assumption | omega) | exact bk_s (by assumption) (by first | assumption | omega) | exact bk_1 (by assumption) | exact bk_2 (by assumption) | exact bk_3 (by assumption) | exact bk_4 (by assumption) | exact bk_5 (by assumption) | exact bk_6 (by assumption) | exact bk_7 (by assumption) | exact bk_8 (by assumption) | exact sh_ring _ (by first | assumption | omega) | exact sh_imgs _ (by first | assumption | omega)) (by first | decide | (show _ < 172; omega)) (by decide) rfl (by decide) (by decide) (by show _ ≤ 601024; omega) (by show _ ≤ 7293034; omega) (Nat.le_of_ble_eq_true rfl) (fun h => h) (c_X11_book h (fun c1 I1 L1 R1 B1 B3 t1 h1 hh => ?_) (fun c1 f p q I1 L1 R1 B1 B3 t1 h1 hh => ?_) (fun c1 v q I1 L1 R1 B1 B3 t1 h1 hh => ?_))
  · refine g_aload_2 dL_law_307 ?_
    refine g_aload_0 dL_law_308 ?_
    refine g_iload_4 dL_law_309 ?_
    refine g_iconst (v := nI 1) dL_law_311 (by decide) ?_
    refine g_iadd dL_law_312 ?_
    rw [nI_add]
    refine g_sld dL_law_313 (by omega) hLs ?_
    refine g_callV_1 dL_law_314 ml_L_28 mv_X12_book (by first | assumption | rfl | exact led_1 (by assumption) | exact led_2 (by assumption) | exact bk_m (by assumption) (by first | assumption | omega) | exact bk_p (by assumption) (by first | assumption | omega) | exact bk_o (by assumption) (by first | assumption | omega) | exact bk_s (by assumption) (by first | assumption | omega) | exact bk_1 (by assumption) | exact bk_2 (by assumption) | exact bk_3 (by assumption) | exact bk_4 (by assumption) | exact bk_5 (by assumption) | exact bk_6 (by assumption) | exact bk_7 (by assumption) | exact bk_8 (by assumption) | exact sh_ring _ (by first | assumption | omega) | exact sh_imgs _ (by first | assumption | omega)) (by first | decide | (show _ < 172; omega)) (by decide) rfl (by decide) (by decide) (by show _ ≤ 601024; omega) (by show _ ≤ 7293034; omega) (Nat.le_of_ble_eq_true rfl) (fun h => h) (r_book h1.1 (hr.hi hh) (fun _ J2 M2 h2 f2 l2 => ?_) (fun c2 => absurd (c1.symm.trans c2) (by decide)) (fun c2 => absurd (c1.symm.trans c2) (by decide)))
    refine g_icmp_eq (tgt := 1689) dL_law_317 (by decide) (fun hc317 => ?_) (fun hc317 => ?_)
    · skip
      exact VG.widen (by omega) (by omega) (nxt _ _ _ _ _ ⟨B1, B3, t1, _, _, _, _, _, _, _, _, _, _, _, h1.lo f2 (fun x a _ => l2 x a), h2⟩)
    · exact absurd rfl hc317
  · refine g_aload_2 dL_law_307 ?_
    refine g_aload_0 dL_law_308 ?_
    refine g_iload_4 dL_law_309 ?_
    refine g_iconst (v := nI 1) dL_law_311 (by decide) ?_
    refine g_iadd dL_law_312 ?_
    rw [nI_add]
    refine g_sld dL_law_313 (by omega) hLs ?_
    refine g_callV_1 dL_law_314 ml_L_28 mv_X12_book (by first | assumption | rfl | exact led_1 (by assumption) | exact led_2 (by assumption) | exact bk_m (by assumption) (by first | assumption | omega) | exact bk_p (by assumption) (by first | assumption | omega) | exact bk_o (by assumption) (by first | assumption | omega) | exact bk_s (by assumption) (by first | assumption | omega) | exact bk_1 (by assumption) | exact bk_2 (by assumption) | exact bk_3 (by assumption) | exact bk_4 (by assumption) | exact bk_5 (by assumption) | exact bk_6 (by assumption) | exact bk_7 (by assumption) | exact bk_8 (by assumption) | exact sh_ring _ (by first | assumption | omega) | exact sh_imgs _ (by first | assumption | omega)) (by first | decide | (show _ < 172; omega)) (by decide) rfl (by decide) (by decide) (by show _ ≤ 601024; omega) (by show _ ≤ 7293034; omega) (Nat.le_of_ble_eq_true rfl) (fun h => h) (r_book h1.1 (hr.hi hh) (fun c2 => absurd (c1.symm.trans c2) (by decide)) (fun _ f3 p3 q3 J2 M2 h2 f2 l2 => ?_) (fun _ v3 q3 => by rw [q] at q3; cases q3))
    cases q.symm.trans q3
    refine g_icmp_eq (tgt := 1689) dL_law_317 (by decide) (fun hc317 => ?_) (fun hc317 => ?_)
    · skip
      exact VG.widen (by omega) (by omega) (nxt _ _ _ _ _ ⟨B1, B3, t1, _, _, _, _, _, _, _, _, _, _, _, h1.lo f2 (fun x a _ => l2 x a), h2⟩)
    · exact absurd rfl hc317
  · refine g_aload_2 dL_law_307 ?_
    refine g_aload_0 dL_law_308 ?_
    refine g_iload_4 dL_law_309 ?_
    refine g_iconst (v := nI 1) dL_law_311 (by decide) ?_
    refine g_iadd dL_law_312 ?_
    rw [nI_add]
    refine g_sld dL_law_313 (by omega) hLs ?_
    refine g_callV_1 dL_law_314 ml_L_28 mv_X12_book (by first | assumption | rfl | exact led_1 (by assumption) | exact led_2 (by assumption) | exact bk_m (by assumption) (by first | assumption | omega) | exact bk_p (by assumption) (by first | assumption | omega) | exact bk_o (by assumption) (by first | assumption | omega) | exact bk_s (by assumption) (by first | assumption | omega) | exact bk_1 (by assumption) | exact bk_2 (by assumption) | exact bk_3 (by assumption) | exact bk_4 (by assumption) | exact bk_5 (by assumption) | exact bk_6 (by assumption) | exact bk_7 (by assumption) | exact bk_8 (by assumption) | exact sh_ring _ (by first | assumption | omega) | exact sh_imgs _ (by first | assumption | omega)) (by first | decide | (show _ < 172; omega)) (by decide) rfl (by decide) (by decide) (by show _ ≤ 601024; omega) (by show _ ≤ 7293034; omega) (Nat.le_of_ble_eq_true rfl) (fun h => h) (r_book h1.1 (hr.hi hh) (fun c2 => absurd (c1.symm.trans c2) (by decide)) (fun _ f3 p3 q3 => by rw [q] at q3; cases q3) (fun _ v3 q3 J2 M2 h2 f2 l2 => ?_))
    cases q.symm.trans q3
    refine g_icmp_eq (tgt := 1689) dL_law_317 (by decide) (fun hc317 => ?_) (fun hc317 => ?_)
    · skip
      exact VG.widen (by omega) (by omega) (nxt _ _ _ _ _ ⟨B1, B3, t1, _, _, _, _, _, _, _, _, _, _, _, h1.lo f2 (fun x a _ => l2 x a), h2⟩)
    · exact absurd rfl hc317
theorem lw_fault (hLs : Ls ≤ 3072) (hn : 6 * n + 6 ≤ Ls) (h : ClsB I L R B B2 t tp nt tr fa pl F S u r im ic) (hr : RefB I tp nt tr fa pl F S u r im ic) (nxt : ∀ (I' : HI) (L' : HL) (R' : HR) (y5 y6 : Option Value), LJ I' L' R' → VG yL_law cL_law 7 (some .boolean) room_1 (PW sb Ls b xs) b ad false (172 + (n + 1)) (7753 + 6 * (n + 1)) 1689 [some (.ref sb), some (.ref (b + 0)), some (.ref (b + 157)), some (.ref (b + 171)), some (.int (nI (6 * n))), y5, y6] [] NN SH I' L' R') : VG yL_law cL_law 7 (some .boolean) room_1 (PW sb Ls b xs) b ad false (172 + n) (7753 + 6 * n) 322 [some (.ref sb), some (.ref (b + 0)), some (.ref (b + 157)), some (.ref (b + 171)), some (.int (nI (6 * n))), x5, x6] [] NN SH I L R := by
  have hl : ∀ k, live u r k → LOK F (S k) := fun k hk => (h.2.2.2.2.2.1.2.2.2.2.2 k hk).2
  have hI : ∀ c, c < ic → LOK F (im c) := fun c hc => (h.2.2.2.2.2.2.1.2.2 c hc).2
  refine g_aload_1 dL_law_322 ?_
  refine g_callV_0 dL_law_323 ml_L_29 mv_X11_fault (by first | assumption | rfl | exact led_1 (by assumption) | exact led_2 (by assumption) | exact bk_m (by assumption) (by first | assumption | omega) | exact bk_p (by assumption) (by first | assumption | omega) | exact bk_o (by assumption) (by first | assumption | omega) | exact bk_s (by assumption) (by first | assumption | omega) | exact bk_1 (by assumption) | exact bk_2 (by assumption) | exact bk_3 (by assumption) | exact bk_4 (by assumption) | exact bk_5 (by assumption) | exact bk_6 (by assumption) | exact bk_7 (by assumption) | exact bk_8 (by assumption) | exact sh_ring _ (by first | assumption | omega) | exact sh_imgs _ (by first | assumption | omega)) (by first | decide | (show _ < 172; omega)) (by decide) rfl (by decide) (by decide) (by show _ ≤ 601024; omega) (by show _ ≤ 7293034; omega) (Nat.le_of_ble_eq_true rfl) (fun h => h) (c_X11_fault h (fun I1 L1 R1 B1 B3 t1 h1 hh => ?_))
  refine g_aload_2 dL_law_326 ?_
  refine g_callV_0 dL_law_327 ml_L_33 mv_X12_fault (by first | assumption | rfl | exact led_1 (by assumption) | exact led_2 (by assumption) | exact bk_m (by assumption) (by first | assumption | omega) | exact bk_p (by assumption) (by first | assumption | omega) | exact bk_o (by assumption) (by first | assumption | omega) | exact bk_s (by assumption) (by first | assumption | omega) | exact bk_1 (by assumption) | exact bk_2 (by assumption) | exact bk_3 (by assumption) | exact bk_4 (by assumption) | exact bk_5 (by assumption) | exact bk_6 (by assumption) | exact bk_7 (by assumption) | exact bk_8 (by assumption) | exact sh_ring _ (by first | assumption | omega) | exact sh_imgs _ (by first | assumption | omega)) (by first | decide | (show _ < 172; omega)) (by decide) rfl (by decide) (by decide) (by show _ ≤ 601024; omega) (by show _ ≤ 7293034; omega) (Nat.le_of_ble_eq_true rfl) (fun h => h) (r_fault h1.1 (hr.hi hh) (fun J2 M2 h2 f2 l2 => ?_))
  refine g_icmp_eq (tgt := 1689) dL_law_330 (by decide) (fun hc330 => ?_) (fun hc330 => ?_)
  · skip
    exact VG.widen (by omega) (by omega) (nxt _ _ _ _ _ ⟨B1, B3, t1, _, _, _, _, _, _, _, _, _, _, _, h1.lo f2 (fun x a _ => l2 x a), h2⟩)
  · exact absurd rfl hc330
theorem lw_where (hLs : Ls ≤ 3072) (hn : 6 * n + 6 ≤ Ls) (h : ClsB I L R B B2 t tp nt tr fa pl F S u r im ic) (hr : RefB I tp nt tr fa pl F S u r im ic) (nxt : ∀ (I' : HI) (L' : HL) (R' : HR) (y5 y6 : Option Value), LJ I' L' R' → VG yL_law cL_law 7 (some .boolean) room_1 (PW sb Ls b xs) b ad false (172 + (n + 1)) (7753 + 6 * (n + 1)) 1689 [some (.ref sb), some (.ref (b + 0)), some (.ref (b + 157)), some (.ref (b + 171)), some (.int (nI (6 * n))), y5, y6] [] NN SH I' L' R') : VG yL_law cL_law 7 (some .boolean) room_1 (PW sb Ls b xs) b ad false (172 + n) (7753 + 6 * n) 335 [some (.ref sb), some (.ref (b + 0)), some (.ref (b + 157)), some (.ref (b + 171)), some (.int (nI (6 * n))), x5, x6] [] NN SH I L R := by
  have hl : ∀ k, live u r k → LOK F (S k) := fun k hk => (h.2.2.2.2.2.1.2.2.2.2.2 k hk).2
  have hI : ∀ c, c < ic → LOK F (im c) := fun c hc => (h.2.2.2.2.2.2.1.2.2 c hc).2
  refine g_aload_1 dL_law_335 ?_
  refine g_callV_0 dL_law_336 ml_L_34 mv_X11_where (by first | assumption | rfl | exact led_1 (by assumption) | exact led_2 (by assumption) | exact bk_m (by assumption) (by first | assumption | omega) | exact bk_p (by assumption) (by first | assumption | omega) | exact bk_o (by assumption) (by first | assumption | omega) | exact bk_s (by assumption) (by first | assumption | omega) | exact bk_1 (by assumption) | exact bk_2 (by assumption) | exact bk_3 (by assumption) | exact bk_4 (by assumption) | exact bk_5 (by assumption) | exact bk_6 (by assumption) | exact bk_7 (by assumption) | exact bk_8 (by assumption) | exact sh_ring _ (by first | assumption | omega) | exact sh_imgs _ (by first | assumption | omega)) (by first | decide | (show _ < 172; omega)) (by decide) rfl (by decide) (by decide) (by show _ ≤ 601024; omega) (by show _ ≤ 7293034; omega) (Nat.le_of_ble_eq_true rfl) (fun h => h) (c_X11_where h (fun I1 L1 R1 B1 B3 t1 h1 hh => ?_))
  refine g_aload_2 dL_law_339 ?_
  refine g_callV_0 dL_law_340 ml_L_37 mv_X12_where (by first | assumption | rfl | exact led_1 (by assumption) | exact led_2 (by assumption) | exact bk_m (by assumption) (by first | assumption | omega) | exact bk_p (by assumption) (by first | assumption | omega) | exact bk_o (by assumption) (by first | assumption | omega) | exact bk_s (by assumption) (by first | assumption | omega) | exact bk_1 (by assumption) | exact bk_2 (by assumption) | exact bk_3 (by assumption) | exact bk_4 (by assumption) | exact bk_5 (by assumption) | exact bk_6 (by assumption) | exact bk_7 (by assumption) | exact bk_8 (by assumption) | exact sh_ring _ (by first | assumption | omega) | exact sh_imgs _ (by first | assumption | omega)) (by first | decide | (show _ < 172; omega)) (by decide) rfl (by decide) (by decide) (by show _ ≤ 601024; omega) (by show _ ≤ 7293034; omega) (Nat.le_of_ble_eq_true rfl) (fun h => h) (r_where h1.1 (hr.hi hh) (fun J2 M2 h2 f2 l2 => ?_))
  refine g_icmp_eq (tgt := 1689) dL_law_343 (by decide) (fun hc343 => ?_) (fun hc343 => ?_)
  · skip
    exact VG.widen (by omega) (by omega) (nxt _ _ _ _ _ ⟨B1, B3, t1, _, _, _, _, _, _, _, _, _, _, _, h1.lo f2 (fun x a _ => l2 x a), h2⟩)
  · exact absurd rfl hc343
theorem lw_fits (hLs : Ls ≤ 3072) (hn : 6 * n + 6 ≤ Ls) (h : ClsB I L R B B2 t tp nt tr fa pl F S u r im ic) (hr : RefB I tp nt tr fa pl F S u r im ic) (nxt : ∀ (I' : HI) (L' : HL) (R' : HR) (y5 y6 : Option Value), LJ I' L' R' → VG yL_law cL_law 7 (some .boolean) room_1 (PW sb Ls b xs) b ad false (172 + (n + 1)) (7753 + 6 * (n + 1)) 1689 [some (.ref sb), some (.ref (b + 0)), some (.ref (b + 157)), some (.ref (b + 171)), some (.int (nI (6 * n))), y5, y6] [] NN SH I' L' R') : VG yL_law cL_law 7 (some .boolean) room_1 (PW sb Ls b xs) b ad false (172 + n) (7753 + 6 * n) 348 [some (.ref sb), some (.ref (b + 0)), some (.ref (b + 157)), some (.ref (b + 171)), some (.int (nI (6 * n))), x5, x6] [] NN SH I L R := by
  have hl : ∀ k, live u r k → LOK F (S k) := fun k hk => (h.2.2.2.2.2.1.2.2.2.2.2 k hk).2
  have hI : ∀ c, c < ic → LOK F (im c) := fun c hc => (h.2.2.2.2.2.2.1.2.2 c hc).2
  refine g_aload_1 dL_law_348 ?_
  refine g_aload_0 dL_law_349 ?_
  refine g_iload_4 dL_law_350 ?_
  refine g_iconst (v := nI 1) dL_law_352 (by decide) ?_
  refine g_iadd dL_law_353 ?_
  rw [nI_add]
  refine g_sld dL_law_354 (by omega) hLs ?_
  refine g_aload_0 dL_law_355 ?_
  refine g_iload_4 dL_law_356 ?_
  refine g_iconst (v := nI 2) dL_law_358 (by decide) ?_
  refine g_iadd dL_law_359 ?_
  rw [nI_add]
  refine g_sld dL_law_360 (by omega) hLs ?_
  refine g_callV_2 dL_law_361 ml_L_38 mv_X11_fits (by first | assumption | rfl | exact led_1 (by assumption) | exact led_2 (by assumption) | exact bk_m (by assumption) (by first | assumption | omega) | exact bk_p (by assumption) (by first | assumption | omega) | exact bk_o (by assumption) (by first | assumption | omega) | exact bk_s (by assumption) (by first | assumption | omega) | exact bk_1 (by assumption) | exact bk_2 (by assumption) | exact bk_3 (by assumption) | exact bk_4 (by assumption) | exact bk_5 (by assumption) | exact bk_6 (by assumption) | exact bk_7 (by assumption) | exact bk_8 (by assumption) | exact sh_ring _ (by first | assumption | omega) | exact sh_imgs _ (by first | assumption | omega)) (by first | decide | (show _ < 172; omega)) (by decide) rfl (by decide) (by decide) (by show _ ≤ 601024; omega) (by show _ ≤ 7293034; omega) (Nat.le_of_ble_eq_true rfl) (fun h => h) (c_X11_fits h (fun I1 L1 R1 B1 B3 t1 h1 hh => ?_))
  refine g_aload_2 dL_law_364 ?_
  refine g_aload_0 dL_law_365 ?_
  refine g_iload_4 dL_law_366 ?_
  refine g_iconst (v := nI 1) dL_law_368 (by decide) ?_
  refine g_iadd dL_law_369 ?_
  rw [nI_add]
  refine g_sld dL_law_370 (by omega) hLs ?_
  refine g_aload_0 dL_law_371 ?_
  refine g_iload_4 dL_law_372 ?_
  refine g_iconst (v := nI 2) dL_law_374 (by decide) ?_
  refine g_iadd dL_law_375 ?_
  rw [nI_add]
  refine g_sld dL_law_376 (by omega) hLs ?_
  refine g_callV_2 dL_law_377 ml_L_41 mv_X12_fits (by first | assumption | rfl | exact led_1 (by assumption) | exact led_2 (by assumption) | exact bk_m (by assumption) (by first | assumption | omega) | exact bk_p (by assumption) (by first | assumption | omega) | exact bk_o (by assumption) (by first | assumption | omega) | exact bk_s (by assumption) (by first | assumption | omega) | exact bk_1 (by assumption) | exact bk_2 (by assumption) | exact bk_3 (by assumption) | exact bk_4 (by assumption) | exact bk_5 (by assumption) | exact bk_6 (by assumption) | exact bk_7 (by assumption) | exact bk_8 (by assumption) | exact sh_ring _ (by first | assumption | omega) | exact sh_imgs _ (by first | assumption | omega)) (by first | decide | (show _ < 172; omega)) (by decide) rfl (by decide) (by decide) (by show _ ≤ 601024; omega) (by show _ ≤ 7293034; omega) (Nat.le_of_ble_eq_true rfl) (fun h => h) (r_fits h1.1 (hr.hi hh) (fun J2 M2 h2 f2 l2 => ?_))
  refine g_icmp_eq (tgt := 1689) dL_law_380 (by decide) (fun hc380 => ?_) (fun hc380 => ?_)
  · skip
    exact VG.widen (by omega) (by omega) (nxt _ _ _ _ _ ⟨B1, B3, t1, _, _, _, _, _, _, _, _, _, _, _, h1.lo f2 (fun x a _ => l2 x a), h2⟩)
  · exact absurd rfl hc380
theorem lw_wearer (hLs : Ls ≤ 3072) (hn : 6 * n + 6 ≤ Ls) (h : ClsB I L R B B2 t tp nt tr fa pl F S u r im ic) (hr : RefB I tp nt tr fa pl F S u r im ic) (nxt : ∀ (I' : HI) (L' : HL) (R' : HR) (y5 y6 : Option Value), LJ I' L' R' → VG yL_law cL_law 7 (some .boolean) room_1 (PW sb Ls b xs) b ad false (172 + (n + 1)) (7753 + 6 * (n + 1)) 1689 [some (.ref sb), some (.ref (b + 0)), some (.ref (b + 157)), some (.ref (b + 171)), some (.int (nI (6 * n))), y5, y6] [] NN SH I' L' R') : VG yL_law cL_law 7 (some .boolean) room_1 (PW sb Ls b xs) b ad false (172 + n) (7753 + 6 * n) 385 [some (.ref sb), some (.ref (b + 0)), some (.ref (b + 157)), some (.ref (b + 171)), some (.int (nI (6 * n))), x5, x6] [] NN SH I L R := by
  have hl : ∀ k, live u r k → LOK F (S k) := fun k hk => (h.2.2.2.2.2.1.2.2.2.2.2 k hk).2
  have hI : ∀ c, c < ic → LOK F (im c) := fun c hc => (h.2.2.2.2.2.2.1.2.2 c hc).2
  refine g_aload_1 dL_law_385 ?_
  refine g_aload_0 dL_law_386 ?_
  refine g_iload_4 dL_law_387 ?_
  refine g_iconst (v := nI 1) dL_law_389 (by decide) ?_
  refine g_iadd dL_law_390 ?_
  rw [nI_add]
  refine g_sld dL_law_391 (by omega) hLs ?_
  refine g_aload_0 dL_law_392 ?_
  refine g_iload_4 dL_law_393 ?_
  refine g_iconst (v := nI 2) dL_law_395 (by decide) ?_
  refine g_iadd dL_law_396 ?_
  rw [nI_add]
  refine g_sld dL_law_397 (by omega) hLs ?_
  refine g_callV_2 dL_law_398 ml_L_42 mv_X11_wearer (by first | assumption | rfl | exact led_1 (by assumption) | exact led_2 (by assumption) | exact bk_m (by assumption) (by first | assumption | omega) | exact bk_p (by assumption) (by first | assumption | omega) | exact bk_o (by assumption) (by first | assumption | omega) | exact bk_s (by assumption) (by first | assumption | omega) | exact bk_1 (by assumption) | exact bk_2 (by assumption) | exact bk_3 (by assumption) | exact bk_4 (by assumption) | exact bk_5 (by assumption) | exact bk_6 (by assumption) | exact bk_7 (by assumption) | exact bk_8 (by assumption) | exact sh_ring _ (by first | assumption | omega) | exact sh_imgs _ (by first | assumption | omega)) (by first | decide | (show _ < 172; omega)) (by decide) rfl (by decide) (by decide) (by show _ ≤ 601024; omega) (by show _ ≤ 7293034; omega) (Nat.le_of_ble_eq_true rfl) (fun h => h) (c_X11_wearer h (fun I1 L1 R1 B1 B3 t1 h1 hh => ?_))
  refine g_aload_2 dL_law_401 ?_
  refine g_aload_0 dL_law_402 ?_
  refine g_iload_4 dL_law_403 ?_
  refine g_iconst (v := nI 1) dL_law_405 (by decide) ?_
  refine g_iadd dL_law_406 ?_
  rw [nI_add]
  refine g_sld dL_law_407 (by omega) hLs ?_
  refine g_aload_0 dL_law_408 ?_
  refine g_iload_4 dL_law_409 ?_
  refine g_iconst (v := nI 2) dL_law_411 (by decide) ?_
  refine g_iadd dL_law_412 ?_
  rw [nI_add]
  refine g_sld dL_law_413 (by omega) hLs ?_
  refine g_callV_2 dL_law_414 ml_L_45 mv_X12_wearer (by first | assumption | rfl | exact led_1 (by assumption) | exact led_2 (by assumption) | exact bk_m (by assumption) (by first | assumption | omega) | exact bk_p (by assumption) (by first | assumption | omega) | exact bk_o (by assumption) (by first | assumption | omega) | exact bk_s (by assumption) (by first | assumption | omega) | exact bk_1 (by assumption) | exact bk_2 (by assumption) | exact bk_3 (by assumption) | exact bk_4 (by assumption) | exact bk_5 (by assumption) | exact bk_6 (by assumption) | exact bk_7 (by assumption) | exact bk_8 (by assumption) | exact sh_ring _ (by first | assumption | omega) | exact sh_imgs _ (by first | assumption | omega)) (by first | decide | (show _ < 172; omega)) (by decide) rfl (by decide) (by decide) (by show _ ≤ 601024; omega) (by show _ ≤ 7293034; omega) (Nat.le_of_ble_eq_true rfl) (fun h => h) (r_wearer h1.1 (hr.hi hh) (fun J2 M2 h2 f2 l2 => ?_))
  refine g_icmp_eq (tgt := 1689) dL_law_417 (by decide) (fun hc417 => ?_) (fun hc417 => ?_)
  · skip
    exact VG.widen (by omega) (by omega) (nxt _ _ _ _ _ ⟨B1, B3, t1, _, _, _, _, _, _, _, _, _, _, _, h1.lo f2 (fun x a _ => l2 x a), h2⟩)
  · exact absurd rfl hc417
theorem lw_worn (hLs : Ls ≤ 3072) (hn : 6 * n + 6 ≤ Ls) (h : ClsB I L R B B2 t tp nt tr fa pl F S u r im ic) (hr : RefB I tp nt tr fa pl F S u r im ic) (nxt : ∀ (I' : HI) (L' : HL) (R' : HR) (y5 y6 : Option Value), LJ I' L' R' → VG yL_law cL_law 7 (some .boolean) room_1 (PW sb Ls b xs) b ad false (172 + (n + 1)) (7753 + 6 * (n + 1)) 1689 [some (.ref sb), some (.ref (b + 0)), some (.ref (b + 157)), some (.ref (b + 171)), some (.int (nI (6 * n))), y5, y6] [] NN SH I' L' R') : VG yL_law cL_law 7 (some .boolean) room_1 (PW sb Ls b xs) b ad false (172 + n) (7753 + 6 * n) 422 [some (.ref sb), some (.ref (b + 0)), some (.ref (b + 157)), some (.ref (b + 171)), some (.int (nI (6 * n))), x5, x6] [] NN SH I L R := by
  have hl : ∀ k, live u r k → LOK F (S k) := fun k hk => (h.2.2.2.2.2.1.2.2.2.2.2 k hk).2
  have hI : ∀ c, c < ic → LOK F (im c) := fun c hc => (h.2.2.2.2.2.2.1.2.2 c hc).2
  refine g_aload_1 dL_law_422 ?_
  refine g_aload_0 dL_law_423 ?_
  refine g_iload_4 dL_law_424 ?_
  refine g_iconst (v := nI 1) dL_law_426 (by decide) ?_
  refine g_iadd dL_law_427 ?_
  rw [nI_add]
  refine g_sld dL_law_428 (by omega) hLs ?_
  refine g_aload_0 dL_law_429 ?_
  refine g_iload_4 dL_law_430 ?_
  refine g_iconst (v := nI 2) dL_law_432 (by decide) ?_
  refine g_iadd dL_law_433 ?_
  rw [nI_add]
  refine g_sld dL_law_434 (by omega) hLs ?_
  refine g_callV_2 dL_law_435 ml_L_46 mv_X11_worn (by first | assumption | rfl | exact led_1 (by assumption) | exact led_2 (by assumption) | exact bk_m (by assumption) (by first | assumption | omega) | exact bk_p (by assumption) (by first | assumption | omega) | exact bk_o (by assumption) (by first | assumption | omega) | exact bk_s (by assumption) (by first | assumption | omega) | exact bk_1 (by assumption) | exact bk_2 (by assumption) | exact bk_3 (by assumption) | exact bk_4 (by assumption) | exact bk_5 (by assumption) | exact bk_6 (by assumption) | exact bk_7 (by assumption) | exact bk_8 (by assumption) | exact sh_ring _ (by first | assumption | omega) | exact sh_imgs _ (by first | assumption | omega)) (by first | decide | (show _ < 172; omega)) (by decide) rfl (by decide) (by decide) (by show _ ≤ 601024; omega) (by show _ ≤ 7293034; omega) (Nat.le_of_ble_eq_true rfl) (fun h => h) (c_X11_worn h (fun I1 L1 R1 B1 B3 t1 h1 hh => ?_))
  refine g_aload_2 dL_law_438 ?_
  refine g_aload_0 dL_law_439 ?_
  refine g_iload_4 dL_law_440 ?_
  refine g_iconst (v := nI 1) dL_law_442 (by decide) ?_
  refine g_iadd dL_law_443 ?_
  rw [nI_add]
  refine g_sld dL_law_444 (by omega) hLs ?_
  refine g_aload_0 dL_law_445 ?_
  refine g_iload_4 dL_law_446 ?_
  refine g_iconst (v := nI 2) dL_law_448 (by decide) ?_
  refine g_iadd dL_law_449 ?_
  rw [nI_add]
  refine g_sld dL_law_450 (by omega) hLs ?_
  refine g_callV_2 dL_law_451 ml_L_49 mv_X12_worn (by first | assumption | rfl | exact led_1 (by assumption) | exact led_2 (by assumption) | exact bk_m (by assumption) (by first | assumption | omega) | exact bk_p (by assumption) (by first | assumption | omega) | exact bk_o (by assumption) (by first | assumption | omega) | exact bk_s (by assumption) (by first | assumption | omega) | exact bk_1 (by assumption) | exact bk_2 (by assumption) | exact bk_3 (by assumption) | exact bk_4 (by assumption) | exact bk_5 (by assumption) | exact bk_6 (by assumption) | exact bk_7 (by assumption) | exact bk_8 (by assumption) | exact sh_ring _ (by first | assumption | omega) | exact sh_imgs _ (by first | assumption | omega)) (by first | decide | (show _ < 172; omega)) (by decide) rfl (by decide) (by decide) (by show _ ≤ 601024; omega) (by show _ ≤ 7293034; omega) (Nat.le_of_ble_eq_true rfl) (fun h => h) (r_worn h1.1 (hr.hi hh) (fun J2 M2 h2 f2 l2 => ?_))
  refine g_icmp_eq (tgt := 1689) dL_law_454 (by decide) (fun hc454 => ?_) (fun hc454 => ?_)
  · skip
    exact VG.widen (by omega) (by omega) (nxt _ _ _ _ _ ⟨B1, B3, t1, _, _, _, _, _, _, _, _, _, _, _, h1.lo f2 (fun x a _ => l2 x a), h2⟩)
  · exact absurd rfl hc454
theorem lw_owes (hLs : Ls ≤ 3072) (hn : 6 * n + 6 ≤ Ls) (h : ClsB I L R B B2 t tp nt tr fa pl F S u r im ic) (hr : RefB I tp nt tr fa pl F S u r im ic) (nxt : ∀ (I' : HI) (L' : HL) (R' : HR) (y5 y6 : Option Value), LJ I' L' R' → VG yL_law cL_law 7 (some .boolean) room_1 (PW sb Ls b xs) b ad false (172 + (n + 1)) (7753 + 6 * (n + 1)) 1689 [some (.ref sb), some (.ref (b + 0)), some (.ref (b + 157)), some (.ref (b + 171)), some (.int (nI (6 * n))), y5, y6] [] NN SH I' L' R') : VG yL_law cL_law 7 (some .boolean) room_1 (PW sb Ls b xs) b ad false (172 + n) (7753 + 6 * n) 459 [some (.ref sb), some (.ref (b + 0)), some (.ref (b + 157)), some (.ref (b + 171)), some (.int (nI (6 * n))), x5, x6] [] NN SH I L R := by
  have hl : ∀ k, live u r k → LOK F (S k) := fun k hk => (h.2.2.2.2.2.1.2.2.2.2.2 k hk).2
  have hI : ∀ c, c < ic → LOK F (im c) := fun c hc => (h.2.2.2.2.2.2.1.2.2 c hc).2
  refine g_aload_1 dL_law_459 ?_
  refine g_aload_0 dL_law_460 ?_
  refine g_iload_4 dL_law_461 ?_
  refine g_iconst (v := nI 1) dL_law_463 (by decide) ?_
  refine g_iadd dL_law_464 ?_
  rw [nI_add]
  refine g_sld dL_law_465 (by omega) hLs ?_
  refine g_callV_1 dL_law_466 ml_L_50 mv_X11_owes (by first | assumption | rfl | exact led_1 (by assumption) | exact led_2 (by assumption) | exact bk_m (by assumption) (by first | assumption | omega) | exact bk_p (by assumption) (by first | assumption | omega) | exact bk_o (by assumption) (by first | assumption | omega) | exact bk_s (by assumption) (by first | assumption | omega) | exact bk_1 (by assumption) | exact bk_2 (by assumption) | exact bk_3 (by assumption) | exact bk_4 (by assumption) | exact bk_5 (by assumption) | exact bk_6 (by assumption) | exact bk_7 (by assumption) | exact bk_8 (by assumption) | exact sh_ring _ (by first | assumption | omega) | exact sh_imgs _ (by first | assumption | omega)) (by first | decide | (show _ < 172; omega)) (by decide) rfl (by decide) (by decide) (by show _ ≤ 601024; omega) (by show _ ≤ 7293034; omega) (Nat.le_of_ble_eq_true rfl) (fun h => h) (c_X11_owes h (fun I1 L1 R1 B1 B3 t1 h1 hh => ?_))
  refine g_aload_2 dL_law_469 ?_
  refine g_aload_0 dL_law_470 ?_
  refine g_iload_4 dL_law_471 ?_
  refine g_iconst (v := nI 1) dL_law_473 (by decide) ?_
  refine g_iadd dL_law_474 ?_
  rw [nI_add]
  refine g_sld dL_law_475 (by omega) hLs ?_
  refine g_callV_1 dL_law_476 ml_L_53 mv_X12_owes (by first | assumption | rfl | exact led_1 (by assumption) | exact led_2 (by assumption) | exact bk_m (by assumption) (by first | assumption | omega) | exact bk_p (by assumption) (by first | assumption | omega) | exact bk_o (by assumption) (by first | assumption | omega) | exact bk_s (by assumption) (by first | assumption | omega) | exact bk_1 (by assumption) | exact bk_2 (by assumption) | exact bk_3 (by assumption) | exact bk_4 (by assumption) | exact bk_5 (by assumption) | exact bk_6 (by assumption) | exact bk_7 (by assumption) | exact bk_8 (by assumption) | exact sh_ring _ (by first | assumption | omega) | exact sh_imgs _ (by first | assumption | omega)) (by first | decide | (show _ < 172; omega)) (by decide) rfl (by decide) (by decide) (by show _ ≤ 601024; omega) (by show _ ≤ 7293034; omega) (Nat.le_of_ble_eq_true rfl) (fun h => h) (r_owes h1.1 (hr.hi hh) (fun J2 M2 h2 f2 l2 => ?_))
  refine g_icmp_eq (tgt := 1689) dL_law_479 (by decide) (fun hc479 => ?_) (fun hc479 => ?_)
  · skip
    exact VG.widen (by omega) (by omega) (nxt _ _ _ _ _ ⟨B1, B3, t1, _, _, _, _, _, _, _, _, _, _, _, h1.lo f2 (fun x a _ => l2 x a), h2⟩)
  · exact absurd rfl hc479
theorem lw_done (hLs : Ls ≤ 3072) (hn : 6 * n + 6 ≤ Ls) (h : ClsB I L R B B2 t tp nt tr fa pl F S u r im ic) (hr : RefB I tp nt tr fa pl F S u r im ic) (nxt : ∀ (I' : HI) (L' : HL) (R' : HR) (y5 y6 : Option Value), LJ I' L' R' → VG yL_law cL_law 7 (some .boolean) room_1 (PW sb Ls b xs) b ad false (172 + (n + 1)) (7753 + 6 * (n + 1)) 1689 [some (.ref sb), some (.ref (b + 0)), some (.ref (b + 157)), some (.ref (b + 171)), some (.int (nI (6 * n))), y5, y6] [] NN SH I' L' R') : VG yL_law cL_law 7 (some .boolean) room_1 (PW sb Ls b xs) b ad false (172 + n) (7753 + 6 * n) 484 [some (.ref sb), some (.ref (b + 0)), some (.ref (b + 157)), some (.ref (b + 171)), some (.int (nI (6 * n))), x5, x6] [] NN SH I L R := by
  have hl : ∀ k, live u r k → LOK F (S k) := fun k hk => (h.2.2.2.2.2.1.2.2.2.2.2 k hk).2
  have hI : ∀ c, c < ic → LOK F (im c) := fun c hc => (h.2.2.2.2.2.2.1.2.2 c hc).2
  refine g_aload_1 dL_law_484 ?_
  refine g_aload_0 dL_law_485 ?_
  refine g_iload_4 dL_law_486 ?_
  refine g_iconst (v := nI 1) dL_law_488 (by decide) ?_
  refine g_iadd dL_law_489 ?_
  rw [nI_add]
  refine g_sld dL_law_490 (by omega) hLs ?_
  refine g_callV_1 dL_law_491 ml_L_54 mv_X11_done (by first | assumption | rfl | exact led_1 (by assumption) | exact led_2 (by assumption) | exact bk_m (by assumption) (by first | assumption | omega) | exact bk_p (by assumption) (by first | assumption | omega) | exact bk_o (by assumption) (by first | assumption | omega) | exact bk_s (by assumption) (by first | assumption | omega) | exact bk_1 (by assumption) | exact bk_2 (by assumption) | exact bk_3 (by assumption) | exact bk_4 (by assumption) | exact bk_5 (by assumption) | exact bk_6 (by assumption) | exact bk_7 (by assumption) | exact bk_8 (by assumption) | exact sh_ring _ (by first | assumption | omega) | exact sh_imgs _ (by first | assumption | omega)) (by first | decide | (show _ < 172; omega)) (by decide) rfl (by decide) (by decide) (by show _ ≤ 601024; omega) (by show _ ≤ 7293034; omega) (Nat.le_of_ble_eq_true rfl) (fun h => h) (c_X11_done h (fun I1 L1 R1 B1 B3 t1 h1 hh => ?_))
  refine g_aload_2 dL_law_494 ?_
  refine g_aload_0 dL_law_495 ?_
  refine g_iload_4 dL_law_496 ?_
  refine g_iconst (v := nI 1) dL_law_498 (by decide) ?_
  refine g_iadd dL_law_499 ?_
  rw [nI_add]
  refine g_sld dL_law_500 (by omega) hLs ?_
  refine g_callV_1 dL_law_501 ml_L_57 mv_X12_done (by first | assumption | rfl | exact led_1 (by assumption) | exact led_2 (by assumption) | exact bk_m (by assumption) (by first | assumption | omega) | exact bk_p (by assumption) (by first | assumption | omega) | exact bk_o (by assumption) (by first | assumption | omega) | exact bk_s (by assumption) (by first | assumption | omega) | exact bk_1 (by assumption) | exact bk_2 (by assumption) | exact bk_3 (by assumption) | exact bk_4 (by assumption) | exact bk_5 (by assumption) | exact bk_6 (by assumption) | exact bk_7 (by assumption) | exact bk_8 (by assumption) | exact sh_ring _ (by first | assumption | omega) | exact sh_imgs _ (by first | assumption | omega)) (by first | decide | (show _ < 172; omega)) (by decide) rfl (by decide) (by decide) (by show _ ≤ 601024; omega) (by show _ ≤ 7293034; omega) (Nat.le_of_ble_eq_true rfl) (fun h => h) (r_done h1.1 (hr.hi hh) (fun J2 M2 h2 f2 l2 => ?_))
  refine g_icmp_eq (tgt := 1689) dL_law_504 (by decide) (fun hc504 => ?_) (fun hc504 => ?_)
  · skip
    exact VG.widen (by omega) (by omega) (nxt _ _ _ _ _ ⟨B1, B3, t1, _, _, _, _, _, _, _, _, _, _, _, h1.lo f2 (fun x a _ => l2 x a), h2⟩)
  · exact absurd rfl hc504
theorem lw_credit (hLs : Ls ≤ 3072) (hn : 6 * n + 6 ≤ Ls) (h : ClsB I L R B B2 t tp nt tr fa pl F S u r im ic) (hr : RefB I tp nt tr fa pl F S u r im ic) (nxt : ∀ (I' : HI) (L' : HL) (R' : HR) (y5 y6 : Option Value), LJ I' L' R' → VG yL_law cL_law 7 (some .boolean) room_1 (PW sb Ls b xs) b ad false (172 + (n + 1)) (7753 + 6 * (n + 1)) 1689 [some (.ref sb), some (.ref (b + 0)), some (.ref (b + 157)), some (.ref (b + 171)), some (.int (nI (6 * n))), y5, y6] [] NN SH I' L' R') : VG yL_law cL_law 7 (some .boolean) room_1 (PW sb Ls b xs) b ad false (172 + n) (7753 + 6 * n) 509 [some (.ref sb), some (.ref (b + 0)), some (.ref (b + 157)), some (.ref (b + 171)), some (.int (nI (6 * n))), x5, x6] [] NN SH I L R := by
  have hl : ∀ k, live u r k → LOK F (S k) := fun k hk => (h.2.2.2.2.2.1.2.2.2.2.2 k hk).2
  have hI : ∀ c, c < ic → LOK F (im c) := fun c hc => (h.2.2.2.2.2.2.1.2.2 c hc).2
  refine g_aload_1 dL_law_509 ?_
  refine g_aload_0 dL_law_510 ?_
  refine g_iload_4 dL_law_511 ?_
  refine g_iconst (v := nI 1) dL_law_513 (by decide) ?_
  refine g_iadd dL_law_514 ?_
  rw [nI_add]
  refine g_sld dL_law_515 (by omega) hLs ?_
  refine g_aload_0 dL_law_516 ?_
  refine g_iload_4 dL_law_517 ?_
  refine g_iconst (v := nI 2) dL_law_519 (by decide) ?_
  refine g_iadd dL_law_520 ?_
  rw [nI_add]
  refine g_sld dL_law_521 (by omega) hLs ?_
  refine g_callV_2 dL_law_522 ml_L_58 mv_X11_credit (by first | assumption | rfl | exact led_1 (by assumption) | exact led_2 (by assumption) | exact bk_m (by assumption) (by first | assumption | omega) | exact bk_p (by assumption) (by first | assumption | omega) | exact bk_o (by assumption) (by first | assumption | omega) | exact bk_s (by assumption) (by first | assumption | omega) | exact bk_1 (by assumption) | exact bk_2 (by assumption) | exact bk_3 (by assumption) | exact bk_4 (by assumption) | exact bk_5 (by assumption) | exact bk_6 (by assumption) | exact bk_7 (by assumption) | exact bk_8 (by assumption) | exact sh_ring _ (by first | assumption | omega) | exact sh_imgs _ (by first | assumption | omega)) (by first | decide | (show _ < 172; omega)) (by decide) rfl (by decide) (by decide) (by show _ ≤ 601024; omega) (by show _ ≤ 7293034; omega) (Nat.le_of_ble_eq_true rfl) (fun h => h) (c_X11_credit h (fun I1 L1 R1 B1 B3 t1 h1 hh => ?_))
  refine g_aload_2 dL_law_525 ?_
  refine g_aload_0 dL_law_526 ?_
  refine g_iload_4 dL_law_527 ?_
  refine g_iconst (v := nI 1) dL_law_529 (by decide) ?_
  refine g_iadd dL_law_530 ?_
  rw [nI_add]
  refine g_sld dL_law_531 (by omega) hLs ?_
  refine g_aload_0 dL_law_532 ?_
  refine g_iload_4 dL_law_533 ?_
  refine g_iconst (v := nI 2) dL_law_535 (by decide) ?_
  refine g_iadd dL_law_536 ?_
  rw [nI_add]
  refine g_sld dL_law_537 (by omega) hLs ?_
  refine g_callV_2 dL_law_538 ml_L_61 mv_X12_credit (by first | assumption | rfl | exact led_1 (by assumption) | exact led_2 (by assumption) | exact bk_m (by assumption) (by first | assumption | omega) | exact bk_p (by assumption) (by first | assumption | omega) | exact bk_o (by assumption) (by first | assumption | omega) | exact bk_s (by assumption) (by first | assumption | omega) | exact bk_1 (by assumption) | exact bk_2 (by assumption) | exact bk_3 (by assumption) | exact bk_4 (by assumption) | exact bk_5 (by assumption) | exact bk_6 (by assumption) | exact bk_7 (by assumption) | exact bk_8 (by assumption) | exact sh_ring _ (by first | assumption | omega) | exact sh_imgs _ (by first | assumption | omega)) (by first | decide | (show _ < 172; omega)) (by decide) rfl (by decide) (by decide) (by show _ ≤ 601024; omega) (by show _ ≤ 7293034; omega) (Nat.le_of_ble_eq_true rfl) (fun h => h) (r_credit h1.1 (hr.hi hh) (fun J2 M2 h2 f2 l2 => ?_))
  refine g_icmp_eq (tgt := 1689) dL_law_541 (by decide) (fun hc541 => ?_) (fun hc541 => ?_)
  · skip
    exact VG.widen (by omega) (by omega) (nxt _ _ _ _ _ ⟨B1, B3, t1, _, _, _, _, _, _, _, _, _, _, _, h1.lo f2 (fun x a _ => l2 x a), h2⟩)
  · exact absurd rfl hc541
theorem lw_debt (hLs : Ls ≤ 3072) (hn : 6 * n + 6 ≤ Ls) (h : ClsB I L R B B2 t tp nt tr fa pl F S u r im ic) (hr : RefB I tp nt tr fa pl F S u r im ic) (nxt : ∀ (I' : HI) (L' : HL) (R' : HR) (y5 y6 : Option Value), LJ I' L' R' → VG yL_law cL_law 7 (some .boolean) room_1 (PW sb Ls b xs) b ad false (172 + (n + 1)) (7753 + 6 * (n + 1)) 1689 [some (.ref sb), some (.ref (b + 0)), some (.ref (b + 157)), some (.ref (b + 171)), some (.int (nI (6 * n))), y5, y6] [] NN SH I' L' R') : VG yL_law cL_law 7 (some .boolean) room_1 (PW sb Ls b xs) b ad false (172 + n) (7753 + 6 * n) 546 [some (.ref sb), some (.ref (b + 0)), some (.ref (b + 157)), some (.ref (b + 171)), some (.int (nI (6 * n))), x5, x6] [] NN SH I L R := by
  have hl : ∀ k, live u r k → LOK F (S k) := fun k hk => (h.2.2.2.2.2.1.2.2.2.2.2 k hk).2
  have hI : ∀ c, c < ic → LOK F (im c) := fun c hc => (h.2.2.2.2.2.2.1.2.2 c hc).2
  refine g_aload_1 dL_law_546 ?_
  refine g_aload_0 dL_law_547 ?_
  refine g_iload_4 dL_law_548 ?_
  refine g_iconst (v := nI 1) dL_law_550 (by decide) ?_
  refine g_iadd dL_law_551 ?_
  rw [nI_add]
  refine g_sld dL_law_552 (by omega) hLs ?_
  refine g_aload_0 dL_law_553 ?_
  refine g_iload_4 dL_law_554 ?_
  refine g_iconst (v := nI 2) dL_law_556 (by decide) ?_
  refine g_iadd dL_law_557 ?_
  rw [nI_add]
  refine g_sld dL_law_558 (by omega) hLs ?_
  refine g_callV_2 dL_law_559 ml_L_62 mv_X11_debt (by first | assumption | rfl | exact led_1 (by assumption) | exact led_2 (by assumption) | exact bk_m (by assumption) (by first | assumption | omega) | exact bk_p (by assumption) (by first | assumption | omega) | exact bk_o (by assumption) (by first | assumption | omega) | exact bk_s (by assumption) (by first | assumption | omega) | exact bk_1 (by assumption) | exact bk_2 (by assumption) | exact bk_3 (by assumption) | exact bk_4 (by assumption) | exact bk_5 (by assumption) | exact bk_6 (by assumption) | exact bk_7 (by assumption) | exact bk_8 (by assumption) | exact sh_ring _ (by first | assumption | omega) | exact sh_imgs _ (by first | assumption | omega)) (by first | decide | (show _ < 172; omega)) (by decide) rfl (by decide) (by decide) (by show _ ≤ 601024; omega) (by show _ ≤ 7293034; omega) (Nat.le_of_ble_eq_true rfl) (fun h => h) (c_X11_debt h (fun I1 L1 R1 B1 B3 t1 h1 hh => ?_))
  refine g_aload_2 dL_law_562 ?_
  refine g_aload_0 dL_law_563 ?_
  refine g_iload_4 dL_law_564 ?_
  refine g_iconst (v := nI 1) dL_law_566 (by decide) ?_
  refine g_iadd dL_law_567 ?_
  rw [nI_add]
  refine g_sld dL_law_568 (by omega) hLs ?_
  refine g_aload_0 dL_law_569 ?_
  refine g_iload_4 dL_law_570 ?_
  refine g_iconst (v := nI 2) dL_law_572 (by decide) ?_
  refine g_iadd dL_law_573 ?_
  rw [nI_add]
  refine g_sld dL_law_574 (by omega) hLs ?_
  refine g_callV_2 dL_law_575 ml_L_65 mv_X12_debt (by first | assumption | rfl | exact led_1 (by assumption) | exact led_2 (by assumption) | exact bk_m (by assumption) (by first | assumption | omega) | exact bk_p (by assumption) (by first | assumption | omega) | exact bk_o (by assumption) (by first | assumption | omega) | exact bk_s (by assumption) (by first | assumption | omega) | exact bk_1 (by assumption) | exact bk_2 (by assumption) | exact bk_3 (by assumption) | exact bk_4 (by assumption) | exact bk_5 (by assumption) | exact bk_6 (by assumption) | exact bk_7 (by assumption) | exact bk_8 (by assumption) | exact sh_ring _ (by first | assumption | omega) | exact sh_imgs _ (by first | assumption | omega)) (by first | decide | (show _ < 172; omega)) (by decide) rfl (by decide) (by decide) (by show _ ≤ 601024; omega) (by show _ ≤ 7293034; omega) (Nat.le_of_ble_eq_true rfl) (fun h => h) (r_debt h1.1 (hr.hi hh) (fun J2 M2 h2 f2 l2 => ?_))
  refine g_icmp_eq (tgt := 1689) dL_law_578 (by decide) (fun hc578 => ?_) (fun hc578 => ?_)
  · skip
    exact VG.widen (by omega) (by omega) (nxt _ _ _ _ _ ⟨B1, B3, t1, _, _, _, _, _, _, _, _, _, _, _, h1.lo f2 (fun x a _ => l2 x a), h2⟩)
  · exact absurd rfl hc578
theorem lw_gain (hLs : Ls ≤ 3072) (hn : 6 * n + 6 ≤ Ls) (h : ClsB I L R B B2 t tp nt tr fa pl F S u r im ic) (hr : RefB I tp nt tr fa pl F S u r im ic) (nxt : ∀ (I' : HI) (L' : HL) (R' : HR) (y5 y6 : Option Value), LJ I' L' R' → VG yL_law cL_law 7 (some .boolean) room_1 (PW sb Ls b xs) b ad false (172 + (n + 1)) (7753 + 6 * (n + 1)) 1689 [some (.ref sb), some (.ref (b + 0)), some (.ref (b + 157)), some (.ref (b + 171)), some (.int (nI (6 * n))), y5, y6] [] NN SH I' L' R') : VG yL_law cL_law 7 (some .boolean) room_1 (PW sb Ls b xs) b ad false (172 + n) (7753 + 6 * n) 583 [some (.ref sb), some (.ref (b + 0)), some (.ref (b + 157)), some (.ref (b + 171)), some (.int (nI (6 * n))), x5, x6] [] NN SH I L R := by
  have hl : ∀ k, live u r k → LOK F (S k) := fun k hk => (h.2.2.2.2.2.1.2.2.2.2.2 k hk).2
  have hI : ∀ c, c < ic → LOK F (im c) := fun c hc => (h.2.2.2.2.2.2.1.2.2 c hc).2
  refine g_aload_1 dL_law_583 ?_
  refine g_aload_0 dL_law_584 ?_
  refine g_iload_4 dL_law_585 ?_
  refine g_iconst (v := nI 1) dL_law_587 (by decide) ?_
  refine g_iadd dL_law_588 ?_
  rw [nI_add]
  refine g_sld dL_law_589 (by omega) hLs ?_
  refine g_aload_0 dL_law_590 ?_
  refine g_iload_4 dL_law_591 ?_
  refine g_iconst (v := nI 2) dL_law_593 (by decide) ?_
  refine g_iadd dL_law_594 ?_
  rw [nI_add]
  refine g_sld dL_law_595 (by omega) hLs ?_
  refine g_callV_2 dL_law_596 ml_L_66 mv_X11_gain (by first | assumption | rfl | exact led_1 (by assumption) | exact led_2 (by assumption) | exact bk_m (by assumption) (by first | assumption | omega) | exact bk_p (by assumption) (by first | assumption | omega) | exact bk_o (by assumption) (by first | assumption | omega) | exact bk_s (by assumption) (by first | assumption | omega) | exact bk_1 (by assumption) | exact bk_2 (by assumption) | exact bk_3 (by assumption) | exact bk_4 (by assumption) | exact bk_5 (by assumption) | exact bk_6 (by assumption) | exact bk_7 (by assumption) | exact bk_8 (by assumption) | exact sh_ring _ (by first | assumption | omega) | exact sh_imgs _ (by first | assumption | omega)) (by first | decide | (show _ < 172; omega)) (by decide) rfl (by decide) (by decide) (by show _ ≤ 601024; omega) (by show _ ≤ 7293034; omega) (Nat.le_of_ble_eq_true rfl) (fun h => h) (c_X11_gain h (fun I1 L1 R1 B1 B3 t1 h1 hh => ?_))
  refine g_aload_2 dL_law_599 ?_
  refine g_aload_0 dL_law_600 ?_
  refine g_iload_4 dL_law_601 ?_
  refine g_iconst (v := nI 1) dL_law_603 (by decide) ?_
  refine g_iadd dL_law_604 ?_
  rw [nI_add]
  refine g_sld dL_law_605 (by omega) hLs ?_
  refine g_aload_0 dL_law_606 ?_
  refine g_iload_4 dL_law_607 ?_
  refine g_iconst (v := nI 2) dL_law_609 (by decide) ?_
  refine g_iadd dL_law_610 ?_
  rw [nI_add]
  refine g_sld dL_law_611 (by omega) hLs ?_
  refine g_callV_2 dL_law_612 ml_L_69 mv_X12_gain (by first | assumption | rfl | exact led_1 (by assumption) | exact led_2 (by assumption) | exact bk_m (by assumption) (by first | assumption | omega) | exact bk_p (by assumption) (by first | assumption | omega) | exact bk_o (by assumption) (by first | assumption | omega) | exact bk_s (by assumption) (by first | assumption | omega) | exact bk_1 (by assumption) | exact bk_2 (by assumption) | exact bk_3 (by assumption) | exact bk_4 (by assumption) | exact bk_5 (by assumption) | exact bk_6 (by assumption) | exact bk_7 (by assumption) | exact bk_8 (by assumption) | exact sh_ring _ (by first | assumption | omega) | exact sh_imgs _ (by first | assumption | omega)) (by first | decide | (show _ < 172; omega)) (by decide) rfl (by decide) (by decide) (by show _ ≤ 601024; omega) (by show _ ≤ 7293034; omega) (Nat.le_of_ble_eq_true rfl) (fun h => h) (r_gain h1.1 (hr.hi hh) (fun J2 M2 h2 f2 l2 => ?_))
  refine g_icmp_eq (tgt := 1689) dL_law_615 (by decide) (fun hc615 => ?_) (fun hc615 => ?_)
  · skip
    exact VG.widen (by omega) (by omega) (nxt _ _ _ _ _ ⟨B1, B3, t1, _, _, _, _, _, _, _, _, _, _, _, h1.lo f2 (fun x a _ => l2 x a), h2⟩)
  · exact absurd rfl hc615
theorem lw_guild (hLs : Ls ≤ 3072) (hn : 6 * n + 6 ≤ Ls) (h : ClsB I L R B B2 t tp nt tr fa pl F S u r im ic) (hr : RefB I tp nt tr fa pl F S u r im ic) (nxt : ∀ (I' : HI) (L' : HL) (R' : HR) (y5 y6 : Option Value), LJ I' L' R' → VG yL_law cL_law 7 (some .boolean) room_1 (PW sb Ls b xs) b ad false (172 + (n + 1)) (7753 + 6 * (n + 1)) 1689 [some (.ref sb), some (.ref (b + 0)), some (.ref (b + 157)), some (.ref (b + 171)), some (.int (nI (6 * n))), y5, y6] [] NN SH I' L' R') : VG yL_law cL_law 7 (some .boolean) room_1 (PW sb Ls b xs) b ad false (172 + n) (7753 + 6 * n) 620 [some (.ref sb), some (.ref (b + 0)), some (.ref (b + 157)), some (.ref (b + 171)), some (.int (nI (6 * n))), x5, x6] [] NN SH I L R := by
  have hl : ∀ k, live u r k → LOK F (S k) := fun k hk => (h.2.2.2.2.2.1.2.2.2.2.2 k hk).2
  have hI : ∀ c, c < ic → LOK F (im c) := fun c hc => (h.2.2.2.2.2.2.1.2.2 c hc).2
  refine g_aload_1 dL_law_620 ?_
  refine g_callV_0 dL_law_621 ml_L_70 mv_X11_guild (by first | assumption | rfl | exact led_1 (by assumption) | exact led_2 (by assumption) | exact bk_m (by assumption) (by first | assumption | omega) | exact bk_p (by assumption) (by first | assumption | omega) | exact bk_o (by assumption) (by first | assumption | omega) | exact bk_s (by assumption) (by first | assumption | omega) | exact bk_1 (by assumption) | exact bk_2 (by assumption) | exact bk_3 (by assumption) | exact bk_4 (by assumption) | exact bk_5 (by assumption) | exact bk_6 (by assumption) | exact bk_7 (by assumption) | exact bk_8 (by assumption) | exact sh_ring _ (by first | assumption | omega) | exact sh_imgs _ (by first | assumption | omega)) (by first | decide | (show _ < 172; omega)) (by decide) rfl (by decide) (by decide) (by show _ ≤ 601024; omega) (by show _ ≤ 7293034; omega) (Nat.le_of_ble_eq_true rfl) (fun h => h) (c_X11_guild h (fun I1 L1 R1 B1 B3 t1 h1 hh => ?_))
  refine g_aload_2 dL_law_624 ?_
  refine g_callV_0 dL_law_625 ml_L_73 mv_X12_guild (by first | assumption | rfl | exact led_1 (by assumption) | exact led_2 (by assumption) | exact bk_m (by assumption) (by first | assumption | omega) | exact bk_p (by assumption) (by first | assumption | omega) | exact bk_o (by assumption) (by first | assumption | omega) | exact bk_s (by assumption) (by first | assumption | omega) | exact bk_1 (by assumption) | exact bk_2 (by assumption) | exact bk_3 (by assumption) | exact bk_4 (by assumption) | exact bk_5 (by assumption) | exact bk_6 (by assumption) | exact bk_7 (by assumption) | exact bk_8 (by assumption) | exact sh_ring _ (by first | assumption | omega) | exact sh_imgs _ (by first | assumption | omega)) (by first | decide | (show _ < 172; omega)) (by decide) rfl (by decide) (by decide) (by show _ ≤ 601024; omega) (by show _ ≤ 7293034; omega) (Nat.le_of_ble_eq_true rfl) (fun h => h) (r_guild h1.1 (hr.hi hh) (fun J2 M2 h2 f2 l2 => ?_))
  refine g_icmp_eq (tgt := 1689) dL_law_628 (by decide) (fun hc628 => ?_) (fun hc628 => ?_)
  · skip
    exact VG.widen (by omega) (by omega) (nxt _ _ _ _ _ ⟨B1, B3, t1, _, _, _, _, _, _, _, _, _, _, _, h1.lo f2 (fun x a _ => l2 x a), h2⟩)
  · exact absurd rfl hc628
theorem lw_breaks (hLs : Ls ≤ 3072) (hn : 6 * n + 6 ≤ Ls) (h : ClsB I L R B B2 t tp nt tr fa pl F S u r im ic) (hr : RefB I tp nt tr fa pl F S u r im ic) (nxt : ∀ (I' : HI) (L' : HL) (R' : HR) (y5 y6 : Option Value), LJ I' L' R' → VG yL_law cL_law 7 (some .boolean) room_1 (PW sb Ls b xs) b ad false (172 + (n + 1)) (7753 + 6 * (n + 1)) 1689 [some (.ref sb), some (.ref (b + 0)), some (.ref (b + 157)), some (.ref (b + 171)), some (.int (nI (6 * n))), y5, y6] [] NN SH I' L' R') : VG yL_law cL_law 7 (some .boolean) room_1 (PW sb Ls b xs) b ad false (172 + n) (7753 + 6 * n) 633 [some (.ref sb), some (.ref (b + 0)), some (.ref (b + 157)), some (.ref (b + 171)), some (.int (nI (6 * n))), x5, x6] [] NN SH I L R := by
  have hl : ∀ k, live u r k → LOK F (S k) := fun k hk => (h.2.2.2.2.2.1.2.2.2.2.2 k hk).2
  have hI : ∀ c, c < ic → LOK F (im c) := fun c hc => (h.2.2.2.2.2.2.1.2.2 c hc).2
  refine g_aload_1 dL_law_633 ?_
  refine g_aload_0 dL_law_634 ?_
  refine g_iload_4 dL_law_635 ?_
  refine g_iconst (v := nI 1) dL_law_637 (by decide) ?_
  refine g_iadd dL_law_638 ?_
  rw [nI_add]
  refine g_sld dL_law_639 (by omega) hLs ?_
  refine g_aload_0 dL_law_640 ?_
  refine g_iload_4 dL_law_641 ?_
  refine g_iconst (v := nI 2) dL_law_643 (by decide) ?_
  refine g_iadd dL_law_644 ?_
  rw [nI_add]
  refine g_sld dL_law_645 (by omega) hLs ?_
  refine g_callV_2 dL_law_646 ml_L_74 mv_X11_breaks (by first | assumption | rfl | exact led_1 (by assumption) | exact led_2 (by assumption) | exact bk_m (by assumption) (by first | assumption | omega) | exact bk_p (by assumption) (by first | assumption | omega) | exact bk_o (by assumption) (by first | assumption | omega) | exact bk_s (by assumption) (by first | assumption | omega) | exact bk_1 (by assumption) | exact bk_2 (by assumption) | exact bk_3 (by assumption) | exact bk_4 (by assumption) | exact bk_5 (by assumption) | exact bk_6 (by assumption) | exact bk_7 (by assumption) | exact bk_8 (by assumption) | exact sh_ring _ (by first | assumption | omega) | exact sh_imgs _ (by first | assumption | omega)) (by first | decide | (show _ < 172; omega)) (by decide) rfl (by decide) (by decide) (by show _ ≤ 601024; omega) (by show _ ≤ 7293034; omega) (Nat.le_of_ble_eq_true rfl) (fun h => h) (c_X11_breaks h (fun I1 L1 R1 B1 B3 t1 h1 hh => ?_))
  refine g_aload_2 dL_law_649 ?_
  refine g_aload_0 dL_law_650 ?_
  refine g_iload_4 dL_law_651 ?_
  refine g_iconst (v := nI 1) dL_law_653 (by decide) ?_
  refine g_iadd dL_law_654 ?_
  rw [nI_add]
  refine g_sld dL_law_655 (by omega) hLs ?_
  refine g_aload_0 dL_law_656 ?_
  refine g_iload_4 dL_law_657 ?_
  refine g_iconst (v := nI 2) dL_law_659 (by decide) ?_
  refine g_iadd dL_law_660 ?_
  rw [nI_add]
  refine g_sld dL_law_661 (by omega) hLs ?_
  refine g_callV_2 dL_law_662 ml_L_77 mv_X12_breaks (by first | assumption | rfl | exact led_1 (by assumption) | exact led_2 (by assumption) | exact bk_m (by assumption) (by first | assumption | omega) | exact bk_p (by assumption) (by first | assumption | omega) | exact bk_o (by assumption) (by first | assumption | omega) | exact bk_s (by assumption) (by first | assumption | omega) | exact bk_1 (by assumption) | exact bk_2 (by assumption) | exact bk_3 (by assumption) | exact bk_4 (by assumption) | exact bk_5 (by assumption) | exact bk_6 (by assumption) | exact bk_7 (by assumption) | exact bk_8 (by assumption) | exact sh_ring _ (by first | assumption | omega) | exact sh_imgs _ (by first | assumption | omega)) (by first | decide | (show _ < 172; omega)) (by decide) rfl (by decide) (by decide) (by show _ ≤ 601024; omega) (by show _ ≤ 7293034; omega) (Nat.le_of_ble_eq_true rfl) (fun h => h) (r_breaks h1.1 (hr.hi hh) (fun J2 M2 h2 f2 l2 => ?_))
  refine g_icmp_eq (tgt := 1689) dL_law_665 (by decide) (fun hc665 => ?_) (fun hc665 => ?_)
  · skip
    exact VG.widen (by omega) (by omega) (nxt _ _ _ _ _ ⟨B1, B3, t1, _, _, _, _, _, _, _, _, _, _, _, h1.lo f2 (fun x a _ => l2 x a), h2⟩)
  · exact absurd rfl hc665
theorem lw_value (hLs : Ls ≤ 3072) (hn : 6 * n + 6 ≤ Ls) (h : ClsB I L R B B2 t tp nt tr fa pl F S u r im ic) (hr : RefB I tp nt tr fa pl F S u r im ic) (nxt : ∀ (I' : HI) (L' : HL) (R' : HR) (y5 y6 : Option Value), LJ I' L' R' → VG yL_law cL_law 7 (some .boolean) room_1 (PW sb Ls b xs) b ad false (172 + (n + 1)) (7753 + 6 * (n + 1)) 1689 [some (.ref sb), some (.ref (b + 0)), some (.ref (b + 157)), some (.ref (b + 171)), some (.int (nI (6 * n))), y5, y6] [] NN SH I' L' R') : VG yL_law cL_law 7 (some .boolean) room_1 (PW sb Ls b xs) b ad false (172 + n) (7753 + 6 * n) 670 [some (.ref sb), some (.ref (b + 0)), some (.ref (b + 157)), some (.ref (b + 171)), some (.int (nI (6 * n))), x5, x6] [] NN SH I L R := by
  have hl : ∀ k, live u r k → LOK F (S k) := fun k hk => (h.2.2.2.2.2.1.2.2.2.2.2 k hk).2
  have hI : ∀ c, c < ic → LOK F (im c) := fun c hc => (h.2.2.2.2.2.2.1.2.2 c hc).2
  refine g_aload_1 dL_law_670 ?_
  refine g_aload_0 dL_law_671 ?_
  refine g_iload_4 dL_law_672 ?_
  refine g_iconst (v := nI 1) dL_law_674 (by decide) ?_
  refine g_iadd dL_law_675 ?_
  rw [nI_add]
  refine g_sld dL_law_676 (by omega) hLs ?_
  refine g_callV_1 dL_law_677 ml_L_78 mv_X11_value (by first | assumption | rfl | exact led_1 (by assumption) | exact led_2 (by assumption) | exact bk_m (by assumption) (by first | assumption | omega) | exact bk_p (by assumption) (by first | assumption | omega) | exact bk_o (by assumption) (by first | assumption | omega) | exact bk_s (by assumption) (by first | assumption | omega) | exact bk_1 (by assumption) | exact bk_2 (by assumption) | exact bk_3 (by assumption) | exact bk_4 (by assumption) | exact bk_5 (by assumption) | exact bk_6 (by assumption) | exact bk_7 (by assumption) | exact bk_8 (by assumption) | exact sh_ring _ (by first | assumption | omega) | exact sh_imgs _ (by first | assumption | omega)) (by first | decide | (show _ < 172; omega)) (by decide) rfl (by decide) (by decide) (by show _ ≤ 601024; omega) (by show _ ≤ 7293034; omega) (Nat.le_of_ble_eq_true rfl) (fun h => h) (c_X11_value h (fun I1 L1 R1 B1 B3 t1 h1 hh => ?_))
  refine g_aload_2 dL_law_680 ?_
  refine g_aload_0 dL_law_681 ?_
  refine g_iload_4 dL_law_682 ?_
  refine g_iconst (v := nI 1) dL_law_684 (by decide) ?_
  refine g_iadd dL_law_685 ?_
  rw [nI_add]
  refine g_sld dL_law_686 (by omega) hLs ?_
  refine g_callV_1 dL_law_687 ml_L_81 mv_X12_value (by first | assumption | rfl | exact led_1 (by assumption) | exact led_2 (by assumption) | exact bk_m (by assumption) (by first | assumption | omega) | exact bk_p (by assumption) (by first | assumption | omega) | exact bk_o (by assumption) (by first | assumption | omega) | exact bk_s (by assumption) (by first | assumption | omega) | exact bk_1 (by assumption) | exact bk_2 (by assumption) | exact bk_3 (by assumption) | exact bk_4 (by assumption) | exact bk_5 (by assumption) | exact bk_6 (by assumption) | exact bk_7 (by assumption) | exact bk_8 (by assumption) | exact sh_ring _ (by first | assumption | omega) | exact sh_imgs _ (by first | assumption | omega)) (by first | decide | (show _ < 172; omega)) (by decide) rfl (by decide) (by decide) (by show _ ≤ 601024; omega) (by show _ ≤ 7293034; omega) (Nat.le_of_ble_eq_true rfl) (fun h => h) (r_value h1.1 (hr.hi hh) (fun J2 M2 h2 f2 l2 => ?_))
  refine g_icmp_eq (tgt := 1689) dL_law_690 (by decide) (fun hc690 => ?_) (fun hc690 => ?_)
  · skip
    exact VG.widen (by omega) (by omega) (nxt _ _ _ _ _ ⟨B1, B3, t1, _, _, _, _, _, _, _, _, _, _, _, h1.lo f2 (fun x a _ => l2 x a), h2⟩)
  · exact absurd rfl hc690
theorem lw_plan (hLs : Ls ≤ 3072) (hn : 6 * n + 6 ≤ Ls) (h : ClsB I L R B B2 t tp nt tr fa pl F S u r im ic) (hr : RefB I tp nt tr fa pl F S u r im ic) (nxt : ∀ (I' : HI) (L' : HL) (R' : HR) (y5 y6 : Option Value), LJ I' L' R' → VG yL_law cL_law 7 (some .boolean) room_1 (PW sb Ls b xs) b ad false (172 + (n + 1)) (7753 + 6 * (n + 1)) 1689 [some (.ref sb), some (.ref (b + 0)), some (.ref (b + 157)), some (.ref (b + 171)), some (.int (nI (6 * n))), y5, y6] [] NN SH I' L' R') : VG yL_law cL_law 7 (some .boolean) room_1 (PW sb Ls b xs) b ad false (172 + n) (7753 + 6 * n) 695 [some (.ref sb), some (.ref (b + 0)), some (.ref (b + 157)), some (.ref (b + 171)), some (.int (nI (6 * n))), x5, x6] [] NN SH I L R := by
  have hl : ∀ k, live u r k → LOK F (S k) := fun k hk => (h.2.2.2.2.2.1.2.2.2.2.2 k hk).2
  have hI : ∀ c, c < ic → LOK F (im c) := fun c hc => (h.2.2.2.2.2.2.1.2.2 c hc).2
  refine g_aload_1 dL_law_695 ?_
  refine g_aload_0 dL_law_696 ?_
  refine g_iload_4 dL_law_697 ?_
  refine g_iconst (v := nI 1) dL_law_699 (by decide) ?_
  refine g_iadd dL_law_700 ?_
  rw [nI_add]
  refine g_sld dL_law_701 (by omega) hLs ?_
  refine g_aload_0 dL_law_702 ?_
  refine g_iload_4 dL_law_703 ?_
  refine g_iconst (v := nI 2) dL_law_705 (by decide) ?_
  refine g_iadd dL_law_706 ?_
  rw [nI_add]
  refine g_sld dL_law_707 (by omega) hLs ?_
  refine g_callV_2 dL_law_708 ml_L_82 mv_X11_plan (by first | assumption | rfl | exact led_1 (by assumption) | exact led_2 (by assumption) | exact bk_m (by assumption) (by first | assumption | omega) | exact bk_p (by assumption) (by first | assumption | omega) | exact bk_o (by assumption) (by first | assumption | omega) | exact bk_s (by assumption) (by first | assumption | omega) | exact bk_1 (by assumption) | exact bk_2 (by assumption) | exact bk_3 (by assumption) | exact bk_4 (by assumption) | exact bk_5 (by assumption) | exact bk_6 (by assumption) | exact bk_7 (by assumption) | exact bk_8 (by assumption) | exact sh_ring _ (by first | assumption | omega) | exact sh_imgs _ (by first | assumption | omega)) (by first | decide | (show _ < 172; omega)) (by decide) rfl (by decide) (by decide) (by show _ ≤ 601024; omega) (by show _ ≤ 7293034; omega) (Nat.le_of_ble_eq_true rfl) (fun h => h) (c_X11_plan h (fun I1 L1 R1 B1 B3 t1 h1 hh => ?_))
  refine g_aload_2 dL_law_711 ?_
  refine g_aload_0 dL_law_712 ?_
  refine g_iload_4 dL_law_713 ?_
  refine g_iconst (v := nI 1) dL_law_715 (by decide) ?_
  refine g_iadd dL_law_716 ?_
  rw [nI_add]
  refine g_sld dL_law_717 (by omega) hLs ?_
  refine g_aload_0 dL_law_718 ?_
  refine g_iload_4 dL_law_719 ?_
  refine g_iconst (v := nI 2) dL_law_721 (by decide) ?_
  refine g_iadd dL_law_722 ?_
  rw [nI_add]
  refine g_sld dL_law_723 (by omega) hLs ?_
  refine g_callV_2 dL_law_724 ml_L_85 mv_X12_plan (by first | assumption | rfl | exact led_1 (by assumption) | exact led_2 (by assumption) | exact bk_m (by assumption) (by first | assumption | omega) | exact bk_p (by assumption) (by first | assumption | omega) | exact bk_o (by assumption) (by first | assumption | omega) | exact bk_s (by assumption) (by first | assumption | omega) | exact bk_1 (by assumption) | exact bk_2 (by assumption) | exact bk_3 (by assumption) | exact bk_4 (by assumption) | exact bk_5 (by assumption) | exact bk_6 (by assumption) | exact bk_7 (by assumption) | exact bk_8 (by assumption) | exact sh_ring _ (by first | assumption | omega) | exact sh_imgs _ (by first | assumption | omega)) (by first | decide | (show _ < 172; omega)) (by decide) rfl (by decide) (by decide) (by show _ ≤ 601024; omega) (by show _ ≤ 7293034; omega) (Nat.le_of_ble_eq_true rfl) (fun h => h) (r_plan h1.1 (hr.hi hh) (fun J2 M2 h2 f2 l2 => ?_))
  refine g_icmp_eq (tgt := 1689) dL_law_727 (by decide) (fun hc727 => ?_) (fun hc727 => ?_)
  · skip
    exact VG.widen (by omega) (by omega) (nxt _ _ _ _ _ ⟨B1, B3, t1, _, _, _, _, _, _, _, _, _, _, _, h1.lo f2 (fun x a _ => l2 x a), h2⟩)
  · exact absurd rfl hc727
theorem lw_needed (hLs : Ls ≤ 3072) (hn : 6 * n + 6 ≤ Ls) (h : ClsB I L R B B2 t tp nt tr fa pl F S u r im ic) (hr : RefB I tp nt tr fa pl F S u r im ic) (nxt : ∀ (I' : HI) (L' : HL) (R' : HR) (y5 y6 : Option Value), LJ I' L' R' → VG yL_law cL_law 7 (some .boolean) room_1 (PW sb Ls b xs) b ad false (172 + (n + 1)) (7753 + 6 * (n + 1)) 1689 [some (.ref sb), some (.ref (b + 0)), some (.ref (b + 157)), some (.ref (b + 171)), some (.int (nI (6 * n))), y5, y6] [] NN SH I' L' R') : VG yL_law cL_law 7 (some .boolean) room_1 (PW sb Ls b xs) b ad false (172 + n) (7753 + 6 * n) 732 [some (.ref sb), some (.ref (b + 0)), some (.ref (b + 157)), some (.ref (b + 171)), some (.int (nI (6 * n))), x5, x6] [] NN SH I L R := by
  have hl : ∀ k, live u r k → LOK F (S k) := fun k hk => (h.2.2.2.2.2.1.2.2.2.2.2 k hk).2
  have hI : ∀ c, c < ic → LOK F (im c) := fun c hc => (h.2.2.2.2.2.2.1.2.2 c hc).2
  refine g_aload_1 dL_law_732 ?_
  refine g_aload_0 dL_law_733 ?_
  refine g_iload_4 dL_law_734 ?_
  refine g_iconst (v := nI 1) dL_law_736 (by decide) ?_
  refine g_iadd dL_law_737 ?_
  rw [nI_add]
  refine g_sld dL_law_738 (by omega) hLs ?_
  refine g_aload_0 dL_law_739 ?_
  refine g_iload_4 dL_law_740 ?_
  refine g_iconst (v := nI 2) dL_law_742 (by decide) ?_
  refine g_iadd dL_law_743 ?_
  rw [nI_add]
  refine g_sld dL_law_744 (by omega) hLs ?_
  refine g_callV_2 dL_law_745 ml_L_86 mv_X11_needed (by first | assumption | rfl | exact led_1 (by assumption) | exact led_2 (by assumption) | exact bk_m (by assumption) (by first | assumption | omega) | exact bk_p (by assumption) (by first | assumption | omega) | exact bk_o (by assumption) (by first | assumption | omega) | exact bk_s (by assumption) (by first | assumption | omega) | exact bk_1 (by assumption) | exact bk_2 (by assumption) | exact bk_3 (by assumption) | exact bk_4 (by assumption) | exact bk_5 (by assumption) | exact bk_6 (by assumption) | exact bk_7 (by assumption) | exact bk_8 (by assumption) | exact sh_ring _ (by first | assumption | omega) | exact sh_imgs _ (by first | assumption | omega)) (by first | decide | (show _ < 172; omega)) (by decide) rfl (by decide) (by decide) (by show _ ≤ 601024; omega) (by show _ ≤ 7293034; omega) (Nat.le_of_ble_eq_true rfl) (fun h => h) (c_X11_needed h (fun I1 L1 R1 B1 B3 t1 h1 hh => ?_))
  refine g_aload_2 dL_law_748 ?_
  refine g_aload_0 dL_law_749 ?_
  refine g_iload_4 dL_law_750 ?_
  refine g_iconst (v := nI 1) dL_law_752 (by decide) ?_
  refine g_iadd dL_law_753 ?_
  rw [nI_add]
  refine g_sld dL_law_754 (by omega) hLs ?_
  refine g_aload_0 dL_law_755 ?_
  refine g_iload_4 dL_law_756 ?_
  refine g_iconst (v := nI 2) dL_law_758 (by decide) ?_
  refine g_iadd dL_law_759 ?_
  rw [nI_add]
  refine g_sld dL_law_760 (by omega) hLs ?_
  refine g_callV_2 dL_law_761 ml_L_89 mv_X12_needed (by first | assumption | rfl | exact led_1 (by assumption) | exact led_2 (by assumption) | exact bk_m (by assumption) (by first | assumption | omega) | exact bk_p (by assumption) (by first | assumption | omega) | exact bk_o (by assumption) (by first | assumption | omega) | exact bk_s (by assumption) (by first | assumption | omega) | exact bk_1 (by assumption) | exact bk_2 (by assumption) | exact bk_3 (by assumption) | exact bk_4 (by assumption) | exact bk_5 (by assumption) | exact bk_6 (by assumption) | exact bk_7 (by assumption) | exact bk_8 (by assumption) | exact sh_ring _ (by first | assumption | omega) | exact sh_imgs _ (by first | assumption | omega)) (by first | decide | (show _ < 172; omega)) (by decide) rfl (by decide) (by decide) (by show _ ≤ 601024; omega) (by show _ ≤ 7293034; omega) (Nat.le_of_ble_eq_true rfl) (fun h => h) (r_needed h1.1 (hr.hi hh) (fun J2 M2 h2 f2 l2 => ?_))
  refine g_icmp_eq (tgt := 1689) dL_law_764 (by decide) (fun hc764 => ?_) (fun hc764 => ?_)
  · skip
    exact VG.widen (by omega) (by omega) (nxt _ _ _ _ _ ⟨B1, B3, t1, _, _, _, _, _, _, _, _, _, _, _, h1.lo f2 (fun x a _ => l2 x a), h2⟩)
  · exact absurd rfl hc764
theorem lw_worth (hLs : Ls ≤ 3072) (hn : 6 * n + 6 ≤ Ls) (h : ClsB I L R B B2 t tp nt tr fa pl F S u r im ic) (hr : RefB I tp nt tr fa pl F S u r im ic) (nxt : ∀ (I' : HI) (L' : HL) (R' : HR) (y5 y6 : Option Value), LJ I' L' R' → VG yL_law cL_law 7 (some .boolean) room_1 (PW sb Ls b xs) b ad false (172 + (n + 1)) (7753 + 6 * (n + 1)) 1689 [some (.ref sb), some (.ref (b + 0)), some (.ref (b + 157)), some (.ref (b + 171)), some (.int (nI (6 * n))), y5, y6] [] NN SH I' L' R') : VG yL_law cL_law 7 (some .boolean) room_1 (PW sb Ls b xs) b ad false (172 + n) (7753 + 6 * n) 769 [some (.ref sb), some (.ref (b + 0)), some (.ref (b + 157)), some (.ref (b + 171)), some (.int (nI (6 * n))), x5, x6] [] NN SH I L R := by
  have hl : ∀ k, live u r k → LOK F (S k) := fun k hk => (h.2.2.2.2.2.1.2.2.2.2.2 k hk).2
  have hI : ∀ c, c < ic → LOK F (im c) := fun c hc => (h.2.2.2.2.2.2.1.2.2 c hc).2
  refine g_aload_1 dL_law_769 ?_
  refine g_callV_0 dL_law_770 ml_L_90 mv_X11_worth (by first | assumption | rfl | exact led_1 (by assumption) | exact led_2 (by assumption) | exact bk_m (by assumption) (by first | assumption | omega) | exact bk_p (by assumption) (by first | assumption | omega) | exact bk_o (by assumption) (by first | assumption | omega) | exact bk_s (by assumption) (by first | assumption | omega) | exact bk_1 (by assumption) | exact bk_2 (by assumption) | exact bk_3 (by assumption) | exact bk_4 (by assumption) | exact bk_5 (by assumption) | exact bk_6 (by assumption) | exact bk_7 (by assumption) | exact bk_8 (by assumption) | exact sh_ring _ (by first | assumption | omega) | exact sh_imgs _ (by first | assumption | omega)) (by first | decide | (show _ < 172; omega)) (by decide) rfl (by decide) (by decide) (by show _ ≤ 601024; omega) (by show _ ≤ 7293034; omega) (Nat.le_of_ble_eq_true rfl) (fun h => h) (c_X11_worth h (fun I1 L1 R1 B1 B3 t1 h1 hh => ?_))
  refine g_aload_2 dL_law_773 ?_
  refine g_callV_0 dL_law_774 ml_L_93 mv_X12_worth (by first | assumption | rfl | exact led_1 (by assumption) | exact led_2 (by assumption) | exact bk_m (by assumption) (by first | assumption | omega) | exact bk_p (by assumption) (by first | assumption | omega) | exact bk_o (by assumption) (by first | assumption | omega) | exact bk_s (by assumption) (by first | assumption | omega) | exact bk_1 (by assumption) | exact bk_2 (by assumption) | exact bk_3 (by assumption) | exact bk_4 (by assumption) | exact bk_5 (by assumption) | exact bk_6 (by assumption) | exact bk_7 (by assumption) | exact bk_8 (by assumption) | exact sh_ring _ (by first | assumption | omega) | exact sh_imgs _ (by first | assumption | omega)) (by first | decide | (show _ < 172; omega)) (by decide) rfl (by decide) (by decide) (by show _ ≤ 601024; omega) (by show _ ≤ 7293034; omega) (Nat.le_of_ble_eq_true rfl) (fun h => h) (r_worth h1.1 (hr.hi hh) (fun J2 M2 h2 f2 l2 => ?_))
  refine g_icmp_eq (tgt := 1689) dL_law_777 (by decide) (fun hc777 => ?_) (fun hc777 => ?_)
  · skip
    exact VG.widen (by omega) (by omega) (nxt _ _ _ _ _ ⟨B1, B3, t1, _, _, _, _, _, _, _, _, _, _, _, h1.lo f2 (fun x a _ => l2 x a), h2⟩)
  · exact absurd rfl hc777
theorem lw_real (hLs : Ls ≤ 3072) (hn : 6 * n + 6 ≤ Ls) (h : ClsB I L R B B2 t tp nt tr fa pl F S u r im ic) (hr : RefB I tp nt tr fa pl F S u r im ic) (nxt : ∀ (I' : HI) (L' : HL) (R' : HR) (y5 y6 : Option Value), LJ I' L' R' → VG yL_law cL_law 7 (some .boolean) room_1 (PW sb Ls b xs) b ad false (172 + (n + 1)) (7753 + 6 * (n + 1)) 1689 [some (.ref sb), some (.ref (b + 0)), some (.ref (b + 157)), some (.ref (b + 171)), some (.int (nI (6 * n))), y5, y6] [] NN SH I' L' R') : VG yL_law cL_law 7 (some .boolean) room_1 (PW sb Ls b xs) b ad false (172 + n) (7753 + 6 * n) 782 [some (.ref sb), some (.ref (b + 0)), some (.ref (b + 157)), some (.ref (b + 171)), some (.int (nI (6 * n))), x5, x6] [] NN SH I L R := by
  have hl : ∀ k, live u r k → LOK F (S k) := fun k hk => (h.2.2.2.2.2.1.2.2.2.2.2 k hk).2
  have hI : ∀ c, c < ic → LOK F (im c) := fun c hc => (h.2.2.2.2.2.2.1.2.2 c hc).2
  refine g_aload_1 dL_law_782 ?_
  refine g_aload_0 dL_law_783 ?_
  refine g_iload_4 dL_law_784 ?_
  refine g_iconst (v := nI 1) dL_law_786 (by decide) ?_
  refine g_iadd dL_law_787 ?_
  rw [nI_add]
  refine g_sld dL_law_788 (by omega) hLs ?_
  refine g_callV_1 dL_law_789 ml_L_94 mv_X11_real (by first | assumption | rfl | exact led_1 (by assumption) | exact led_2 (by assumption) | exact bk_m (by assumption) (by first | assumption | omega) | exact bk_p (by assumption) (by first | assumption | omega) | exact bk_o (by assumption) (by first | assumption | omega) | exact bk_s (by assumption) (by first | assumption | omega) | exact bk_1 (by assumption) | exact bk_2 (by assumption) | exact bk_3 (by assumption) | exact bk_4 (by assumption) | exact bk_5 (by assumption) | exact bk_6 (by assumption) | exact bk_7 (by assumption) | exact bk_8 (by assumption) | exact sh_ring _ (by first | assumption | omega) | exact sh_imgs _ (by first | assumption | omega)) (by first | decide | (show _ < 172; omega)) (by decide) rfl (by decide) (by decide) (by show _ ≤ 601024; omega) (by show _ ≤ 7293034; omega) (Nat.le_of_ble_eq_true rfl) (fun h => h) (c_X11_real h (fun I1 L1 R1 B1 B3 t1 h1 hh => ?_))
  refine g_aload_2 dL_law_792 ?_
  refine g_aload_0 dL_law_793 ?_
  refine g_iload_4 dL_law_794 ?_
  refine g_iconst (v := nI 1) dL_law_796 (by decide) ?_
  refine g_iadd dL_law_797 ?_
  rw [nI_add]
  refine g_sld dL_law_798 (by omega) hLs ?_
  refine g_callV_1 dL_law_799 ml_L_97 mv_X12_real (by first | assumption | rfl | exact led_1 (by assumption) | exact led_2 (by assumption) | exact bk_m (by assumption) (by first | assumption | omega) | exact bk_p (by assumption) (by first | assumption | omega) | exact bk_o (by assumption) (by first | assumption | omega) | exact bk_s (by assumption) (by first | assumption | omega) | exact bk_1 (by assumption) | exact bk_2 (by assumption) | exact bk_3 (by assumption) | exact bk_4 (by assumption) | exact bk_5 (by assumption) | exact bk_6 (by assumption) | exact bk_7 (by assumption) | exact bk_8 (by assumption) | exact sh_ring _ (by first | assumption | omega) | exact sh_imgs _ (by first | assumption | omega)) (by first | decide | (show _ < 172; omega)) (by decide) rfl (by decide) (by decide) (by show _ ≤ 601024; omega) (by show _ ≤ 7293034; omega) (Nat.le_of_ble_eq_true rfl) (fun h => h) (r_real h1.1 (hr.hi hh) (fun J2 M2 h2 f2 l2 => ?_))
  refine g_icmp_eq (tgt := 1689) dL_law_802 (by decide) (fun hc802 => ?_) (fun hc802 => ?_)
  · skip
    exact VG.widen (by omega) (by omega) (nxt _ _ _ _ _ ⟨B1, B3, t1, _, _, _, _, _, _, _, _, _, _, _, h1.lo f2 (fun x a _ => l2 x a), h2⟩)
  · exact absurd rfl hc802
theorem lw_terms (hLs : Ls ≤ 3072) (hn : 6 * n + 6 ≤ Ls) (h : ClsB I L R B B2 t tp nt tr fa pl F S u r im ic) (hr : RefB I tp nt tr fa pl F S u r im ic) (nxt : ∀ (I' : HI) (L' : HL) (R' : HR) (y5 y6 : Option Value), LJ I' L' R' → VG yL_law cL_law 7 (some .boolean) room_1 (PW sb Ls b xs) b ad false (172 + (n + 1)) (7753 + 6 * (n + 1)) 1689 [some (.ref sb), some (.ref (b + 0)), some (.ref (b + 157)), some (.ref (b + 171)), some (.int (nI (6 * n))), y5, y6] [] NN SH I' L' R') : VG yL_law cL_law 7 (some .boolean) room_1 (PW sb Ls b xs) b ad false (172 + n) (7753 + 6 * n) 807 [some (.ref sb), some (.ref (b + 0)), some (.ref (b + 157)), some (.ref (b + 171)), some (.int (nI (6 * n))), x5, x6] [] NN SH I L R := by
  have hl : ∀ k, live u r k → LOK F (S k) := fun k hk => (h.2.2.2.2.2.1.2.2.2.2.2 k hk).2
  have hI : ∀ c, c < ic → LOK F (im c) := fun c hc => (h.2.2.2.2.2.2.1.2.2 c hc).2
  refine g_aload_1 dL_law_807 ?_
  refine g_callV_0 dL_law_808 ml_L_98 mv_X11_terms (by first | assumption | rfl | exact led_1 (by assumption) | exact led_2 (by assumption) | exact bk_m (by assumption) (by first | assumption | omega) | exact bk_p (by assumption) (by first | assumption | omega) | exact bk_o (by assumption) (by first | assumption | omega) | exact bk_s (by assumption) (by first | assumption | omega) | exact bk_1 (by assumption) | exact bk_2 (by assumption) | exact bk_3 (by assumption) | exact bk_4 (by assumption) | exact bk_5 (by assumption) | exact bk_6 (by assumption) | exact bk_7 (by assumption) | exact bk_8 (by assumption) | exact sh_ring _ (by first | assumption | omega) | exact sh_imgs _ (by first | assumption | omega)) (by first | decide | (show _ < 172; omega)) (by decide) rfl (by decide) (by decide) (by show _ ≤ 601024; omega) (by show _ ≤ 7293034; omega) (Nat.le_of_ble_eq_true rfl) (fun h => h) (c_X11_terms h (fun I1 L1 R1 B1 B3 t1 h1 hh => ?_))
  refine g_aload_2 dL_law_811 ?_
  refine g_callV_0 dL_law_812 ml_L_101 mv_X12_terms (by first | assumption | rfl | exact led_1 (by assumption) | exact led_2 (by assumption) | exact bk_m (by assumption) (by first | assumption | omega) | exact bk_p (by assumption) (by first | assumption | omega) | exact bk_o (by assumption) (by first | assumption | omega) | exact bk_s (by assumption) (by first | assumption | omega) | exact bk_1 (by assumption) | exact bk_2 (by assumption) | exact bk_3 (by assumption) | exact bk_4 (by assumption) | exact bk_5 (by assumption) | exact bk_6 (by assumption) | exact bk_7 (by assumption) | exact bk_8 (by assumption) | exact sh_ring _ (by first | assumption | omega) | exact sh_imgs _ (by first | assumption | omega)) (by first | decide | (show _ < 172; omega)) (by decide) rfl (by decide) (by decide) (by show _ ≤ 601024; omega) (by show _ ≤ 7293034; omega) (Nat.le_of_ble_eq_true rfl) (fun h => h) (r_terms h1.1 (hr.hi hh) (fun J2 M2 h2 f2 l2 => ?_))
  refine g_icmp_eq (tgt := 1689) dL_law_815 (by decide) (fun hc815 => ?_) (fun hc815 => ?_)
  · skip
    exact VG.widen (by omega) (by omega) (nxt _ _ _ _ _ ⟨B1, B3, t1, _, _, _, _, _, _, _, _, _, _, _, h1.lo f2 (fun x a _ => l2 x a), h2⟩)
  · exact absurd rfl hc815
theorem lw_ask (hLs : Ls ≤ 3072) (hn : 6 * n + 6 ≤ Ls) (h : ClsB I L R B B2 t tp nt tr fa pl F S u r im ic) (hr : RefB I tp nt tr fa pl F S u r im ic) (nxt : ∀ (I' : HI) (L' : HL) (R' : HR) (y5 y6 : Option Value), LJ I' L' R' → VG yL_law cL_law 7 (some .boolean) room_1 (PW sb Ls b xs) b ad false (172 + (n + 1)) (7753 + 6 * (n + 1)) 1689 [some (.ref sb), some (.ref (b + 0)), some (.ref (b + 157)), some (.ref (b + 171)), some (.int (nI (6 * n))), y5, y6] [] NN SH I' L' R') : VG yL_law cL_law 7 (some .boolean) room_1 (PW sb Ls b xs) b ad false (172 + n) (7753 + 6 * n) 820 [some (.ref sb), some (.ref (b + 0)), some (.ref (b + 157)), some (.ref (b + 171)), some (.int (nI (6 * n))), x5, x6] [] NN SH I L R := by
  have hl : ∀ k, live u r k → LOK F (S k) := fun k hk => (h.2.2.2.2.2.1.2.2.2.2.2 k hk).2
  have hI : ∀ c, c < ic → LOK F (im c) := fun c hc => (h.2.2.2.2.2.2.1.2.2 c hc).2
  refine g_aload_1 dL_law_820 ?_
  refine g_aload_0 dL_law_821 ?_
  refine g_iload_4 dL_law_822 ?_
  refine g_iconst (v := nI 1) dL_law_824 (by decide) ?_
  refine g_iadd dL_law_825 ?_
  rw [nI_add]
  refine g_sld dL_law_826 (by omega) hLs ?_
  refine g_aload_0 dL_law_827 ?_
  refine g_iload_4 dL_law_828 ?_
  refine g_iconst (v := nI 2) dL_law_830 (by decide) ?_
  refine g_iadd dL_law_831 ?_
  rw [nI_add]
  refine g_sld dL_law_832 (by omega) hLs ?_
  refine g_aload_0 dL_law_833 ?_
  refine g_iload_4 dL_law_834 ?_
  refine g_iconst (v := nI 3) dL_law_836 (by decide) ?_
  refine g_iadd dL_law_837 ?_
  rw [nI_add]
  refine g_sld dL_law_838 (by omega) hLs ?_
  refine g_aload_0 dL_law_839 ?_
  refine g_iload_4 dL_law_840 ?_
  refine g_iconst (v := nI 4) dL_law_842 (by decide) ?_
  refine g_iadd dL_law_843 ?_
  rw [nI_add]
  refine g_sld dL_law_844 (by omega) hLs ?_
  refine g_callV_4 dL_law_845 ml_L_102 mv_X11_ask (by first | assumption | rfl | exact led_1 (by assumption) | exact led_2 (by assumption) | exact bk_m (by assumption) (by first | assumption | omega) | exact bk_p (by assumption) (by first | assumption | omega) | exact bk_o (by assumption) (by first | assumption | omega) | exact bk_s (by assumption) (by first | assumption | omega) | exact bk_1 (by assumption) | exact bk_2 (by assumption) | exact bk_3 (by assumption) | exact bk_4 (by assumption) | exact bk_5 (by assumption) | exact bk_6 (by assumption) | exact bk_7 (by assumption) | exact bk_8 (by assumption) | exact sh_ring _ (by first | assumption | omega) | exact sh_imgs _ (by first | assumption | omega)) (by first | decide | (show _ < 172; omega)) (by decide) rfl (by decide) (by decide) (by show _ ≤ 601024; omega) (by show _ ≤ 7293034; omega) (Nat.le_of_ble_eq_true rfl) (fun h => h) (c_X11_ask h (fun I1 L1 R1 B1 B3 t1 h1 hh => ?_))
  refine g_aload_2 dL_law_848 ?_
  refine g_aload_0 dL_law_849 ?_
  refine g_iload_4 dL_law_850 ?_
  refine g_iconst (v := nI 1) dL_law_852 (by decide) ?_
  refine g_iadd dL_law_853 ?_
  rw [nI_add]
  refine g_sld dL_law_854 (by omega) hLs ?_
  refine g_aload_0 dL_law_855 ?_
  refine g_iload_4 dL_law_856 ?_
  refine g_iconst (v := nI 2) dL_law_858 (by decide) ?_
  refine g_iadd dL_law_859 ?_
  rw [nI_add]
  refine g_sld dL_law_860 (by omega) hLs ?_
  refine g_aload_0 dL_law_861 ?_
  refine g_iload_4 dL_law_862 ?_
  refine g_iconst (v := nI 3) dL_law_864 (by decide) ?_
  refine g_iadd dL_law_865 ?_
  rw [nI_add]
  refine g_sld dL_law_866 (by omega) hLs ?_
  refine g_aload_0 dL_law_867 ?_
  refine g_iload_4 dL_law_868 ?_
  refine g_iconst (v := nI 4) dL_law_870 (by decide) ?_
  refine g_iadd dL_law_871 ?_
  rw [nI_add]
  refine g_sld dL_law_872 (by omega) hLs ?_
  refine g_callV_4 dL_law_873 ml_L_106 mv_X12_ask (by first | assumption | rfl | exact led_1 (by assumption) | exact led_2 (by assumption) | exact bk_m (by assumption) (by first | assumption | omega) | exact bk_p (by assumption) (by first | assumption | omega) | exact bk_o (by assumption) (by first | assumption | omega) | exact bk_s (by assumption) (by first | assumption | omega) | exact bk_1 (by assumption) | exact bk_2 (by assumption) | exact bk_3 (by assumption) | exact bk_4 (by assumption) | exact bk_5 (by assumption) | exact bk_6 (by assumption) | exact bk_7 (by assumption) | exact bk_8 (by assumption) | exact sh_ring _ (by first | assumption | omega) | exact sh_imgs _ (by first | assumption | omega)) (by first | decide | (show _ < 172; omega)) (by decide) rfl (by decide) (by decide) (by show _ ≤ 601024; omega) (by show _ ≤ 7293034; omega) (Nat.le_of_ble_eq_true rfl) (fun h => h) (r_ask h1.1 (hr.hi hh) (fun J2 M2 h2 f2 l2 => ?_))
  refine g_icmp_eq (tgt := 1689) dL_law_876 (by decide) (fun hc876 => ?_) (fun hc876 => ?_)
  · skip
    exact VG.widen (by omega) (by omega) (nxt _ _ _ _ _ ⟨B1, B3, t1, _, _, _, _, _, _, _, _, _, _, _, h1.lo f2 (fun x a _ => l2 x a), h2⟩)
  · exact absurd rfl hc876
theorem lw_wearers (hLs : Ls ≤ 3072) (hn : 6 * n + 6 ≤ Ls) (h : ClsB I L R B B2 t tp nt tr fa pl F S u r im ic) (hr : RefB I tp nt tr fa pl F S u r im ic) (nxt : ∀ (I' : HI) (L' : HL) (R' : HR) (y5 y6 : Option Value), LJ I' L' R' → VG yL_law cL_law 7 (some .boolean) room_1 (PW sb Ls b xs) b ad false (172 + (n + 1)) (7753 + 6 * (n + 1)) 1689 [some (.ref sb), some (.ref (b + 0)), some (.ref (b + 157)), some (.ref (b + 171)), some (.int (nI (6 * n))), y5, y6] [] NN SH I' L' R') : VG yL_law cL_law 7 (some .boolean) room_1 (PW sb Ls b xs) b ad false (172 + n) (7753 + 6 * n) 881 [some (.ref sb), some (.ref (b + 0)), some (.ref (b + 157)), some (.ref (b + 171)), some (.int (nI (6 * n))), x5, x6] [] NN SH I L R := by
  have hl : ∀ k, live u r k → LOK F (S k) := fun k hk => (h.2.2.2.2.2.1.2.2.2.2.2 k hk).2
  have hI : ∀ c, c < ic → LOK F (im c) := fun c hc => (h.2.2.2.2.2.2.1.2.2 c hc).2
  refine g_aload_1 dL_law_881 ?_
  refine g_aload_0 dL_law_882 ?_
  refine g_iload_4 dL_law_883 ?_
  refine g_iconst (v := nI 1) dL_law_885 (by decide) ?_
  refine g_iadd dL_law_886 ?_
  rw [nI_add]
  refine g_sld dL_law_887 (by omega) hLs ?_
  refine g_callV_1 dL_law_888 ml_L_107 mv_X11_wearers (by first | assumption | rfl | exact led_1 (by assumption) | exact led_2 (by assumption) | exact bk_m (by assumption) (by first | assumption | omega) | exact bk_p (by assumption) (by first | assumption | omega) | exact bk_o (by assumption) (by first | assumption | omega) | exact bk_s (by assumption) (by first | assumption | omega) | exact bk_1 (by assumption) | exact bk_2 (by assumption) | exact bk_3 (by assumption) | exact bk_4 (by assumption) | exact bk_5 (by assumption) | exact bk_6 (by assumption) | exact bk_7 (by assumption) | exact bk_8 (by assumption) | exact sh_ring _ (by first | assumption | omega) | exact sh_imgs _ (by first | assumption | omega)) (by first | decide | (show _ < 172; omega)) (by decide) rfl (by decide) (by decide) (by show _ ≤ 601024; omega) (by show _ ≤ 7293034; omega) (Nat.le_of_ble_eq_true rfl) (fun h => h) (c_X11_wearers h (fun I1 L1 R1 B1 B3 t1 h1 hh => ?_))
  refine g_aload_2 dL_law_891 ?_
  refine g_aload_0 dL_law_892 ?_
  refine g_iload_4 dL_law_893 ?_
  refine g_iconst (v := nI 1) dL_law_895 (by decide) ?_
  refine g_iadd dL_law_896 ?_
  rw [nI_add]
  refine g_sld dL_law_897 (by omega) hLs ?_
  refine g_callV_1 dL_law_898 ml_L_110 mv_X12_wearers (by first | assumption | rfl | exact led_1 (by assumption) | exact led_2 (by assumption) | exact bk_m (by assumption) (by first | assumption | omega) | exact bk_p (by assumption) (by first | assumption | omega) | exact bk_o (by assumption) (by first | assumption | omega) | exact bk_s (by assumption) (by first | assumption | omega) | exact bk_1 (by assumption) | exact bk_2 (by assumption) | exact bk_3 (by assumption) | exact bk_4 (by assumption) | exact bk_5 (by assumption) | exact bk_6 (by assumption) | exact bk_7 (by assumption) | exact bk_8 (by assumption) | exact sh_ring _ (by first | assumption | omega) | exact sh_imgs _ (by first | assumption | omega)) (by first | decide | (show _ < 172; omega)) (by decide) rfl (by decide) (by decide) (by show _ ≤ 601024; omega) (by show _ ≤ 7293034; omega) (Nat.le_of_ble_eq_true rfl) (fun h => h) (r_wearers h1.1 (hr.hi hh) (fun J2 M2 h2 f2 l2 => ?_))
  refine g_icmp_eq (tgt := 1689) dL_law_901 (by decide) (fun hc901 => ?_) (fun hc901 => ?_)
  · skip
    exact VG.widen (by omega) (by omega) (nxt _ _ _ _ _ ⟨B1, B3, t1, _, _, _, _, _, _, _, _, _, _, _, h1.lo f2 (fun x a _ => l2 x a), h2⟩)
  · exact absurd rfl hc901
theorem lw_odds (hLs : Ls ≤ 3072) (hn : 6 * n + 6 ≤ Ls) (h : ClsB I L R B B2 t tp nt tr fa pl F S u r im ic) (hr : RefB I tp nt tr fa pl F S u r im ic) (nxt : ∀ (I' : HI) (L' : HL) (R' : HR) (y5 y6 : Option Value), LJ I' L' R' → VG yL_law cL_law 7 (some .boolean) room_1 (PW sb Ls b xs) b ad false (172 + (n + 1)) (7753 + 6 * (n + 1)) 1689 [some (.ref sb), some (.ref (b + 0)), some (.ref (b + 157)), some (.ref (b + 171)), some (.int (nI (6 * n))), y5, y6] [] NN SH I' L' R') : VG yL_law cL_law 7 (some .boolean) room_1 (PW sb Ls b xs) b ad false (172 + n) (7753 + 6 * n) 906 [some (.ref sb), some (.ref (b + 0)), some (.ref (b + 157)), some (.ref (b + 171)), some (.int (nI (6 * n))), x5, x6] [] NN SH I L R := by
  have hl : ∀ k, live u r k → LOK F (S k) := fun k hk => (h.2.2.2.2.2.1.2.2.2.2.2 k hk).2
  have hI : ∀ c, c < ic → LOK F (im c) := fun c hc => (h.2.2.2.2.2.2.1.2.2 c hc).2
  refine g_aload_1 dL_law_906 ?_
  refine g_aload_0 dL_law_907 ?_
  refine g_iload_4 dL_law_908 ?_
  refine g_iconst (v := nI 1) dL_law_910 (by decide) ?_
  refine g_iadd dL_law_911 ?_
  rw [nI_add]
  refine g_sld dL_law_912 (by omega) hLs ?_
  refine g_aload_0 dL_law_913 ?_
  refine g_iload_4 dL_law_914 ?_
  refine g_iconst (v := nI 2) dL_law_916 (by decide) ?_
  refine g_iadd dL_law_917 ?_
  rw [nI_add]
  refine g_sld dL_law_918 (by omega) hLs ?_
  refine g_aload_0 dL_law_919 ?_
  refine g_iload_4 dL_law_920 ?_
  refine g_iconst (v := nI 3) dL_law_922 (by decide) ?_
  refine g_iadd dL_law_923 ?_
  rw [nI_add]
  refine g_sld dL_law_924 (by omega) hLs ?_
  refine g_aload_0 dL_law_925 ?_
  refine g_iload_4 dL_law_926 ?_
  refine g_iconst (v := nI 4) dL_law_928 (by decide) ?_
  refine g_iadd dL_law_929 ?_
  rw [nI_add]
  refine g_sld dL_law_930 (by omega) hLs ?_
  refine g_if_eq (tgt := 938) dL_law_931 (by decide) (fun hc931 => ?_) (fun hc931 => ?_)
  · have hcB := hc931
    refine g_iconst (v := nI 0) dL_law_938 (by decide) ?_
    refine g_callV_4 dL_law_939 ml_L_111 mv_X11_odds (by first | assumption | rfl | exact led_1 (by assumption) | exact led_2 (by assumption) | exact bk_m (by assumption) (by first | assumption | omega) | exact bk_p (by assumption) (by first | assumption | omega) | exact bk_o (by assumption) (by first | assumption | omega) | exact bk_s (by assumption) (by first | assumption | omega) | exact bk_1 (by assumption) | exact bk_2 (by assumption) | exact bk_3 (by assumption) | exact bk_4 (by assumption) | exact bk_5 (by assumption) | exact bk_6 (by assumption) | exact bk_7 (by assumption) | exact bk_8 (by assumption) | exact sh_ring _ (by first | assumption | omega) | exact sh_imgs _ (by first | assumption | omega)) (by first | decide | (show _ < 172; omega)) (by decide) rfl (by decide) (by decide) (by show _ ≤ 601024; omega) (by show _ ≤ 7293034; omega) (Nat.le_of_ble_eq_true rfl) (fun h => h) (c_X11_odds (lo := false) h (fun I1 L1 R1 B1 B3 t1 h1 hh => ?_))
    refine g_aload_2 dL_law_942 ?_
    refine g_aload_0 dL_law_943 ?_
    refine g_iload_4 dL_law_944 ?_
    refine g_iconst (v := nI 1) dL_law_946 (by decide) ?_
    refine g_iadd dL_law_947 ?_
    rw [nI_add]
    refine g_sld dL_law_948 (by omega) hLs ?_
    refine g_aload_0 dL_law_949 ?_
    refine g_iload_4 dL_law_950 ?_
    refine g_iconst (v := nI 2) dL_law_952 (by decide) ?_
    refine g_iadd dL_law_953 ?_
    rw [nI_add]
    refine g_sld dL_law_954 (by omega) hLs ?_
    refine g_aload_0 dL_law_955 ?_
    refine g_iload_4 dL_law_956 ?_
    refine g_iconst (v := nI 3) dL_law_958 (by decide) ?_
    refine g_iadd dL_law_959 ?_
    rw [nI_add]
    refine g_sld dL_law_960 (by omega) hLs ?_
    refine g_aload_0 dL_law_961 ?_
    refine g_iload_4 dL_law_962 ?_
    refine g_iconst (v := nI 4) dL_law_964 (by decide) ?_
    refine g_iadd dL_law_965 ?_
    rw [nI_add]
    refine g_sld dL_law_966 (by omega) hLs ?_
    refine g_if_eq (tgt := 974) dL_law_967 (by decide) (fun hc967 => ?_) (fun hc967 => ?_)
    · skip
      refine g_iconst (v := nI 0) dL_law_974 (by decide) ?_
      refine g_callV_4 dL_law_975 ml_L_115 mv_X12_odds (by first | assumption | rfl | exact led_1 (by assumption) | exact led_2 (by assumption) | exact bk_m (by assumption) (by first | assumption | omega) | exact bk_p (by assumption) (by first | assumption | omega) | exact bk_o (by assumption) (by first | assumption | omega) | exact bk_s (by assumption) (by first | assumption | omega) | exact bk_1 (by assumption) | exact bk_2 (by assumption) | exact bk_3 (by assumption) | exact bk_4 (by assumption) | exact bk_5 (by assumption) | exact bk_6 (by assumption) | exact bk_7 (by assumption) | exact bk_8 (by assumption) | exact sh_ring _ (by first | assumption | omega) | exact sh_imgs _ (by first | assumption | omega)) (by first | decide | (show _ < 172; omega)) (by decide) rfl (by decide) (by decide) (by show _ ≤ 601024; omega) (by show _ ≤ 7293034; omega) (Nat.le_of_ble_eq_true rfl) (fun h => h) (r_odds (lo := false) h1.1 (hr.hi hh) (fun J2 M2 h2 f2 l2 => ?_))
      refine g_icmp_eq (tgt := 1689) dL_law_978 (by decide) (fun hc978 => ?_) (fun hc978 => ?_)
      · skip
        exact VG.widen (by omega) (by omega) (nxt _ _ _ _ _ ⟨B1, B3, t1, _, _, _, _, _, _, _, _, _, _, _, h1.lo f2 (fun x a _ => l2 x a), h2⟩)
      · exact absurd rfl hc978
    · exact absurd hcB hc967
  · have hcB := hc931
    refine g_iconst (v := nI 1) dL_law_934 (by decide) ?_
    refine g_goto (tgt := 939) dL_law_935 (by decide) ?_
    refine g_callV_4 dL_law_939 ml_L_111 mv_X11_odds (by first | assumption | rfl | exact led_1 (by assumption) | exact led_2 (by assumption) | exact bk_m (by assumption) (by first | assumption | omega) | exact bk_p (by assumption) (by first | assumption | omega) | exact bk_o (by assumption) (by first | assumption | omega) | exact bk_s (by assumption) (by first | assumption | omega) | exact bk_1 (by assumption) | exact bk_2 (by assumption) | exact bk_3 (by assumption) | exact bk_4 (by assumption) | exact bk_5 (by assumption) | exact bk_6 (by assumption) | exact bk_7 (by assumption) | exact bk_8 (by assumption) | exact sh_ring _ (by first | assumption | omega) | exact sh_imgs _ (by first | assumption | omega)) (by first | decide | (show _ < 172; omega)) (by decide) rfl (by decide) (by decide) (by show _ ≤ 601024; omega) (by show _ ≤ 7293034; omega) (Nat.le_of_ble_eq_true rfl) (fun h => h) (c_X11_odds (lo := true) h (fun I1 L1 R1 B1 B3 t1 h1 hh => ?_))
    refine g_aload_2 dL_law_942 ?_
    refine g_aload_0 dL_law_943 ?_
    refine g_iload_4 dL_law_944 ?_
    refine g_iconst (v := nI 1) dL_law_946 (by decide) ?_
    refine g_iadd dL_law_947 ?_
    rw [nI_add]
    refine g_sld dL_law_948 (by omega) hLs ?_
    refine g_aload_0 dL_law_949 ?_
    refine g_iload_4 dL_law_950 ?_
    refine g_iconst (v := nI 2) dL_law_952 (by decide) ?_
    refine g_iadd dL_law_953 ?_
    rw [nI_add]
    refine g_sld dL_law_954 (by omega) hLs ?_
    refine g_aload_0 dL_law_955 ?_
    refine g_iload_4 dL_law_956 ?_
    refine g_iconst (v := nI 3) dL_law_958 (by decide) ?_
    refine g_iadd dL_law_959 ?_
    rw [nI_add]
    refine g_sld dL_law_960 (by omega) hLs ?_
    refine g_aload_0 dL_law_961 ?_
    refine g_iload_4 dL_law_962 ?_
    refine g_iconst (v := nI 4) dL_law_964 (by decide) ?_
    refine g_iadd dL_law_965 ?_
    rw [nI_add]
    refine g_sld dL_law_966 (by omega) hLs ?_
    refine g_if_eq (tgt := 974) dL_law_967 (by decide) (fun hc967 => ?_) (fun hc967 => ?_)
    · exact absurd hc967 hcB
    · skip
      refine g_iconst (v := nI 1) dL_law_970 (by decide) ?_
      refine g_goto (tgt := 975) dL_law_971 (by decide) ?_
      refine g_callV_4 dL_law_975 ml_L_115 mv_X12_odds (by first | assumption | rfl | exact led_1 (by assumption) | exact led_2 (by assumption) | exact bk_m (by assumption) (by first | assumption | omega) | exact bk_p (by assumption) (by first | assumption | omega) | exact bk_o (by assumption) (by first | assumption | omega) | exact bk_s (by assumption) (by first | assumption | omega) | exact bk_1 (by assumption) | exact bk_2 (by assumption) | exact bk_3 (by assumption) | exact bk_4 (by assumption) | exact bk_5 (by assumption) | exact bk_6 (by assumption) | exact bk_7 (by assumption) | exact bk_8 (by assumption) | exact sh_ring _ (by first | assumption | omega) | exact sh_imgs _ (by first | assumption | omega)) (by first | decide | (show _ < 172; omega)) (by decide) rfl (by decide) (by decide) (by show _ ≤ 601024; omega) (by show _ ≤ 7293034; omega) (Nat.le_of_ble_eq_true rfl) (fun h => h) (r_odds (lo := true) h1.1 (hr.hi hh) (fun J2 M2 h2 f2 l2 => ?_))
      refine g_icmp_eq (tgt := 1689) dL_law_978 (by decide) (fun hc978 => ?_) (fun hc978 => ?_)
      · skip
        exact VG.widen (by omega) (by omega) (nxt _ _ _ _ _ ⟨B1, B3, t1, _, _, _, _, _, _, _, _, _, _, _, h1.lo f2 (fun x a _ => l2 x a), h2⟩)
      · exact absurd rfl hc978
theorem lw_may (hLs : Ls ≤ 3072) (hn : 6 * n + 6 ≤ Ls) (h : ClsB I L R B B2 t tp nt tr fa pl F S u r im ic) (hr : RefB I tp nt tr fa pl F S u r im ic) (nxt : ∀ (I' : HI) (L' : HL) (R' : HR) (y5 y6 : Option Value), LJ I' L' R' → VG yL_law cL_law 7 (some .boolean) room_1 (PW sb Ls b xs) b ad false (172 + (n + 1)) (7753 + 6 * (n + 1)) 1689 [some (.ref sb), some (.ref (b + 0)), some (.ref (b + 157)), some (.ref (b + 171)), some (.int (nI (6 * n))), y5, y6] [] NN SH I' L' R') : VG yL_law cL_law 7 (some .boolean) room_1 (PW sb Ls b xs) b ad false (172 + n) (7753 + 6 * n) 983 [some (.ref sb), some (.ref (b + 0)), some (.ref (b + 157)), some (.ref (b + 171)), some (.int (nI (6 * n))), x5, x6] [] NN SH I L R := by
  have hl : ∀ k, live u r k → LOK F (S k) := fun k hk => (h.2.2.2.2.2.1.2.2.2.2.2 k hk).2
  have hI : ∀ c, c < ic → LOK F (im c) := fun c hc => (h.2.2.2.2.2.2.1.2.2 c hc).2
  refine g_aload_1 dL_law_983 ?_
  refine g_aload_0 dL_law_984 ?_
  refine g_iload_4 dL_law_985 ?_
  refine g_iconst (v := nI 1) dL_law_987 (by decide) ?_
  refine g_iadd dL_law_988 ?_
  rw [nI_add]
  refine g_sld dL_law_989 (by omega) hLs ?_
  refine g_aload_0 dL_law_990 ?_
  refine g_iload_4 dL_law_991 ?_
  refine g_iconst (v := nI 2) dL_law_993 (by decide) ?_
  refine g_iadd dL_law_994 ?_
  rw [nI_add]
  refine g_sld dL_law_995 (by omega) hLs ?_
  refine g_callV_2 dL_law_996 ml_L_116 mv_X11_may (by first | assumption | rfl | exact led_1 (by assumption) | exact led_2 (by assumption) | exact bk_m (by assumption) (by first | assumption | omega) | exact bk_p (by assumption) (by first | assumption | omega) | exact bk_o (by assumption) (by first | assumption | omega) | exact bk_s (by assumption) (by first | assumption | omega) | exact bk_1 (by assumption) | exact bk_2 (by assumption) | exact bk_3 (by assumption) | exact bk_4 (by assumption) | exact bk_5 (by assumption) | exact bk_6 (by assumption) | exact bk_7 (by assumption) | exact bk_8 (by assumption) | exact sh_ring _ (by first | assumption | omega) | exact sh_imgs _ (by first | assumption | omega)) (by first | decide | (show _ < 172; omega)) (by decide) rfl (by decide) (by decide) (by show _ ≤ 601024; omega) (by show _ ≤ 7293034; omega) (Nat.le_of_ble_eq_true rfl) (fun h => h) (c_X11_may h (fun I1 L1 R1 B1 B3 t1 h1 hh => ?_))
  refine g_aload_2 dL_law_999 ?_
  refine g_aload_0 dL_law_1000 ?_
  refine g_iload_4 dL_law_1001 ?_
  refine g_iconst (v := nI 1) dL_law_1003 (by decide) ?_
  refine g_iadd dL_law_1004 ?_
  rw [nI_add]
  refine g_sld dL_law_1005 (by omega) hLs ?_
  refine g_aload_0 dL_law_1006 ?_
  refine g_iload_4 dL_law_1007 ?_
  refine g_iconst (v := nI 2) dL_law_1009 (by decide) ?_
  refine g_iadd dL_law_1010 ?_
  rw [nI_add]
  refine g_sld dL_law_1011 (by omega) hLs ?_
  refine g_callV_2 dL_law_1012 ml_L_119 mv_X12_may (by first | assumption | rfl | exact led_1 (by assumption) | exact led_2 (by assumption) | exact bk_m (by assumption) (by first | assumption | omega) | exact bk_p (by assumption) (by first | assumption | omega) | exact bk_o (by assumption) (by first | assumption | omega) | exact bk_s (by assumption) (by first | assumption | omega) | exact bk_1 (by assumption) | exact bk_2 (by assumption) | exact bk_3 (by assumption) | exact bk_4 (by assumption) | exact bk_5 (by assumption) | exact bk_6 (by assumption) | exact bk_7 (by assumption) | exact bk_8 (by assumption) | exact sh_ring _ (by first | assumption | omega) | exact sh_imgs _ (by first | assumption | omega)) (by first | decide | (show _ < 172; omega)) (by decide) rfl (by decide) (by decide) (by show _ ≤ 601024; omega) (by show _ ≤ 7293034; omega) (Nat.le_of_ble_eq_true rfl) (fun h => h) (r_may h1.1 (hr.hi hh) (fun J2 M2 h2 f2 l2 => ?_))
  refine g_icmp_eq (tgt := 1689) dL_law_1015 (by decide) (fun hc1015 => ?_) (fun hc1015 => ?_)
  · skip
    exact VG.widen (by omega) (by omega) (nxt _ _ _ _ _ ⟨B1, B3, t1, _, _, _, _, _, _, _, _, _, _, _, h1.lo f2 (fun x a _ => l2 x a), h2⟩)
  · exact absurd rfl hc1015
theorem lw_untrue (hLs : Ls ≤ 3072) (hn : 6 * n + 6 ≤ Ls) (h : ClsB I L R B B2 t tp nt tr fa pl F S u r im ic) (hr : RefB I tp nt tr fa pl F S u r im ic) (nxt : ∀ (I' : HI) (L' : HL) (R' : HR) (y5 y6 : Option Value), LJ I' L' R' → VG yL_law cL_law 7 (some .boolean) room_1 (PW sb Ls b xs) b ad false (172 + (n + 1)) (7753 + 6 * (n + 1)) 1689 [some (.ref sb), some (.ref (b + 0)), some (.ref (b + 157)), some (.ref (b + 171)), some (.int (nI (6 * n))), y5, y6] [] NN SH I' L' R') : VG yL_law cL_law 7 (some .boolean) room_1 (PW sb Ls b xs) b ad false (172 + n) (7753 + 6 * n) 1020 [some (.ref sb), some (.ref (b + 0)), some (.ref (b + 157)), some (.ref (b + 171)), some (.int (nI (6 * n))), x5, x6] [] NN SH I L R := by
  have hl : ∀ k, live u r k → LOK F (S k) := fun k hk => (h.2.2.2.2.2.1.2.2.2.2.2 k hk).2
  have hI : ∀ c, c < ic → LOK F (im c) := fun c hc => (h.2.2.2.2.2.2.1.2.2 c hc).2
  refine g_aload_1 dL_law_1020 ?_
  refine g_aload_0 dL_law_1021 ?_
  refine g_iload_4 dL_law_1022 ?_
  refine g_iconst (v := nI 1) dL_law_1024 (by decide) ?_
  refine g_iadd dL_law_1025 ?_
  rw [nI_add]
  refine g_sld dL_law_1026 (by omega) hLs ?_
  refine g_callV_1 dL_law_1027 ml_L_120 mv_X11_untrue (by first | assumption | rfl | exact led_1 (by assumption) | exact led_2 (by assumption) | exact bk_m (by assumption) (by first | assumption | omega) | exact bk_p (by assumption) (by first | assumption | omega) | exact bk_o (by assumption) (by first | assumption | omega) | exact bk_s (by assumption) (by first | assumption | omega) | exact bk_1 (by assumption) | exact bk_2 (by assumption) | exact bk_3 (by assumption) | exact bk_4 (by assumption) | exact bk_5 (by assumption) | exact bk_6 (by assumption) | exact bk_7 (by assumption) | exact bk_8 (by assumption) | exact sh_ring _ (by first | assumption | omega) | exact sh_imgs _ (by first | assumption | omega)) (by first | decide | (show _ < 172; omega)) (by decide) rfl (by decide) (by decide) (by show _ ≤ 601024; omega) (by show _ ≤ 7293034; omega) (Nat.le_of_ble_eq_true rfl) (fun h => h) (c_X11_untrue h (fun I1 L1 R1 B1 B3 t1 h1 hh => ?_))
  refine g_aload_2 dL_law_1030 ?_
  refine g_aload_0 dL_law_1031 ?_
  refine g_iload_4 dL_law_1032 ?_
  refine g_iconst (v := nI 1) dL_law_1034 (by decide) ?_
  refine g_iadd dL_law_1035 ?_
  rw [nI_add]
  refine g_sld dL_law_1036 (by omega) hLs ?_
  refine g_callV_1 dL_law_1037 ml_L_123 mv_X12_untrue (by first | assumption | rfl | exact led_1 (by assumption) | exact led_2 (by assumption) | exact bk_m (by assumption) (by first | assumption | omega) | exact bk_p (by assumption) (by first | assumption | omega) | exact bk_o (by assumption) (by first | assumption | omega) | exact bk_s (by assumption) (by first | assumption | omega) | exact bk_1 (by assumption) | exact bk_2 (by assumption) | exact bk_3 (by assumption) | exact bk_4 (by assumption) | exact bk_5 (by assumption) | exact bk_6 (by assumption) | exact bk_7 (by assumption) | exact bk_8 (by assumption) | exact sh_ring _ (by first | assumption | omega) | exact sh_imgs _ (by first | assumption | omega)) (by first | decide | (show _ < 172; omega)) (by decide) rfl (by decide) (by decide) (by show _ ≤ 601024; omega) (by show _ ≤ 7293034; omega) (Nat.le_of_ble_eq_true rfl) (fun h => h) (r_untrue h1.1 (hr.hi hh) (fun J2 M2 h2 f2 l2 => ?_))
  refine g_icmp_eq (tgt := 1689) dL_law_1040 (by decide) (fun hc1040 => ?_) (fun hc1040 => ?_)
  · skip
    exact VG.widen (by omega) (by omega) (nxt _ _ _ _ _ ⟨B1, B3, t1, _, _, _, _, _, _, _, _, _, _, _, h1.lo f2 (fun x a _ => l2 x a), h2⟩)
  · exact absurd rfl hc1040
theorem lw_agrees (hLs : Ls ≤ 3072) (hn : 6 * n + 6 ≤ Ls) (h : ClsB I L R B B2 t tp nt tr fa pl F S u r im ic) (hr : RefB I tp nt tr fa pl F S u r im ic) (nxt : ∀ (I' : HI) (L' : HL) (R' : HR) (y5 y6 : Option Value), LJ I' L' R' → VG yL_law cL_law 7 (some .boolean) room_1 (PW sb Ls b xs) b ad false (172 + (n + 1)) (7753 + 6 * (n + 1)) 1689 [some (.ref sb), some (.ref (b + 0)), some (.ref (b + 157)), some (.ref (b + 171)), some (.int (nI (6 * n))), y5, y6] [] NN SH I' L' R') : VG yL_law cL_law 7 (some .boolean) room_1 (PW sb Ls b xs) b ad false (172 + n) (7753 + 6 * n) 1045 [some (.ref sb), some (.ref (b + 0)), some (.ref (b + 157)), some (.ref (b + 171)), some (.int (nI (6 * n))), x5, x6] [] NN SH I L R := by
  have hl : ∀ k, live u r k → LOK F (S k) := fun k hk => (h.2.2.2.2.2.1.2.2.2.2.2 k hk).2
  have hI : ∀ c, c < ic → LOK F (im c) := fun c hc => (h.2.2.2.2.2.2.1.2.2 c hc).2
  refine g_aload_1 dL_law_1045 ?_
  refine g_aload_0 dL_law_1046 ?_
  refine g_iload_4 dL_law_1047 ?_
  refine g_iconst (v := nI 1) dL_law_1049 (by decide) ?_
  refine g_iadd dL_law_1050 ?_
  rw [nI_add]
  refine g_sld dL_law_1051 (by omega) hLs ?_
  refine g_aload_0 dL_law_1052 ?_
  refine g_iload_4 dL_law_1053 ?_
  refine g_iconst (v := nI 2) dL_law_1055 (by decide) ?_
  refine g_iadd dL_law_1056 ?_
  rw [nI_add]
  refine g_sld dL_law_1057 (by omega) hLs ?_
  refine g_callV_2 dL_law_1058 ml_L_124 mv_X11_agrees (by first | assumption | rfl | exact led_1 (by assumption) | exact led_2 (by assumption) | exact bk_m (by assumption) (by first | assumption | omega) | exact bk_p (by assumption) (by first | assumption | omega) | exact bk_o (by assumption) (by first | assumption | omega) | exact bk_s (by assumption) (by first | assumption | omega) | exact bk_1 (by assumption) | exact bk_2 (by assumption) | exact bk_3 (by assumption) | exact bk_4 (by assumption) | exact bk_5 (by assumption) | exact bk_6 (by assumption) | exact bk_7 (by assumption) | exact bk_8 (by assumption) | exact sh_ring _ (by first | assumption | omega) | exact sh_imgs _ (by first | assumption | omega)) (by first | decide | (show _ < 172; omega)) (by decide) rfl (by decide) (by decide) (by show _ ≤ 601024; omega) (by show _ ≤ 7293034; omega) (Nat.le_of_ble_eq_true rfl) (fun h => h) (c_X11_agrees h (fun I1 L1 R1 B1 B3 t1 h1 hh => ?_))
  refine g_aload_2 dL_law_1061 ?_
  refine g_aload_0 dL_law_1062 ?_
  refine g_iload_4 dL_law_1063 ?_
  refine g_iconst (v := nI 1) dL_law_1065 (by decide) ?_
  refine g_iadd dL_law_1066 ?_
  rw [nI_add]
  refine g_sld dL_law_1067 (by omega) hLs ?_
  refine g_aload_0 dL_law_1068 ?_
  refine g_iload_4 dL_law_1069 ?_
  refine g_iconst (v := nI 2) dL_law_1071 (by decide) ?_
  refine g_iadd dL_law_1072 ?_
  rw [nI_add]
  refine g_sld dL_law_1073 (by omega) hLs ?_
  refine g_callV_2 dL_law_1074 ml_L_127 mv_X12_agrees (by first | assumption | rfl | exact led_1 (by assumption) | exact led_2 (by assumption) | exact bk_m (by assumption) (by first | assumption | omega) | exact bk_p (by assumption) (by first | assumption | omega) | exact bk_o (by assumption) (by first | assumption | omega) | exact bk_s (by assumption) (by first | assumption | omega) | exact bk_1 (by assumption) | exact bk_2 (by assumption) | exact bk_3 (by assumption) | exact bk_4 (by assumption) | exact bk_5 (by assumption) | exact bk_6 (by assumption) | exact bk_7 (by assumption) | exact bk_8 (by assumption) | exact sh_ring _ (by first | assumption | omega) | exact sh_imgs _ (by first | assumption | omega)) (by first | decide | (show _ < 172; omega)) (by decide) rfl (by decide) (by decide) (by show _ ≤ 601024; omega) (by show _ ≤ 7293034; omega) (Nat.le_of_ble_eq_true rfl) (fun h => h) (r_agrees h1.1 (hr.hi hh) (fun J2 M2 h2 f2 l2 => ?_))
  refine g_icmp_eq (tgt := 1689) dL_law_1077 (by decide) (fun hc1077 => ?_) (fun hc1077 => ?_)
  · skip
    exact VG.widen (by omega) (by omega) (nxt _ _ _ _ _ ⟨B1, B3, t1, _, _, _, _, _, _, _, _, _, _, _, h1.lo f2 (fun x a _ => l2 x a), h2⟩)
  · exact absurd rfl hc1077
theorem lw_lovers (hLs : Ls ≤ 3072) (hn : 6 * n + 6 ≤ Ls) (h : ClsB I L R B B2 t tp nt tr fa pl F S u r im ic) (hr : RefB I tp nt tr fa pl F S u r im ic) (nxt : ∀ (I' : HI) (L' : HL) (R' : HR) (y5 y6 : Option Value), LJ I' L' R' → VG yL_law cL_law 7 (some .boolean) room_1 (PW sb Ls b xs) b ad false (172 + (n + 1)) (7753 + 6 * (n + 1)) 1689 [some (.ref sb), some (.ref (b + 0)), some (.ref (b + 157)), some (.ref (b + 171)), some (.int (nI (6 * n))), y5, y6] [] NN SH I' L' R') : VG yL_law cL_law 7 (some .boolean) room_1 (PW sb Ls b xs) b ad false (172 + n) (7753 + 6 * n) 1082 [some (.ref sb), some (.ref (b + 0)), some (.ref (b + 157)), some (.ref (b + 171)), some (.int (nI (6 * n))), x5, x6] [] NN SH I L R := by
  have hl : ∀ k, live u r k → LOK F (S k) := fun k hk => (h.2.2.2.2.2.1.2.2.2.2.2 k hk).2
  have hI : ∀ c, c < ic → LOK F (im c) := fun c hc => (h.2.2.2.2.2.2.1.2.2 c hc).2
  refine g_aload_1 dL_law_1082 ?_
  refine g_aload_0 dL_law_1083 ?_
  refine g_iload_4 dL_law_1084 ?_
  refine g_iconst (v := nI 1) dL_law_1086 (by decide) ?_
  refine g_iadd dL_law_1087 ?_
  rw [nI_add]
  refine g_sld dL_law_1088 (by omega) hLs ?_
  refine g_aload_0 dL_law_1089 ?_
  refine g_iload_4 dL_law_1090 ?_
  refine g_iconst (v := nI 2) dL_law_1092 (by decide) ?_
  refine g_iadd dL_law_1093 ?_
  rw [nI_add]
  refine g_sld dL_law_1094 (by omega) hLs ?_
  refine g_callV_2 dL_law_1095 ml_L_128 mv_X11_lovers (by first | assumption | rfl | exact led_1 (by assumption) | exact led_2 (by assumption) | exact bk_m (by assumption) (by first | assumption | omega) | exact bk_p (by assumption) (by first | assumption | omega) | exact bk_o (by assumption) (by first | assumption | omega) | exact bk_s (by assumption) (by first | assumption | omega) | exact bk_1 (by assumption) | exact bk_2 (by assumption) | exact bk_3 (by assumption) | exact bk_4 (by assumption) | exact bk_5 (by assumption) | exact bk_6 (by assumption) | exact bk_7 (by assumption) | exact bk_8 (by assumption) | exact sh_ring _ (by first | assumption | omega) | exact sh_imgs _ (by first | assumption | omega)) (by first | decide | (show _ < 172; omega)) (by decide) rfl (by decide) (by decide) (by show _ ≤ 601024; omega) (by show _ ≤ 7293034; omega) (Nat.le_of_ble_eq_true rfl) (fun h => h) (c_X11_lovers h (fun I1 L1 R1 B1 B3 t1 h1 hh => ?_))
  refine g_aload_2 dL_law_1098 ?_
  refine g_aload_0 dL_law_1099 ?_
  refine g_iload_4 dL_law_1100 ?_
  refine g_iconst (v := nI 1) dL_law_1102 (by decide) ?_
  refine g_iadd dL_law_1103 ?_
  rw [nI_add]
  refine g_sld dL_law_1104 (by omega) hLs ?_
  refine g_aload_0 dL_law_1105 ?_
  refine g_iload_4 dL_law_1106 ?_
  refine g_iconst (v := nI 2) dL_law_1108 (by decide) ?_
  refine g_iadd dL_law_1109 ?_
  rw [nI_add]
  refine g_sld dL_law_1110 (by omega) hLs ?_
  refine g_callV_2 dL_law_1111 ml_L_131 mv_X12_lovers (by first | assumption | rfl | exact led_1 (by assumption) | exact led_2 (by assumption) | exact bk_m (by assumption) (by first | assumption | omega) | exact bk_p (by assumption) (by first | assumption | omega) | exact bk_o (by assumption) (by first | assumption | omega) | exact bk_s (by assumption) (by first | assumption | omega) | exact bk_1 (by assumption) | exact bk_2 (by assumption) | exact bk_3 (by assumption) | exact bk_4 (by assumption) | exact bk_5 (by assumption) | exact bk_6 (by assumption) | exact bk_7 (by assumption) | exact bk_8 (by assumption) | exact sh_ring _ (by first | assumption | omega) | exact sh_imgs _ (by first | assumption | omega)) (by first | decide | (show _ < 172; omega)) (by decide) rfl (by decide) (by decide) (by show _ ≤ 601024; omega) (by show _ ≤ 7293034; omega) (Nat.le_of_ble_eq_true rfl) (fun h => h) (r_lovers h1.1 (hr.hi hh) (fun J2 M2 h2 f2 l2 => ?_))
  refine g_icmp_eq (tgt := 1689) dL_law_1114 (by decide) (fun hc1114 => ?_) (fun hc1114 => ?_)
  · skip
    exact VG.widen (by omega) (by omega) (nxt _ _ _ _ _ ⟨B1, B3, t1, _, _, _, _, _, _, _, _, _, _, _, h1.lo f2 (fun x a _ => l2 x a), h2⟩)
  · exact absurd rfl hc1114
theorem lw_lover (hLs : Ls ≤ 3072) (hn : 6 * n + 6 ≤ Ls) (h : ClsB I L R B B2 t tp nt tr fa pl F S u r im ic) (hr : RefB I tp nt tr fa pl F S u r im ic) (nxt : ∀ (I' : HI) (L' : HL) (R' : HR) (y5 y6 : Option Value), LJ I' L' R' → VG yL_law cL_law 7 (some .boolean) room_1 (PW sb Ls b xs) b ad false (172 + (n + 1)) (7753 + 6 * (n + 1)) 1689 [some (.ref sb), some (.ref (b + 0)), some (.ref (b + 157)), some (.ref (b + 171)), some (.int (nI (6 * n))), y5, y6] [] NN SH I' L' R') : VG yL_law cL_law 7 (some .boolean) room_1 (PW sb Ls b xs) b ad false (172 + n) (7753 + 6 * n) 1119 [some (.ref sb), some (.ref (b + 0)), some (.ref (b + 157)), some (.ref (b + 171)), some (.int (nI (6 * n))), x5, x6] [] NN SH I L R := by
  have hl : ∀ k, live u r k → LOK F (S k) := fun k hk => (h.2.2.2.2.2.1.2.2.2.2.2 k hk).2
  have hI : ∀ c, c < ic → LOK F (im c) := fun c hc => (h.2.2.2.2.2.2.1.2.2 c hc).2
  refine g_aload_1 dL_law_1119 ?_
  refine g_aload_0 dL_law_1120 ?_
  refine g_iload_4 dL_law_1121 ?_
  refine g_iconst (v := nI 1) dL_law_1123 (by decide) ?_
  refine g_iadd dL_law_1124 ?_
  rw [nI_add]
  refine g_sld dL_law_1125 (by omega) hLs ?_
  refine g_aload_0 dL_law_1126 ?_
  refine g_iload_4 dL_law_1127 ?_
  refine g_iconst (v := nI 2) dL_law_1129 (by decide) ?_
  refine g_iadd dL_law_1130 ?_
  rw [nI_add]
  refine g_sld dL_law_1131 (by omega) hLs ?_
  refine g_aload_0 dL_law_1132 ?_
  refine g_iload_4 dL_law_1133 ?_
  refine g_iconst (v := nI 3) dL_law_1135 (by decide) ?_
  refine g_iadd dL_law_1136 ?_
  rw [nI_add]
  refine g_sld dL_law_1137 (by omega) hLs ?_
  refine g_aload_0 dL_law_1138 ?_
  refine g_iload_4 dL_law_1139 ?_
  refine g_iconst (v := nI 4) dL_law_1141 (by decide) ?_
  refine g_iadd dL_law_1142 ?_
  rw [nI_add]
  refine g_sld dL_law_1143 (by omega) hLs ?_
  refine g_if_eq (tgt := 1151) dL_law_1144 (by decide) (fun hc1144 => ?_) (fun hc1144 => ?_)
  · have hcB := hc1144
    refine g_iconst (v := nI 0) dL_law_1151 (by decide) ?_
    refine g_callV_4 dL_law_1152 ml_L_132 mv_X11_lover (by first | assumption | rfl | exact led_1 (by assumption) | exact led_2 (by assumption) | exact bk_m (by assumption) (by first | assumption | omega) | exact bk_p (by assumption) (by first | assumption | omega) | exact bk_o (by assumption) (by first | assumption | omega) | exact bk_s (by assumption) (by first | assumption | omega) | exact bk_1 (by assumption) | exact bk_2 (by assumption) | exact bk_3 (by assumption) | exact bk_4 (by assumption) | exact bk_5 (by assumption) | exact bk_6 (by assumption) | exact bk_7 (by assumption) | exact bk_8 (by assumption) | exact sh_ring _ (by first | assumption | omega) | exact sh_imgs _ (by first | assumption | omega)) (by first | decide | (show _ < 172; omega)) (by decide) rfl (by decide) (by decide) (by show _ ≤ 601024; omega) (by show _ ≤ 7293034; omega) (Nat.le_of_ble_eq_true rfl) (fun h => h) (c_X11_lover (sec := false) h (fun I1 L1 R1 B1 B3 t1 h1 hh => ?_))
    refine g_aload_2 dL_law_1155 ?_
    refine g_aload_0 dL_law_1156 ?_
    refine g_iload_4 dL_law_1157 ?_
    refine g_iconst (v := nI 1) dL_law_1159 (by decide) ?_
    refine g_iadd dL_law_1160 ?_
    rw [nI_add]
    refine g_sld dL_law_1161 (by omega) hLs ?_
    refine g_aload_0 dL_law_1162 ?_
    refine g_iload_4 dL_law_1163 ?_
    refine g_iconst (v := nI 2) dL_law_1165 (by decide) ?_
    refine g_iadd dL_law_1166 ?_
    rw [nI_add]
    refine g_sld dL_law_1167 (by omega) hLs ?_
    refine g_aload_0 dL_law_1168 ?_
    refine g_iload_4 dL_law_1169 ?_
    refine g_iconst (v := nI 3) dL_law_1171 (by decide) ?_
    refine g_iadd dL_law_1172 ?_
    rw [nI_add]
    refine g_sld dL_law_1173 (by omega) hLs ?_
    refine g_aload_0 dL_law_1174 ?_
    refine g_iload_4 dL_law_1175 ?_
    refine g_iconst (v := nI 4) dL_law_1177 (by decide) ?_
    refine g_iadd dL_law_1178 ?_
    rw [nI_add]
    refine g_sld dL_law_1179 (by omega) hLs ?_
    refine g_if_eq (tgt := 1187) dL_law_1180 (by decide) (fun hc1180 => ?_) (fun hc1180 => ?_)
    · skip
      refine g_iconst (v := nI 0) dL_law_1187 (by decide) ?_
      refine g_callV_4 dL_law_1188 ml_L_135 mv_X12_lover (by first | assumption | rfl | exact led_1 (by assumption) | exact led_2 (by assumption) | exact bk_m (by assumption) (by first | assumption | omega) | exact bk_p (by assumption) (by first | assumption | omega) | exact bk_o (by assumption) (by first | assumption | omega) | exact bk_s (by assumption) (by first | assumption | omega) | exact bk_1 (by assumption) | exact bk_2 (by assumption) | exact bk_3 (by assumption) | exact bk_4 (by assumption) | exact bk_5 (by assumption) | exact bk_6 (by assumption) | exact bk_7 (by assumption) | exact bk_8 (by assumption) | exact sh_ring _ (by first | assumption | omega) | exact sh_imgs _ (by first | assumption | omega)) (by first | decide | (show _ < 172; omega)) (by decide) rfl (by decide) (by decide) (by show _ ≤ 601024; omega) (by show _ ≤ 7293034; omega) (Nat.le_of_ble_eq_true rfl) (fun h => h) (r_lover (sec := false) h1.1 (hr.hi hh) (fun J2 M2 h2 f2 l2 => ?_))
      refine g_icmp_eq (tgt := 1689) dL_law_1191 (by decide) (fun hc1191 => ?_) (fun hc1191 => ?_)
      · skip
        exact VG.widen (by omega) (by omega) (nxt _ _ _ _ _ ⟨B1, B3, t1, _, _, _, _, _, _, _, _, _, _, _, h1.lo f2 (fun x a _ => l2 x a), h2⟩)
      · exact absurd rfl hc1191
    · exact absurd hcB hc1180
  · have hcB := hc1144
    refine g_iconst (v := nI 1) dL_law_1147 (by decide) ?_
    refine g_goto (tgt := 1152) dL_law_1148 (by decide) ?_
    refine g_callV_4 dL_law_1152 ml_L_132 mv_X11_lover (by first | assumption | rfl | exact led_1 (by assumption) | exact led_2 (by assumption) | exact bk_m (by assumption) (by first | assumption | omega) | exact bk_p (by assumption) (by first | assumption | omega) | exact bk_o (by assumption) (by first | assumption | omega) | exact bk_s (by assumption) (by first | assumption | omega) | exact bk_1 (by assumption) | exact bk_2 (by assumption) | exact bk_3 (by assumption) | exact bk_4 (by assumption) | exact bk_5 (by assumption) | exact bk_6 (by assumption) | exact bk_7 (by assumption) | exact bk_8 (by assumption) | exact sh_ring _ (by first | assumption | omega) | exact sh_imgs _ (by first | assumption | omega)) (by first | decide | (show _ < 172; omega)) (by decide) rfl (by decide) (by decide) (by show _ ≤ 601024; omega) (by show _ ≤ 7293034; omega) (Nat.le_of_ble_eq_true rfl) (fun h => h) (c_X11_lover (sec := true) h (fun I1 L1 R1 B1 B3 t1 h1 hh => ?_))
    refine g_aload_2 dL_law_1155 ?_
    refine g_aload_0 dL_law_1156 ?_
    refine g_iload_4 dL_law_1157 ?_
    refine g_iconst (v := nI 1) dL_law_1159 (by decide) ?_
    refine g_iadd dL_law_1160 ?_
    rw [nI_add]
    refine g_sld dL_law_1161 (by omega) hLs ?_
    refine g_aload_0 dL_law_1162 ?_
    refine g_iload_4 dL_law_1163 ?_
    refine g_iconst (v := nI 2) dL_law_1165 (by decide) ?_
    refine g_iadd dL_law_1166 ?_
    rw [nI_add]
    refine g_sld dL_law_1167 (by omega) hLs ?_
    refine g_aload_0 dL_law_1168 ?_
    refine g_iload_4 dL_law_1169 ?_
    refine g_iconst (v := nI 3) dL_law_1171 (by decide) ?_
    refine g_iadd dL_law_1172 ?_
    rw [nI_add]
    refine g_sld dL_law_1173 (by omega) hLs ?_
    refine g_aload_0 dL_law_1174 ?_
    refine g_iload_4 dL_law_1175 ?_
    refine g_iconst (v := nI 4) dL_law_1177 (by decide) ?_
    refine g_iadd dL_law_1178 ?_
    rw [nI_add]
    refine g_sld dL_law_1179 (by omega) hLs ?_
    refine g_if_eq (tgt := 1187) dL_law_1180 (by decide) (fun hc1180 => ?_) (fun hc1180 => ?_)
    · exact absurd hc1180 hcB
    · skip
      refine g_iconst (v := nI 1) dL_law_1183 (by decide) ?_
      refine g_goto (tgt := 1188) dL_law_1184 (by decide) ?_
      refine g_callV_4 dL_law_1188 ml_L_135 mv_X12_lover (by first | assumption | rfl | exact led_1 (by assumption) | exact led_2 (by assumption) | exact bk_m (by assumption) (by first | assumption | omega) | exact bk_p (by assumption) (by first | assumption | omega) | exact bk_o (by assumption) (by first | assumption | omega) | exact bk_s (by assumption) (by first | assumption | omega) | exact bk_1 (by assumption) | exact bk_2 (by assumption) | exact bk_3 (by assumption) | exact bk_4 (by assumption) | exact bk_5 (by assumption) | exact bk_6 (by assumption) | exact bk_7 (by assumption) | exact bk_8 (by assumption) | exact sh_ring _ (by first | assumption | omega) | exact sh_imgs _ (by first | assumption | omega)) (by first | decide | (show _ < 172; omega)) (by decide) rfl (by decide) (by decide) (by show _ ≤ 601024; omega) (by show _ ≤ 7293034; omega) (Nat.le_of_ble_eq_true rfl) (fun h => h) (r_lover (sec := true) h1.1 (hr.hi hh) (fun J2 M2 h2 f2 l2 => ?_))
      refine g_icmp_eq (tgt := 1689) dL_law_1191 (by decide) (fun hc1191 => ?_) (fun hc1191 => ?_)
      · skip
        exact VG.widen (by omega) (by omega) (nxt _ _ _ _ _ ⟨B1, B3, t1, _, _, _, _, _, _, _, _, _, _, _, h1.lo f2 (fun x a _ => l2 x a), h2⟩)
      · exact absurd rfl hc1191
theorem lw_lend (hLs : Ls ≤ 3072) (hn : 6 * n + 6 ≤ Ls) (h : ClsB I L R B B2 t tp nt tr fa pl F S u r im ic) (hr : RefB I tp nt tr fa pl F S u r im ic) (nxt : ∀ (I' : HI) (L' : HL) (R' : HR) (y5 y6 : Option Value), LJ I' L' R' → VG yL_law cL_law 7 (some .boolean) room_1 (PW sb Ls b xs) b ad false (172 + (n + 1)) (7753 + 6 * (n + 1)) 1689 [some (.ref sb), some (.ref (b + 0)), some (.ref (b + 157)), some (.ref (b + 171)), some (.int (nI (6 * n))), y5, y6] [] NN SH I' L' R') : VG yL_law cL_law 7 (some .boolean) room_1 (PW sb Ls b xs) b ad false (172 + n) (7753 + 6 * n) 1196 [some (.ref sb), some (.ref (b + 0)), some (.ref (b + 157)), some (.ref (b + 171)), some (.int (nI (6 * n))), x5, x6] [] NN SH I L R := by
  have hl : ∀ k, live u r k → LOK F (S k) := fun k hk => (h.2.2.2.2.2.1.2.2.2.2.2 k hk).2
  have hI : ∀ c, c < ic → LOK F (im c) := fun c hc => (h.2.2.2.2.2.2.1.2.2 c hc).2
  refine g_aload_1 dL_law_1196 ?_
  refine g_aload_0 dL_law_1197 ?_
  refine g_iload_4 dL_law_1198 ?_
  refine g_iconst (v := nI 1) dL_law_1200 (by decide) ?_
  refine g_iadd dL_law_1201 ?_
  rw [nI_add]
  refine g_sld dL_law_1202 (by omega) hLs ?_
  refine g_aload_0 dL_law_1203 ?_
  refine g_iload_4 dL_law_1204 ?_
  refine g_iconst (v := nI 2) dL_law_1206 (by decide) ?_
  refine g_iadd dL_law_1207 ?_
  rw [nI_add]
  refine g_sld dL_law_1208 (by omega) hLs ?_
  refine g_aload_0 dL_law_1209 ?_
  refine g_iload_4 dL_law_1210 ?_
  refine g_iconst (v := nI 3) dL_law_1212 (by decide) ?_
  refine g_iadd dL_law_1213 ?_
  rw [nI_add]
  refine g_sld dL_law_1214 (by omega) hLs ?_
  refine g_aload_0 dL_law_1215 ?_
  refine g_iload_4 dL_law_1216 ?_
  refine g_iconst (v := nI 4) dL_law_1218 (by decide) ?_
  refine g_iadd dL_law_1219 ?_
  rw [nI_add]
  refine g_sld dL_law_1220 (by omega) hLs ?_
  refine g_callV_4 dL_law_1221 ml_L_136 mv_X11_lend (by first | assumption | rfl | exact led_1 (by assumption) | exact led_2 (by assumption) | exact bk_m (by assumption) (by first | assumption | omega) | exact bk_p (by assumption) (by first | assumption | omega) | exact bk_o (by assumption) (by first | assumption | omega) | exact bk_s (by assumption) (by first | assumption | omega) | exact bk_1 (by assumption) | exact bk_2 (by assumption) | exact bk_3 (by assumption) | exact bk_4 (by assumption) | exact bk_5 (by assumption) | exact bk_6 (by assumption) | exact bk_7 (by assumption) | exact bk_8 (by assumption) | exact sh_ring _ (by first | assumption | omega) | exact sh_imgs _ (by first | assumption | omega)) (by first | decide | (show _ < 172; omega)) (by decide) rfl (by decide) (by decide) (by show _ ≤ 601024; omega) (by show _ ≤ 7293034; omega) (Nat.le_of_ble_eq_true rfl) (fun h => h) (c_X11_lend h (fun c1 I1 L1 R1 B1 B3 t1 h1 hh => ?_) (fun c1 I1 L1 R1 B1 B3 t1 h1 hh => ?_))
  · refine g_aload_2 dL_law_1224 ?_
    refine g_aload_0 dL_law_1225 ?_
    refine g_iload_4 dL_law_1226 ?_
    refine g_iconst (v := nI 1) dL_law_1228 (by decide) ?_
    refine g_iadd dL_law_1229 ?_
    rw [nI_add]
    refine g_sld dL_law_1230 (by omega) hLs ?_
    refine g_aload_0 dL_law_1231 ?_
    refine g_iload_4 dL_law_1232 ?_
    refine g_iconst (v := nI 2) dL_law_1234 (by decide) ?_
    refine g_iadd dL_law_1235 ?_
    rw [nI_add]
    refine g_sld dL_law_1236 (by omega) hLs ?_
    refine g_aload_0 dL_law_1237 ?_
    refine g_iload_4 dL_law_1238 ?_
    refine g_iconst (v := nI 3) dL_law_1240 (by decide) ?_
    refine g_iadd dL_law_1241 ?_
    rw [nI_add]
    refine g_sld dL_law_1242 (by omega) hLs ?_
    refine g_aload_0 dL_law_1243 ?_
    refine g_iload_4 dL_law_1244 ?_
    refine g_iconst (v := nI 4) dL_law_1246 (by decide) ?_
    refine g_iadd dL_law_1247 ?_
    rw [nI_add]
    refine g_sld dL_law_1248 (by omega) hLs ?_
    refine g_callV_4 dL_law_1249 ml_L_140 mv_X12_lend (by first | assumption | rfl | exact led_1 (by assumption) | exact led_2 (by assumption) | exact bk_m (by assumption) (by first | assumption | omega) | exact bk_p (by assumption) (by first | assumption | omega) | exact bk_o (by assumption) (by first | assumption | omega) | exact bk_s (by assumption) (by first | assumption | omega) | exact bk_1 (by assumption) | exact bk_2 (by assumption) | exact bk_3 (by assumption) | exact bk_4 (by assumption) | exact bk_5 (by assumption) | exact bk_6 (by assumption) | exact bk_7 (by assumption) | exact bk_8 (by assumption) | exact sh_ring _ (by first | assumption | omega) | exact sh_imgs _ (by first | assumption | omega)) (by first | decide | (show _ < 172; omega)) (by decide) rfl (by decide) (by decide) (by show _ ≤ 601024; omega) (by show _ ≤ 7293034; omega) (Nat.le_of_ble_eq_true rfl) (fun h => h) (r_lend h1.1 (hr.hi hh) hl (fun _ J2 M2 h2 f2 l2 => ?_) (fun c2 => absurd c2 c1))
    refine g_icmp_eq (tgt := 1689) dL_law_1252 (by decide) (fun hc1252 => ?_) (fun hc1252 => ?_)
    · skip
      exact VG.widen (by omega) (by omega) (nxt _ _ _ _ _ ⟨B1, B3, t1, _, _, _, _, _, _, _, _, _, _, _, h1.lo f2 (fun x a _ => l2 x a), h2⟩)
    · exact absurd rfl hc1252
  · refine g_aload_2 dL_law_1224 ?_
    refine g_aload_0 dL_law_1225 ?_
    refine g_iload_4 dL_law_1226 ?_
    refine g_iconst (v := nI 1) dL_law_1228 (by decide) ?_
    refine g_iadd dL_law_1229 ?_
    rw [nI_add]
    refine g_sld dL_law_1230 (by omega) hLs ?_
    refine g_aload_0 dL_law_1231 ?_
    refine g_iload_4 dL_law_1232 ?_
    refine g_iconst (v := nI 2) dL_law_1234 (by decide) ?_
    refine g_iadd dL_law_1235 ?_
    rw [nI_add]
    refine g_sld dL_law_1236 (by omega) hLs ?_
    refine g_aload_0 dL_law_1237 ?_
    refine g_iload_4 dL_law_1238 ?_
    refine g_iconst (v := nI 3) dL_law_1240 (by decide) ?_
    refine g_iadd dL_law_1241 ?_
    rw [nI_add]
    refine g_sld dL_law_1242 (by omega) hLs ?_
    refine g_aload_0 dL_law_1243 ?_
    refine g_iload_4 dL_law_1244 ?_
    refine g_iconst (v := nI 4) dL_law_1246 (by decide) ?_
    refine g_iadd dL_law_1247 ?_
    rw [nI_add]
    refine g_sld dL_law_1248 (by omega) hLs ?_
    refine g_callV_4 dL_law_1249 ml_L_140 mv_X12_lend (by first | assumption | rfl | exact led_1 (by assumption) | exact led_2 (by assumption) | exact bk_m (by assumption) (by first | assumption | omega) | exact bk_p (by assumption) (by first | assumption | omega) | exact bk_o (by assumption) (by first | assumption | omega) | exact bk_s (by assumption) (by first | assumption | omega) | exact bk_1 (by assumption) | exact bk_2 (by assumption) | exact bk_3 (by assumption) | exact bk_4 (by assumption) | exact bk_5 (by assumption) | exact bk_6 (by assumption) | exact bk_7 (by assumption) | exact bk_8 (by assumption) | exact sh_ring _ (by first | assumption | omega) | exact sh_imgs _ (by first | assumption | omega)) (by first | decide | (show _ < 172; omega)) (by decide) rfl (by decide) (by decide) (by show _ ≤ 601024; omega) (by show _ ≤ 7293034; omega) (Nat.le_of_ble_eq_true rfl) (fun h => h) (r_lend h1.1 (hr.hi hh) hl (fun c2 => absurd c1 c2) (fun _ J2 M2 h2 f2 l2 => ?_))
    refine g_icmp_eq (tgt := 1689) dL_law_1252 (by decide) (fun hc1252 => ?_) (fun hc1252 => ?_)
    · skip
      exact VG.widen (by omega) (by omega) (nxt _ _ _ _ _ ⟨B1, B3, t1, _, _, _, _, _, _, _, _, _, _, _, h1.lo f2 (fun x a _ => l2 x a), h2⟩)
    · exact absurd rfl hc1252
theorem lw_give (hLs : Ls ≤ 3072) (hn : 6 * n + 6 ≤ Ls) (h : ClsB I L R B B2 t tp nt tr fa pl F S u r im ic) (hr : RefB I tp nt tr fa pl F S u r im ic) (nxt : ∀ (I' : HI) (L' : HL) (R' : HR) (y5 y6 : Option Value), LJ I' L' R' → VG yL_law cL_law 7 (some .boolean) room_1 (PW sb Ls b xs) b ad false (172 + (n + 1)) (7753 + 6 * (n + 1)) 1689 [some (.ref sb), some (.ref (b + 0)), some (.ref (b + 157)), some (.ref (b + 171)), some (.int (nI (6 * n))), y5, y6] [] NN SH I' L' R') : VG yL_law cL_law 7 (some .boolean) room_1 (PW sb Ls b xs) b ad false (172 + n) (7753 + 6 * n) 1257 [some (.ref sb), some (.ref (b + 0)), some (.ref (b + 157)), some (.ref (b + 171)), some (.int (nI (6 * n))), x5, x6] [] NN SH I L R := by
  have hl : ∀ k, live u r k → LOK F (S k) := fun k hk => (h.2.2.2.2.2.1.2.2.2.2.2 k hk).2
  have hI : ∀ c, c < ic → LOK F (im c) := fun c hc => (h.2.2.2.2.2.2.1.2.2 c hc).2
  refine g_aload_1 dL_law_1257 ?_
  refine g_aload_0 dL_law_1258 ?_
  refine g_iload_4 dL_law_1259 ?_
  refine g_iconst (v := nI 1) dL_law_1261 (by decide) ?_
  refine g_iadd dL_law_1262 ?_
  rw [nI_add]
  refine g_sld dL_law_1263 (by omega) hLs ?_
  refine g_aload_0 dL_law_1264 ?_
  refine g_iload_4 dL_law_1265 ?_
  refine g_iconst (v := nI 2) dL_law_1267 (by decide) ?_
  refine g_iadd dL_law_1268 ?_
  rw [nI_add]
  refine g_sld dL_law_1269 (by omega) hLs ?_
  refine g_callV_2 dL_law_1270 ml_L_141 mv_X11_give (by first | assumption | rfl | exact led_1 (by assumption) | exact led_2 (by assumption) | exact bk_m (by assumption) (by first | assumption | omega) | exact bk_p (by assumption) (by first | assumption | omega) | exact bk_o (by assumption) (by first | assumption | omega) | exact bk_s (by assumption) (by first | assumption | omega) | exact bk_1 (by assumption) | exact bk_2 (by assumption) | exact bk_3 (by assumption) | exact bk_4 (by assumption) | exact bk_5 (by assumption) | exact bk_6 (by assumption) | exact bk_7 (by assumption) | exact bk_8 (by assumption) | exact sh_ring _ (by first | assumption | omega) | exact sh_imgs _ (by first | assumption | omega)) (by first | decide | (show _ < 172; omega)) (by decide) rfl (by decide) (by decide) (by show _ ≤ 601024; omega) (by show _ ≤ 7293034; omega) (Nat.le_of_ble_eq_true rfl) (fun h => h) (c_X11_give h (fun c1 I1 L1 R1 B1 B3 t1 h1 hh => ?_) (fun c1 I1 L1 R1 B1 B3 t1 h1 hh => ?_))
  · refine g_aload_2 dL_law_1273 ?_
    refine g_aload_0 dL_law_1274 ?_
    refine g_iload_4 dL_law_1275 ?_
    refine g_iconst (v := nI 1) dL_law_1277 (by decide) ?_
    refine g_iadd dL_law_1278 ?_
    rw [nI_add]
    refine g_sld dL_law_1279 (by omega) hLs ?_
    refine g_aload_0 dL_law_1280 ?_
    refine g_iload_4 dL_law_1281 ?_
    refine g_iconst (v := nI 2) dL_law_1283 (by decide) ?_
    refine g_iadd dL_law_1284 ?_
    rw [nI_add]
    refine g_sld dL_law_1285 (by omega) hLs ?_
    refine g_callV_2 dL_law_1286 ml_L_145 mv_X12_give (by first | assumption | rfl | exact led_1 (by assumption) | exact led_2 (by assumption) | exact bk_m (by assumption) (by first | assumption | omega) | exact bk_p (by assumption) (by first | assumption | omega) | exact bk_o (by assumption) (by first | assumption | omega) | exact bk_s (by assumption) (by first | assumption | omega) | exact bk_1 (by assumption) | exact bk_2 (by assumption) | exact bk_3 (by assumption) | exact bk_4 (by assumption) | exact bk_5 (by assumption) | exact bk_6 (by assumption) | exact bk_7 (by assumption) | exact bk_8 (by assumption) | exact sh_ring _ (by first | assumption | omega) | exact sh_imgs _ (by first | assumption | omega)) (by first | decide | (show _ < 172; omega)) (by decide) rfl (by decide) (by decide) (by show _ ≤ 601024; omega) (by show _ ≤ 7293034; omega) (Nat.le_of_ble_eq_true rfl) (fun h => h) (r_give h1.1 (hr.hi hh) hl (fun _ J2 M2 h2 f2 l2 => ?_) (fun c2 => absurd c2 c1))
    refine g_icmp_eq (tgt := 1689) dL_law_1289 (by decide) (fun hc1289 => ?_) (fun hc1289 => ?_)
    · skip
      exact VG.widen (by omega) (by omega) (nxt _ _ _ _ _ ⟨B1, B3, t1, _, _, _, _, _, _, _, _, _, _, _, h1.lo f2 (fun x a _ => l2 x a), h2⟩)
    · exact absurd rfl hc1289
  · refine g_aload_2 dL_law_1273 ?_
    refine g_aload_0 dL_law_1274 ?_
    refine g_iload_4 dL_law_1275 ?_
    refine g_iconst (v := nI 1) dL_law_1277 (by decide) ?_
    refine g_iadd dL_law_1278 ?_
    rw [nI_add]
    refine g_sld dL_law_1279 (by omega) hLs ?_
    refine g_aload_0 dL_law_1280 ?_
    refine g_iload_4 dL_law_1281 ?_
    refine g_iconst (v := nI 2) dL_law_1283 (by decide) ?_
    refine g_iadd dL_law_1284 ?_
    rw [nI_add]
    refine g_sld dL_law_1285 (by omega) hLs ?_
    refine g_callV_2 dL_law_1286 ml_L_145 mv_X12_give (by first | assumption | rfl | exact led_1 (by assumption) | exact led_2 (by assumption) | exact bk_m (by assumption) (by first | assumption | omega) | exact bk_p (by assumption) (by first | assumption | omega) | exact bk_o (by assumption) (by first | assumption | omega) | exact bk_s (by assumption) (by first | assumption | omega) | exact bk_1 (by assumption) | exact bk_2 (by assumption) | exact bk_3 (by assumption) | exact bk_4 (by assumption) | exact bk_5 (by assumption) | exact bk_6 (by assumption) | exact bk_7 (by assumption) | exact bk_8 (by assumption) | exact sh_ring _ (by first | assumption | omega) | exact sh_imgs _ (by first | assumption | omega)) (by first | decide | (show _ < 172; omega)) (by decide) rfl (by decide) (by decide) (by show _ ≤ 601024; omega) (by show _ ≤ 7293034; omega) (Nat.le_of_ble_eq_true rfl) (fun h => h) (r_give h1.1 (hr.hi hh) hl (fun c2 => absurd c1 c2) (fun _ J2 M2 h2 f2 l2 => ?_))
    refine g_icmp_eq (tgt := 1689) dL_law_1289 (by decide) (fun hc1289 => ?_) (fun hc1289 => ?_)
    · skip
      exact VG.widen (by omega) (by omega) (nxt _ _ _ _ _ ⟨B1, B3, t1, _, _, _, _, _, _, _, _, _, _, _, h1.lo f2 (fun x a _ => l2 x a), h2⟩)
    · exact absurd rfl hc1289
theorem lw_pass (hLs : Ls ≤ 3072) (hn : 6 * n + 6 ≤ Ls) (h : ClsB I L R B B2 t tp nt tr fa pl F S u r im ic) (hr : RefB I tp nt tr fa pl F S u r im ic) (nxt : ∀ (I' : HI) (L' : HL) (R' : HR) (y5 y6 : Option Value), LJ I' L' R' → VG yL_law cL_law 7 (some .boolean) room_1 (PW sb Ls b xs) b ad false (172 + (n + 1)) (7753 + 6 * (n + 1)) 1689 [some (.ref sb), some (.ref (b + 0)), some (.ref (b + 157)), some (.ref (b + 171)), some (.int (nI (6 * n))), y5, y6] [] NN SH I' L' R') : VG yL_law cL_law 7 (some .boolean) room_1 (PW sb Ls b xs) b ad false (172 + n) (7753 + 6 * n) 1294 [some (.ref sb), some (.ref (b + 0)), some (.ref (b + 157)), some (.ref (b + 171)), some (.int (nI (6 * n))), x5, x6] [] NN SH I L R := by
  have hl : ∀ k, live u r k → LOK F (S k) := fun k hk => (h.2.2.2.2.2.1.2.2.2.2.2 k hk).2
  have hI : ∀ c, c < ic → LOK F (im c) := fun c hc => (h.2.2.2.2.2.2.1.2.2 c hc).2
  refine g_aload_1 dL_law_1294 ?_
  refine g_aload_0 dL_law_1295 ?_
  refine g_iload_4 dL_law_1296 ?_
  refine g_iconst (v := nI 1) dL_law_1298 (by decide) ?_
  refine g_iadd dL_law_1299 ?_
  rw [nI_add]
  refine g_sld dL_law_1300 (by omega) hLs ?_
  refine g_aload_0 dL_law_1301 ?_
  refine g_iload_4 dL_law_1302 ?_
  refine g_iconst (v := nI 2) dL_law_1304 (by decide) ?_
  refine g_iadd dL_law_1305 ?_
  rw [nI_add]
  refine g_sld dL_law_1306 (by omega) hLs ?_
  refine g_aload_0 dL_law_1307 ?_
  refine g_iload_4 dL_law_1308 ?_
  refine g_iconst (v := nI 3) dL_law_1310 (by decide) ?_
  refine g_iadd dL_law_1311 ?_
  rw [nI_add]
  refine g_sld dL_law_1312 (by omega) hLs ?_
  refine g_callV_3 dL_law_1313 ml_L_146 mv_X11_pass (by first | assumption | rfl | exact led_1 (by assumption) | exact led_2 (by assumption) | exact bk_m (by assumption) (by first | assumption | omega) | exact bk_p (by assumption) (by first | assumption | omega) | exact bk_o (by assumption) (by first | assumption | omega) | exact bk_s (by assumption) (by first | assumption | omega) | exact bk_1 (by assumption) | exact bk_2 (by assumption) | exact bk_3 (by assumption) | exact bk_4 (by assumption) | exact bk_5 (by assumption) | exact bk_6 (by assumption) | exact bk_7 (by assumption) | exact bk_8 (by assumption) | exact sh_ring _ (by first | assumption | omega) | exact sh_imgs _ (by first | assumption | omega)) (by first | decide | (show _ < 172; omega)) (by decide) rfl (by decide) (by decide) (by show _ ≤ 601024; omega) (by show _ ≤ 7293034; omega) (Nat.le_of_ble_eq_true rfl) (fun h => h) (c_X11_pass h (fun c1 I1 L1 R1 B1 B3 t1 h1 hh => ?_) (fun c1 I1 L1 R1 B1 B3 t1 h1 hh => ?_))
  · refine g_aload_2 dL_law_1316 ?_
    refine g_aload_0 dL_law_1317 ?_
    refine g_iload_4 dL_law_1318 ?_
    refine g_iconst (v := nI 1) dL_law_1320 (by decide) ?_
    refine g_iadd dL_law_1321 ?_
    rw [nI_add]
    refine g_sld dL_law_1322 (by omega) hLs ?_
    refine g_aload_0 dL_law_1323 ?_
    refine g_iload_4 dL_law_1324 ?_
    refine g_iconst (v := nI 2) dL_law_1326 (by decide) ?_
    refine g_iadd dL_law_1327 ?_
    rw [nI_add]
    refine g_sld dL_law_1328 (by omega) hLs ?_
    refine g_aload_0 dL_law_1329 ?_
    refine g_iload_4 dL_law_1330 ?_
    refine g_iconst (v := nI 3) dL_law_1332 (by decide) ?_
    refine g_iadd dL_law_1333 ?_
    rw [nI_add]
    refine g_sld dL_law_1334 (by omega) hLs ?_
    refine g_callV_3 dL_law_1335 ml_L_150 mv_X12_pass (by first | assumption | rfl | exact led_1 (by assumption) | exact led_2 (by assumption) | exact bk_m (by assumption) (by first | assumption | omega) | exact bk_p (by assumption) (by first | assumption | omega) | exact bk_o (by assumption) (by first | assumption | omega) | exact bk_s (by assumption) (by first | assumption | omega) | exact bk_1 (by assumption) | exact bk_2 (by assumption) | exact bk_3 (by assumption) | exact bk_4 (by assumption) | exact bk_5 (by assumption) | exact bk_6 (by assumption) | exact bk_7 (by assumption) | exact bk_8 (by assumption) | exact sh_ring _ (by first | assumption | omega) | exact sh_imgs _ (by first | assumption | omega)) (by first | decide | (show _ < 172; omega)) (by decide) rfl (by decide) (by decide) (by show _ ≤ 601024; omega) (by show _ ≤ 7293034; omega) (Nat.le_of_ble_eq_true rfl) (fun h => h) (r_pass h1.1 (hr.hi hh) hl (fun _ J2 M2 h2 f2 l2 => ?_) (fun c2 => absurd c2 c1))
    refine g_icmp_eq (tgt := 1689) dL_law_1338 (by decide) (fun hc1338 => ?_) (fun hc1338 => ?_)
    · skip
      exact VG.widen (by omega) (by omega) (nxt _ _ _ _ _ ⟨B1, B3, t1, _, _, _, _, _, _, _, _, _, _, _, h1.lo f2 (fun x a _ => l2 x a), h2⟩)
    · exact absurd rfl hc1338
  · refine g_aload_2 dL_law_1316 ?_
    refine g_aload_0 dL_law_1317 ?_
    refine g_iload_4 dL_law_1318 ?_
    refine g_iconst (v := nI 1) dL_law_1320 (by decide) ?_
    refine g_iadd dL_law_1321 ?_
    rw [nI_add]
    refine g_sld dL_law_1322 (by omega) hLs ?_
    refine g_aload_0 dL_law_1323 ?_
    refine g_iload_4 dL_law_1324 ?_
    refine g_iconst (v := nI 2) dL_law_1326 (by decide) ?_
    refine g_iadd dL_law_1327 ?_
    rw [nI_add]
    refine g_sld dL_law_1328 (by omega) hLs ?_
    refine g_aload_0 dL_law_1329 ?_
    refine g_iload_4 dL_law_1330 ?_
    refine g_iconst (v := nI 3) dL_law_1332 (by decide) ?_
    refine g_iadd dL_law_1333 ?_
    rw [nI_add]
    refine g_sld dL_law_1334 (by omega) hLs ?_
    refine g_callV_3 dL_law_1335 ml_L_150 mv_X12_pass (by first | assumption | rfl | exact led_1 (by assumption) | exact led_2 (by assumption) | exact bk_m (by assumption) (by first | assumption | omega) | exact bk_p (by assumption) (by first | assumption | omega) | exact bk_o (by assumption) (by first | assumption | omega) | exact bk_s (by assumption) (by first | assumption | omega) | exact bk_1 (by assumption) | exact bk_2 (by assumption) | exact bk_3 (by assumption) | exact bk_4 (by assumption) | exact bk_5 (by assumption) | exact bk_6 (by assumption) | exact bk_7 (by assumption) | exact bk_8 (by assumption) | exact sh_ring _ (by first | assumption | omega) | exact sh_imgs _ (by first | assumption | omega)) (by first | decide | (show _ < 172; omega)) (by decide) rfl (by decide) (by decide) (by show _ ≤ 601024; omega) (by show _ ≤ 7293034; omega) (Nat.le_of_ble_eq_true rfl) (fun h => h) (r_pass h1.1 (hr.hi hh) hl (fun c2 => absurd c1 c2) (fun _ J2 M2 h2 f2 l2 => ?_))
    refine g_icmp_eq (tgt := 1689) dL_law_1338 (by decide) (fun hc1338 => ?_) (fun hc1338 => ?_)
    · skip
      exact VG.widen (by omega) (by omega) (nxt _ _ _ _ _ ⟨B1, B3, t1, _, _, _, _, _, _, _, _, _, _, _, h1.lo f2 (fun x a _ => l2 x a), h2⟩)
    · exact absurd rfl hc1338
theorem lw_breaking (hLs : Ls ≤ 3072) (hn : 6 * n + 6 ≤ Ls) (h : ClsB I L R B B2 t tp nt tr fa pl F S u r im ic) (hr : RefB I tp nt tr fa pl F S u r im ic) (nxt : ∀ (I' : HI) (L' : HL) (R' : HR) (y5 y6 : Option Value), LJ I' L' R' → VG yL_law cL_law 7 (some .boolean) room_1 (PW sb Ls b xs) b ad false (172 + (n + 1)) (7753 + 6 * (n + 1)) 1689 [some (.ref sb), some (.ref (b + 0)), some (.ref (b + 157)), some (.ref (b + 171)), some (.int (nI (6 * n))), y5, y6] [] NN SH I' L' R') : VG yL_law cL_law 7 (some .boolean) room_1 (PW sb Ls b xs) b ad false (172 + n) (7753 + 6 * n) 1343 [some (.ref sb), some (.ref (b + 0)), some (.ref (b + 157)), some (.ref (b + 171)), some (.int (nI (6 * n))), x5, x6] [] NN SH I L R := by
  have hl : ∀ k, live u r k → LOK F (S k) := fun k hk => (h.2.2.2.2.2.1.2.2.2.2.2 k hk).2
  have hI : ∀ c, c < ic → LOK F (im c) := fun c hc => (h.2.2.2.2.2.2.1.2.2 c hc).2
  refine g_aload_1 dL_law_1343 ?_
  refine g_aload_0 dL_law_1344 ?_
  refine g_iload_4 dL_law_1345 ?_
  refine g_iconst (v := nI 1) dL_law_1347 (by decide) ?_
  refine g_iadd dL_law_1348 ?_
  rw [nI_add]
  refine g_sld dL_law_1349 (by omega) hLs ?_
  refine g_aload_0 dL_law_1350 ?_
  refine g_iload_4 dL_law_1351 ?_
  refine g_iconst (v := nI 2) dL_law_1353 (by decide) ?_
  refine g_iadd dL_law_1354 ?_
  rw [nI_add]
  refine g_sld dL_law_1355 (by omega) hLs ?_
  refine g_aload_0 dL_law_1356 ?_
  refine g_iload_4 dL_law_1357 ?_
  refine g_iconst (v := nI 3) dL_law_1359 (by decide) ?_
  refine g_iadd dL_law_1360 ?_
  rw [nI_add]
  refine g_sld dL_law_1361 (by omega) hLs ?_
  refine g_if_eq (tgt := 1369) dL_law_1362 (by decide) (fun hc1362 => ?_) (fun hc1362 => ?_)
  · have hcB := hc1362
    refine g_iconst (v := nI 0) dL_law_1369 (by decide) ?_
    refine g_callV_3 dL_law_1370 ml_L_151 mv_X11_breaking (by first | assumption | rfl | exact led_1 (by assumption) | exact led_2 (by assumption) | exact bk_m (by assumption) (by first | assumption | omega) | exact bk_p (by assumption) (by first | assumption | omega) | exact bk_o (by assumption) (by first | assumption | omega) | exact bk_s (by assumption) (by first | assumption | omega) | exact bk_1 (by assumption) | exact bk_2 (by assumption) | exact bk_3 (by assumption) | exact bk_4 (by assumption) | exact bk_5 (by assumption) | exact bk_6 (by assumption) | exact bk_7 (by assumption) | exact bk_8 (by assumption) | exact sh_ring _ (by first | assumption | omega) | exact sh_imgs _ (by first | assumption | omega)) (by first | decide | (show _ < 172; omega)) (by decide) rfl (by decide) (by decide) (by show _ ≤ 601024; omega) (by show _ ≤ 7293034; omega) (Nat.le_of_ble_eq_true rfl) (fun h => h) (c_X11_breaking (z := false) h (fun c1 I1 L1 R1 B1 B3 t1 h1 hh => ?_) (fun c1 I1 L1 R1 B1 B3 t1 h1 hh => ?_))
    · refine g_aload_2 dL_law_1373 ?_
      refine g_aload_0 dL_law_1374 ?_
      refine g_iload_4 dL_law_1375 ?_
      refine g_iconst (v := nI 1) dL_law_1377 (by decide) ?_
      refine g_iadd dL_law_1378 ?_
      rw [nI_add]
      refine g_sld dL_law_1379 (by omega) hLs ?_
      refine g_aload_0 dL_law_1380 ?_
      refine g_iload_4 dL_law_1381 ?_
      refine g_iconst (v := nI 2) dL_law_1383 (by decide) ?_
      refine g_iadd dL_law_1384 ?_
      rw [nI_add]
      refine g_sld dL_law_1385 (by omega) hLs ?_
      refine g_aload_0 dL_law_1386 ?_
      refine g_iload_4 dL_law_1387 ?_
      refine g_iconst (v := nI 3) dL_law_1389 (by decide) ?_
      refine g_iadd dL_law_1390 ?_
      rw [nI_add]
      refine g_sld dL_law_1391 (by omega) hLs ?_
      refine g_if_eq (tgt := 1399) dL_law_1392 (by decide) (fun hc1392 => ?_) (fun hc1392 => ?_)
      · skip
        refine g_iconst (v := nI 0) dL_law_1399 (by decide) ?_
        refine g_callV_3 dL_law_1400 ml_L_155 mv_X12_breaking (by first | assumption | rfl | exact led_1 (by assumption) | exact led_2 (by assumption) | exact bk_m (by assumption) (by first | assumption | omega) | exact bk_p (by assumption) (by first | assumption | omega) | exact bk_o (by assumption) (by first | assumption | omega) | exact bk_s (by assumption) (by first | assumption | omega) | exact bk_1 (by assumption) | exact bk_2 (by assumption) | exact bk_3 (by assumption) | exact bk_4 (by assumption) | exact bk_5 (by assumption) | exact bk_6 (by assumption) | exact bk_7 (by assumption) | exact bk_8 (by assumption) | exact sh_ring _ (by first | assumption | omega) | exact sh_imgs _ (by first | assumption | omega)) (by first | decide | (show _ < 172; omega)) (by decide) rfl (by decide) (by decide) (by show _ ≤ 601024; omega) (by show _ ≤ 7293034; omega) (Nat.le_of_ble_eq_true rfl) (fun h => h) (r_breaking (z := false) h1.1 (hr.hi hh) hl (fun _ J2 M2 h2 f2 l2 => ?_) (fun c2 => absurd c2 c1))
        refine g_icmp_eq (tgt := 1689) dL_law_1403 (by decide) (fun hc1403 => ?_) (fun hc1403 => ?_)
        · skip
          exact VG.widen (by omega) (by omega) (nxt _ _ _ _ _ ⟨B1, B3, t1, _, _, _, _, _, _, _, _, _, _, _, h1.lo f2 (fun x a _ => l2 x a), h2⟩)
        · exact absurd rfl hc1403
      · exact absurd hcB hc1392
    · refine g_aload_2 dL_law_1373 ?_
      refine g_aload_0 dL_law_1374 ?_
      refine g_iload_4 dL_law_1375 ?_
      refine g_iconst (v := nI 1) dL_law_1377 (by decide) ?_
      refine g_iadd dL_law_1378 ?_
      rw [nI_add]
      refine g_sld dL_law_1379 (by omega) hLs ?_
      refine g_aload_0 dL_law_1380 ?_
      refine g_iload_4 dL_law_1381 ?_
      refine g_iconst (v := nI 2) dL_law_1383 (by decide) ?_
      refine g_iadd dL_law_1384 ?_
      rw [nI_add]
      refine g_sld dL_law_1385 (by omega) hLs ?_
      refine g_aload_0 dL_law_1386 ?_
      refine g_iload_4 dL_law_1387 ?_
      refine g_iconst (v := nI 3) dL_law_1389 (by decide) ?_
      refine g_iadd dL_law_1390 ?_
      rw [nI_add]
      refine g_sld dL_law_1391 (by omega) hLs ?_
      refine g_if_eq (tgt := 1399) dL_law_1392 (by decide) (fun hc1392 => ?_) (fun hc1392 => ?_)
      · skip
        refine g_iconst (v := nI 0) dL_law_1399 (by decide) ?_
        refine g_callV_3 dL_law_1400 ml_L_155 mv_X12_breaking (by first | assumption | rfl | exact led_1 (by assumption) | exact led_2 (by assumption) | exact bk_m (by assumption) (by first | assumption | omega) | exact bk_p (by assumption) (by first | assumption | omega) | exact bk_o (by assumption) (by first | assumption | omega) | exact bk_s (by assumption) (by first | assumption | omega) | exact bk_1 (by assumption) | exact bk_2 (by assumption) | exact bk_3 (by assumption) | exact bk_4 (by assumption) | exact bk_5 (by assumption) | exact bk_6 (by assumption) | exact bk_7 (by assumption) | exact bk_8 (by assumption) | exact sh_ring _ (by first | assumption | omega) | exact sh_imgs _ (by first | assumption | omega)) (by first | decide | (show _ < 172; omega)) (by decide) rfl (by decide) (by decide) (by show _ ≤ 601024; omega) (by show _ ≤ 7293034; omega) (Nat.le_of_ble_eq_true rfl) (fun h => h) (r_breaking (z := false) h1.1 (hr.hi hh) hl (fun c2 => absurd c1 c2) (fun _ J2 M2 h2 f2 l2 => ?_))
        refine g_icmp_eq (tgt := 1689) dL_law_1403 (by decide) (fun hc1403 => ?_) (fun hc1403 => ?_)
        · skip
          exact VG.widen (by omega) (by omega) (nxt _ _ _ _ _ ⟨B1, B3, t1, _, _, _, _, _, _, _, _, _, _, _, h1.lo f2 (fun x a _ => l2 x a), h2⟩)
        · exact absurd rfl hc1403
      · exact absurd hcB hc1392
  · have hcB := hc1362
    refine g_iconst (v := nI 1) dL_law_1365 (by decide) ?_
    refine g_goto (tgt := 1370) dL_law_1366 (by decide) ?_
    refine g_callV_3 dL_law_1370 ml_L_151 mv_X11_breaking (by first | assumption | rfl | exact led_1 (by assumption) | exact led_2 (by assumption) | exact bk_m (by assumption) (by first | assumption | omega) | exact bk_p (by assumption) (by first | assumption | omega) | exact bk_o (by assumption) (by first | assumption | omega) | exact bk_s (by assumption) (by first | assumption | omega) | exact bk_1 (by assumption) | exact bk_2 (by assumption) | exact bk_3 (by assumption) | exact bk_4 (by assumption) | exact bk_5 (by assumption) | exact bk_6 (by assumption) | exact bk_7 (by assumption) | exact bk_8 (by assumption) | exact sh_ring _ (by first | assumption | omega) | exact sh_imgs _ (by first | assumption | omega)) (by first | decide | (show _ < 172; omega)) (by decide) rfl (by decide) (by decide) (by show _ ≤ 601024; omega) (by show _ ≤ 7293034; omega) (Nat.le_of_ble_eq_true rfl) (fun h => h) (c_X11_breaking (z := true) h (fun c1 I1 L1 R1 B1 B3 t1 h1 hh => ?_) (fun c1 I1 L1 R1 B1 B3 t1 h1 hh => ?_))
    · refine g_aload_2 dL_law_1373 ?_
      refine g_aload_0 dL_law_1374 ?_
      refine g_iload_4 dL_law_1375 ?_
      refine g_iconst (v := nI 1) dL_law_1377 (by decide) ?_
      refine g_iadd dL_law_1378 ?_
      rw [nI_add]
      refine g_sld dL_law_1379 (by omega) hLs ?_
      refine g_aload_0 dL_law_1380 ?_
      refine g_iload_4 dL_law_1381 ?_
      refine g_iconst (v := nI 2) dL_law_1383 (by decide) ?_
      refine g_iadd dL_law_1384 ?_
      rw [nI_add]
      refine g_sld dL_law_1385 (by omega) hLs ?_
      refine g_aload_0 dL_law_1386 ?_
      refine g_iload_4 dL_law_1387 ?_
      refine g_iconst (v := nI 3) dL_law_1389 (by decide) ?_
      refine g_iadd dL_law_1390 ?_
      rw [nI_add]
      refine g_sld dL_law_1391 (by omega) hLs ?_
      refine g_if_eq (tgt := 1399) dL_law_1392 (by decide) (fun hc1392 => ?_) (fun hc1392 => ?_)
      · exact absurd hc1392 hcB
      · skip
        refine g_iconst (v := nI 1) dL_law_1395 (by decide) ?_
        refine g_goto (tgt := 1400) dL_law_1396 (by decide) ?_
        refine g_callV_3 dL_law_1400 ml_L_155 mv_X12_breaking (by first | assumption | rfl | exact led_1 (by assumption) | exact led_2 (by assumption) | exact bk_m (by assumption) (by first | assumption | omega) | exact bk_p (by assumption) (by first | assumption | omega) | exact bk_o (by assumption) (by first | assumption | omega) | exact bk_s (by assumption) (by first | assumption | omega) | exact bk_1 (by assumption) | exact bk_2 (by assumption) | exact bk_3 (by assumption) | exact bk_4 (by assumption) | exact bk_5 (by assumption) | exact bk_6 (by assumption) | exact bk_7 (by assumption) | exact bk_8 (by assumption) | exact sh_ring _ (by first | assumption | omega) | exact sh_imgs _ (by first | assumption | omega)) (by first | decide | (show _ < 172; omega)) (by decide) rfl (by decide) (by decide) (by show _ ≤ 601024; omega) (by show _ ≤ 7293034; omega) (Nat.le_of_ble_eq_true rfl) (fun h => h) (r_breaking (z := true) h1.1 (hr.hi hh) hl (fun _ J2 M2 h2 f2 l2 => ?_) (fun c2 => absurd c2 c1))
        refine g_icmp_eq (tgt := 1689) dL_law_1403 (by decide) (fun hc1403 => ?_) (fun hc1403 => ?_)
        · skip
          exact VG.widen (by omega) (by omega) (nxt _ _ _ _ _ ⟨B1, B3, t1, _, _, _, _, _, _, _, _, _, _, _, h1.lo f2 (fun x a _ => l2 x a), h2⟩)
        · exact absurd rfl hc1403
    · refine g_aload_2 dL_law_1373 ?_
      refine g_aload_0 dL_law_1374 ?_
      refine g_iload_4 dL_law_1375 ?_
      refine g_iconst (v := nI 1) dL_law_1377 (by decide) ?_
      refine g_iadd dL_law_1378 ?_
      rw [nI_add]
      refine g_sld dL_law_1379 (by omega) hLs ?_
      refine g_aload_0 dL_law_1380 ?_
      refine g_iload_4 dL_law_1381 ?_
      refine g_iconst (v := nI 2) dL_law_1383 (by decide) ?_
      refine g_iadd dL_law_1384 ?_
      rw [nI_add]
      refine g_sld dL_law_1385 (by omega) hLs ?_
      refine g_aload_0 dL_law_1386 ?_
      refine g_iload_4 dL_law_1387 ?_
      refine g_iconst (v := nI 3) dL_law_1389 (by decide) ?_
      refine g_iadd dL_law_1390 ?_
      rw [nI_add]
      refine g_sld dL_law_1391 (by omega) hLs ?_
      refine g_if_eq (tgt := 1399) dL_law_1392 (by decide) (fun hc1392 => ?_) (fun hc1392 => ?_)
      · exact absurd hc1392 hcB
      · skip
        refine g_iconst (v := nI 1) dL_law_1395 (by decide) ?_
        refine g_goto (tgt := 1400) dL_law_1396 (by decide) ?_
        refine g_callV_3 dL_law_1400 ml_L_155 mv_X12_breaking (by first | assumption | rfl | exact led_1 (by assumption) | exact led_2 (by assumption) | exact bk_m (by assumption) (by first | assumption | omega) | exact bk_p (by assumption) (by first | assumption | omega) | exact bk_o (by assumption) (by first | assumption | omega) | exact bk_s (by assumption) (by first | assumption | omega) | exact bk_1 (by assumption) | exact bk_2 (by assumption) | exact bk_3 (by assumption) | exact bk_4 (by assumption) | exact bk_5 (by assumption) | exact bk_6 (by assumption) | exact bk_7 (by assumption) | exact bk_8 (by assumption) | exact sh_ring _ (by first | assumption | omega) | exact sh_imgs _ (by first | assumption | omega)) (by first | decide | (show _ < 172; omega)) (by decide) rfl (by decide) (by decide) (by show _ ≤ 601024; omega) (by show _ ≤ 7293034; omega) (Nat.le_of_ble_eq_true rfl) (fun h => h) (r_breaking (z := true) h1.1 (hr.hi hh) hl (fun c2 => absurd c1 c2) (fun _ J2 M2 h2 f2 l2 => ?_))
        refine g_icmp_eq (tgt := 1689) dL_law_1403 (by decide) (fun hc1403 => ?_) (fun hc1403 => ?_)
        · skip
          exact VG.widen (by omega) (by omega) (nxt _ _ _ _ _ ⟨B1, B3, t1, _, _, _, _, _, _, _, _, _, _, _, h1.lo f2 (fun x a _ => l2 x a), h2⟩)
        · exact absurd rfl hc1403
theorem lw_undo (hLs : Ls ≤ 3072) (hn : 6 * n + 6 ≤ Ls) (h : ClsB I L R B B2 t tp nt tr fa pl F S u r im ic) (hr : RefB I tp nt tr fa pl F S u r im ic) (nxt : ∀ (I' : HI) (L' : HL) (R' : HR) (y5 y6 : Option Value), LJ I' L' R' → VG yL_law cL_law 7 (some .boolean) room_1 (PW sb Ls b xs) b ad false (172 + (n + 1)) (7753 + 6 * (n + 1)) 1689 [some (.ref sb), some (.ref (b + 0)), some (.ref (b + 157)), some (.ref (b + 171)), some (.int (nI (6 * n))), y5, y6] [] NN SH I' L' R') : VG yL_law cL_law 7 (some .boolean) room_1 (PW sb Ls b xs) b ad false (172 + n) (7753 + 6 * n) 1408 [some (.ref sb), some (.ref (b + 0)), some (.ref (b + 157)), some (.ref (b + 171)), some (.int (nI (6 * n))), x5, x6] [] NN SH I L R := by
  have hl : ∀ k, live u r k → LOK F (S k) := fun k hk => (h.2.2.2.2.2.1.2.2.2.2.2 k hk).2
  have hI : ∀ c, c < ic → LOK F (im c) := fun c hc => (h.2.2.2.2.2.2.1.2.2 c hc).2
  refine g_aload_1 dL_law_1408 ?_
  refine g_callV_0 dL_law_1409 ml_L_156 mv_X11_undo (by first | assumption | rfl | exact led_1 (by assumption) | exact led_2 (by assumption) | exact bk_m (by assumption) (by first | assumption | omega) | exact bk_p (by assumption) (by first | assumption | omega) | exact bk_o (by assumption) (by first | assumption | omega) | exact bk_s (by assumption) (by first | assumption | omega) | exact bk_1 (by assumption) | exact bk_2 (by assumption) | exact bk_3 (by assumption) | exact bk_4 (by assumption) | exact bk_5 (by assumption) | exact bk_6 (by assumption) | exact bk_7 (by assumption) | exact bk_8 (by assumption) | exact sh_ring _ (by first | assumption | omega) | exact sh_imgs _ (by first | assumption | omega)) (by first | decide | (show _ < 172; omega)) (by decide) rfl (by decide) (by decide) (by show _ ≤ 601024; omega) (by show _ ≤ 7293034; omega) (Nat.le_of_ble_eq_true rfl) (fun h => h) (c_X11_undo h (fun c1 I1 L1 R1 B1 B3 t1 h1 hh => ?_) (fun c1 I1 L1 R1 B1 B3 t1 h1 hh => ?_))
  · refine g_aload_2 dL_law_1412 ?_
    refine g_callV_0 dL_law_1413 ml_L_160 mv_X12_undo (by first | assumption | rfl | exact led_1 (by assumption) | exact led_2 (by assumption) | exact bk_m (by assumption) (by first | assumption | omega) | exact bk_p (by assumption) (by first | assumption | omega) | exact bk_o (by assumption) (by first | assumption | omega) | exact bk_s (by assumption) (by first | assumption | omega) | exact bk_1 (by assumption) | exact bk_2 (by assumption) | exact bk_3 (by assumption) | exact bk_4 (by assumption) | exact bk_5 (by assumption) | exact bk_6 (by assumption) | exact bk_7 (by assumption) | exact bk_8 (by assumption) | exact sh_ring _ (by first | assumption | omega) | exact sh_imgs _ (by first | assumption | omega)) (by first | decide | (show _ < 172; omega)) (by decide) rfl (by decide) (by decide) (by show _ ≤ 601024; omega) (by show _ ≤ 7293034; omega) (Nat.le_of_ble_eq_true rfl) (fun h => h) (r_undo h1.1 (hr.hi hh) hl (fun _ J2 M2 h2 f2 l2 => ?_) (fun c2 => absurd c1 c2))
    refine g_icmp_eq (tgt := 1689) dL_law_1416 (by decide) (fun hc1416 => ?_) (fun hc1416 => ?_)
    · skip
      exact VG.widen (by omega) (by omega) (nxt _ _ _ _ _ ⟨B1, B3, t1, _, _, _, _, _, _, _, _, _, _, _, h1.lo f2 (fun x a _ => l2 x a), h2⟩)
    · exact absurd rfl hc1416
  · refine g_aload_2 dL_law_1412 ?_
    refine g_callV_0 dL_law_1413 ml_L_160 mv_X12_undo (by first | assumption | rfl | exact led_1 (by assumption) | exact led_2 (by assumption) | exact bk_m (by assumption) (by first | assumption | omega) | exact bk_p (by assumption) (by first | assumption | omega) | exact bk_o (by assumption) (by first | assumption | omega) | exact bk_s (by assumption) (by first | assumption | omega) | exact bk_1 (by assumption) | exact bk_2 (by assumption) | exact bk_3 (by assumption) | exact bk_4 (by assumption) | exact bk_5 (by assumption) | exact bk_6 (by assumption) | exact bk_7 (by assumption) | exact bk_8 (by assumption) | exact sh_ring _ (by first | assumption | omega) | exact sh_imgs _ (by first | assumption | omega)) (by first | decide | (show _ < 172; omega)) (by decide) rfl (by decide) (by decide) (by show _ ≤ 601024; omega) (by show _ ≤ 7293034; omega) (Nat.le_of_ble_eq_true rfl) (fun h => h) (r_undo h1.1 (hr.hi hh) hl (fun c2 => absurd c2 c1) (fun _ J2 M2 h2 f2 l2 => ?_))
    refine g_icmp_eq (tgt := 1689) dL_law_1416 (by decide) (fun hc1416 => ?_) (fun hc1416 => ?_)
    · skip
      exact VG.widen (by omega) (by omega) (nxt _ _ _ _ _ ⟨B1, B3, t1, _, _, _, _, _, _, _, _, _, _, _, h1.lo f2 (fun x a _ => l2 x a), h2⟩)
    · exact absurd rfl hc1416
theorem lw_redo (hLs : Ls ≤ 3072) (hn : 6 * n + 6 ≤ Ls) (h : ClsB I L R B B2 t tp nt tr fa pl F S u r im ic) (hr : RefB I tp nt tr fa pl F S u r im ic) (nxt : ∀ (I' : HI) (L' : HL) (R' : HR) (y5 y6 : Option Value), LJ I' L' R' → VG yL_law cL_law 7 (some .boolean) room_1 (PW sb Ls b xs) b ad false (172 + (n + 1)) (7753 + 6 * (n + 1)) 1689 [some (.ref sb), some (.ref (b + 0)), some (.ref (b + 157)), some (.ref (b + 171)), some (.int (nI (6 * n))), y5, y6] [] NN SH I' L' R') : VG yL_law cL_law 7 (some .boolean) room_1 (PW sb Ls b xs) b ad false (172 + n) (7753 + 6 * n) 1421 [some (.ref sb), some (.ref (b + 0)), some (.ref (b + 157)), some (.ref (b + 171)), some (.int (nI (6 * n))), x5, x6] [] NN SH I L R := by
  have hl : ∀ k, live u r k → LOK F (S k) := fun k hk => (h.2.2.2.2.2.1.2.2.2.2.2 k hk).2
  have hI : ∀ c, c < ic → LOK F (im c) := fun c hc => (h.2.2.2.2.2.2.1.2.2 c hc).2
  refine g_aload_1 dL_law_1421 ?_
  refine g_callV_0 dL_law_1422 ml_L_161 mv_X11_redo (by first | assumption | rfl | exact led_1 (by assumption) | exact led_2 (by assumption) | exact bk_m (by assumption) (by first | assumption | omega) | exact bk_p (by assumption) (by first | assumption | omega) | exact bk_o (by assumption) (by first | assumption | omega) | exact bk_s (by assumption) (by first | assumption | omega) | exact bk_1 (by assumption) | exact bk_2 (by assumption) | exact bk_3 (by assumption) | exact bk_4 (by assumption) | exact bk_5 (by assumption) | exact bk_6 (by assumption) | exact bk_7 (by assumption) | exact bk_8 (by assumption) | exact sh_ring _ (by first | assumption | omega) | exact sh_imgs _ (by first | assumption | omega)) (by first | decide | (show _ < 172; omega)) (by decide) rfl (by decide) (by decide) (by show _ ≤ 601024; omega) (by show _ ≤ 7293034; omega) (Nat.le_of_ble_eq_true rfl) (fun h => h) (c_X11_redo h (fun c1 I1 L1 R1 B1 B3 t1 h1 hh => ?_) (fun c1 I1 L1 R1 B1 B3 t1 h1 hh => ?_))
  · refine g_aload_2 dL_law_1425 ?_
    refine g_callV_0 dL_law_1426 ml_L_164 mv_X12_redo (by first | assumption | rfl | exact led_1 (by assumption) | exact led_2 (by assumption) | exact bk_m (by assumption) (by first | assumption | omega) | exact bk_p (by assumption) (by first | assumption | omega) | exact bk_o (by assumption) (by first | assumption | omega) | exact bk_s (by assumption) (by first | assumption | omega) | exact bk_1 (by assumption) | exact bk_2 (by assumption) | exact bk_3 (by assumption) | exact bk_4 (by assumption) | exact bk_5 (by assumption) | exact bk_6 (by assumption) | exact bk_7 (by assumption) | exact bk_8 (by assumption) | exact sh_ring _ (by first | assumption | omega) | exact sh_imgs _ (by first | assumption | omega)) (by first | decide | (show _ < 172; omega)) (by decide) rfl (by decide) (by decide) (by show _ ≤ 601024; omega) (by show _ ≤ 7293034; omega) (Nat.le_of_ble_eq_true rfl) (fun h => h) (r_redo h1.1 (hr.hi hh) hl (fun _ J2 M2 h2 f2 l2 => ?_) (fun c2 => absurd c1 c2))
    refine g_icmp_eq (tgt := 1689) dL_law_1429 (by decide) (fun hc1429 => ?_) (fun hc1429 => ?_)
    · skip
      exact VG.widen (by omega) (by omega) (nxt _ _ _ _ _ ⟨B1, B3, t1, _, _, _, _, _, _, _, _, _, _, _, h1.lo f2 (fun x a _ => l2 x a), h2⟩)
    · exact absurd rfl hc1429
  · refine g_aload_2 dL_law_1425 ?_
    refine g_callV_0 dL_law_1426 ml_L_164 mv_X12_redo (by first | assumption | rfl | exact led_1 (by assumption) | exact led_2 (by assumption) | exact bk_m (by assumption) (by first | assumption | omega) | exact bk_p (by assumption) (by first | assumption | omega) | exact bk_o (by assumption) (by first | assumption | omega) | exact bk_s (by assumption) (by first | assumption | omega) | exact bk_1 (by assumption) | exact bk_2 (by assumption) | exact bk_3 (by assumption) | exact bk_4 (by assumption) | exact bk_5 (by assumption) | exact bk_6 (by assumption) | exact bk_7 (by assumption) | exact bk_8 (by assumption) | exact sh_ring _ (by first | assumption | omega) | exact sh_imgs _ (by first | assumption | omega)) (by first | decide | (show _ < 172; omega)) (by decide) rfl (by decide) (by decide) (by show _ ≤ 601024; omega) (by show _ ≤ 7293034; omega) (Nat.le_of_ble_eq_true rfl) (fun h => h) (r_redo h1.1 (hr.hi hh) hl (fun c2 => absurd c2 c1) (fun _ J2 M2 h2 f2 l2 => ?_))
    refine g_icmp_eq (tgt := 1689) dL_law_1429 (by decide) (fun hc1429 => ?_) (fun hc1429 => ?_)
    · skip
      exact VG.widen (by omega) (by omega) (nxt _ _ _ _ _ ⟨B1, B3, t1, _, _, _, _, _, _, _, _, _, _, _, h1.lo f2 (fun x a _ => l2 x a), h2⟩)
    · exact absurd rfl hc1429
theorem lw_image (hLs : Ls ≤ 3072) (hn : 6 * n + 6 ≤ Ls) (h : ClsB I L R B B2 t tp nt tr fa pl F S u r im ic) (hr : RefB I tp nt tr fa pl F S u r im ic) (nxt : ∀ (I' : HI) (L' : HL) (R' : HR) (y5 y6 : Option Value), LJ I' L' R' → VG yL_law cL_law 7 (some .boolean) room_1 (PW sb Ls b xs) b ad false (172 + (n + 1)) (7753 + 6 * (n + 1)) 1689 [some (.ref sb), some (.ref (b + 0)), some (.ref (b + 157)), some (.ref (b + 171)), some (.int (nI (6 * n))), y5, y6] [] NN SH I' L' R') : VG yL_law cL_law 7 (some .boolean) room_1 (PW sb Ls b xs) b ad false (172 + n) (7753 + 6 * n) 1434 [some (.ref sb), some (.ref (b + 0)), some (.ref (b + 157)), some (.ref (b + 171)), some (.int (nI (6 * n))), x5, x6] [] NN SH I L R := by
  have hl : ∀ k, live u r k → LOK F (S k) := fun k hk => (h.2.2.2.2.2.1.2.2.2.2.2 k hk).2
  have hI : ∀ c, c < ic → LOK F (im c) := fun c hc => (h.2.2.2.2.2.2.1.2.2 c hc).2
  refine g_aload_1 dL_law_1434 ?_
  refine g_callV_0 dL_law_1435 ml_L_165 mv_X11_image (by first | assumption | rfl | exact led_1 (by assumption) | exact led_2 (by assumption) | exact bk_m (by assumption) (by first | assumption | omega) | exact bk_p (by assumption) (by first | assumption | omega) | exact bk_o (by assumption) (by first | assumption | omega) | exact bk_s (by assumption) (by first | assumption | omega) | exact bk_1 (by assumption) | exact bk_2 (by assumption) | exact bk_3 (by assumption) | exact bk_4 (by assumption) | exact bk_5 (by assumption) | exact bk_6 (by assumption) | exact bk_7 (by assumption) | exact bk_8 (by assumption) | exact sh_ring _ (by first | assumption | omega) | exact sh_imgs _ (by first | assumption | omega)) (by first | decide | (show _ < 172; omega)) (by decide) rfl (by decide) (by decide) (by show _ ≤ 601024; omega) (by show _ ≤ 7293034; omega) (Nat.le_of_ble_eq_true rfl) (fun h => h) (c_X11_image h (fun c1 I1 L1 R1 B1 B3 t1 h1 hh => ?_) (fun c1 I1 L1 R1 B1 B3 t1 h1 hh => ?_))
  · refine g_aload_2 dL_law_1438 ?_
    refine g_callV_0 dL_law_1439 ml_L_168 mv_X12_image (by first | assumption | rfl | exact led_1 (by assumption) | exact led_2 (by assumption) | exact bk_m (by assumption) (by first | assumption | omega) | exact bk_p (by assumption) (by first | assumption | omega) | exact bk_o (by assumption) (by first | assumption | omega) | exact bk_s (by assumption) (by first | assumption | omega) | exact bk_1 (by assumption) | exact bk_2 (by assumption) | exact bk_3 (by assumption) | exact bk_4 (by assumption) | exact bk_5 (by assumption) | exact bk_6 (by assumption) | exact bk_7 (by assumption) | exact bk_8 (by assumption) | exact sh_ring _ (by first | assumption | omega) | exact sh_imgs _ (by first | assumption | omega)) (by first | decide | (show _ < 172; omega)) (by decide) rfl (by decide) (by decide) (by show _ ≤ 601024; omega) (by show _ ≤ 7293034; omega) (Nat.le_of_ble_eq_true rfl) (fun h => h) (r_image h1.1 (hr.hi hh) hI (fun _ J2 M2 h2 f2 l2 => ?_) (fun c2 => absurd c2 c1))
    refine g_icmp_eq (tgt := 1689) dL_law_1442 (by decide) (fun hc1442 => ?_) (fun hc1442 => ?_)
    · skip
      exact VG.widen (by omega) (by omega) (nxt _ _ _ _ _ ⟨B1, B3, t1, _, _, _, _, _, _, _, _, _, _, _, h1.lo f2 (fun x a _ => l2 x a), h2⟩)
    · exact absurd rfl hc1442
  · refine g_aload_2 dL_law_1438 ?_
    refine g_callV_0 dL_law_1439 ml_L_168 mv_X12_image (by first | assumption | rfl | exact led_1 (by assumption) | exact led_2 (by assumption) | exact bk_m (by assumption) (by first | assumption | omega) | exact bk_p (by assumption) (by first | assumption | omega) | exact bk_o (by assumption) (by first | assumption | omega) | exact bk_s (by assumption) (by first | assumption | omega) | exact bk_1 (by assumption) | exact bk_2 (by assumption) | exact bk_3 (by assumption) | exact bk_4 (by assumption) | exact bk_5 (by assumption) | exact bk_6 (by assumption) | exact bk_7 (by assumption) | exact bk_8 (by assumption) | exact sh_ring _ (by first | assumption | omega) | exact sh_imgs _ (by first | assumption | omega)) (by first | decide | (show _ < 172; omega)) (by decide) rfl (by decide) (by decide) (by show _ ≤ 601024; omega) (by show _ ≤ 7293034; omega) (Nat.le_of_ble_eq_true rfl) (fun h => h) (r_image h1.1 (hr.hi hh) hI (fun c2 => absurd c1 c2) (fun _ J2 M2 h2 f2 l2 => ?_))
    refine g_icmp_eq (tgt := 1689) dL_law_1442 (by decide) (fun hc1442 => ?_) (fun hc1442 => ?_)
    · skip
      exact VG.widen (by omega) (by omega) (nxt _ _ _ _ _ ⟨B1, B3, t1, _, _, _, _, _, _, _, _, _, _, _, h1.lo f2 (fun x a _ => l2 x a), h2⟩)
    · exact absurd rfl hc1442
theorem lw_back (hLs : Ls ≤ 3072) (hn : 6 * n + 6 ≤ Ls) (h : ClsB I L R B B2 t tp nt tr fa pl F S u r im ic) (hr : RefB I tp nt tr fa pl F S u r im ic) (nxt : ∀ (I' : HI) (L' : HL) (R' : HR) (y5 y6 : Option Value), LJ I' L' R' → VG yL_law cL_law 7 (some .boolean) room_1 (PW sb Ls b xs) b ad false (172 + (n + 1)) (7753 + 6 * (n + 1)) 1689 [some (.ref sb), some (.ref (b + 0)), some (.ref (b + 157)), some (.ref (b + 171)), some (.int (nI (6 * n))), y5, y6] [] NN SH I' L' R') : VG yL_law cL_law 7 (some .boolean) room_1 (PW sb Ls b xs) b ad false (172 + n) (7753 + 6 * n) 1447 [some (.ref sb), some (.ref (b + 0)), some (.ref (b + 157)), some (.ref (b + 171)), some (.int (nI (6 * n))), x5, x6] [] NN SH I L R := by
  have hl : ∀ k, live u r k → LOK F (S k) := fun k hk => (h.2.2.2.2.2.1.2.2.2.2.2 k hk).2
  have hI : ∀ c, c < ic → LOK F (im c) := fun c hc => (h.2.2.2.2.2.2.1.2.2 c hc).2
  refine g_aload_1 dL_law_1447 ?_
  refine g_aload_0 dL_law_1448 ?_
  refine g_iload_4 dL_law_1449 ?_
  refine g_iconst (v := nI 1) dL_law_1451 (by decide) ?_
  refine g_iadd dL_law_1452 ?_
  rw [nI_add]
  refine g_sld dL_law_1453 (by omega) hLs ?_
  refine g_callV_1 dL_law_1454 ml_L_169 mv_X11_back (by first | assumption | rfl | exact led_1 (by assumption) | exact led_2 (by assumption) | exact bk_m (by assumption) (by first | assumption | omega) | exact bk_p (by assumption) (by first | assumption | omega) | exact bk_o (by assumption) (by first | assumption | omega) | exact bk_s (by assumption) (by first | assumption | omega) | exact bk_1 (by assumption) | exact bk_2 (by assumption) | exact bk_3 (by assumption) | exact bk_4 (by assumption) | exact bk_5 (by assumption) | exact bk_6 (by assumption) | exact bk_7 (by assumption) | exact bk_8 (by assumption) | exact sh_ring _ (by first | assumption | omega) | exact sh_imgs _ (by first | assumption | omega)) (by first | decide | (show _ < 172; omega)) (by decide) rfl (by decide) (by decide) (by show _ ≤ 601024; omega) (by show _ ≤ 7293034; omega) (Nat.le_of_ble_eq_true rfl) (fun h => h) (c_X11_back h (fun c1 I1 L1 R1 B1 B3 t1 h1 hh => ?_) (fun c1 I1 L1 R1 B1 B3 t1 h1 hh => ?_))
  · refine g_aload_2 dL_law_1457 ?_
    refine g_aload_0 dL_law_1458 ?_
    refine g_iload_4 dL_law_1459 ?_
    refine g_iconst (v := nI 1) dL_law_1461 (by decide) ?_
    refine g_iadd dL_law_1462 ?_
    rw [nI_add]
    refine g_sld dL_law_1463 (by omega) hLs ?_
    refine g_callV_1 dL_law_1464 ml_L_173 mv_X12_back (by first | assumption | rfl | exact led_1 (by assumption) | exact led_2 (by assumption) | exact bk_m (by assumption) (by first | assumption | omega) | exact bk_p (by assumption) (by first | assumption | omega) | exact bk_o (by assumption) (by first | assumption | omega) | exact bk_s (by assumption) (by first | assumption | omega) | exact bk_1 (by assumption) | exact bk_2 (by assumption) | exact bk_3 (by assumption) | exact bk_4 (by assumption) | exact bk_5 (by assumption) | exact bk_6 (by assumption) | exact bk_7 (by assumption) | exact bk_8 (by assumption) | exact sh_ring _ (by first | assumption | omega) | exact sh_imgs _ (by first | assumption | omega)) (by first | decide | (show _ < 172; omega)) (by decide) rfl (by decide) (by decide) (by show _ ≤ 601024; omega) (by show _ ≤ 7293034; omega) (Nat.le_of_ble_eq_true rfl) (fun h => h) (r_back h1.1 (hr.hi hh) hI (fun _ J2 M2 h2 f2 l2 => ?_) (fun c2 => absurd c2 c1))
    refine g_icmp_eq (tgt := 1689) dL_law_1467 (by decide) (fun hc1467 => ?_) (fun hc1467 => ?_)
    · skip
      exact VG.widen (by omega) (by omega) (nxt _ _ _ _ _ ⟨B1, B3, t1, _, _, _, _, _, _, _, _, _, _, _, h1.lo f2 (fun x a _ => l2 x a), h2⟩)
    · exact absurd rfl hc1467
  · refine g_aload_2 dL_law_1457 ?_
    refine g_aload_0 dL_law_1458 ?_
    refine g_iload_4 dL_law_1459 ?_
    refine g_iconst (v := nI 1) dL_law_1461 (by decide) ?_
    refine g_iadd dL_law_1462 ?_
    rw [nI_add]
    refine g_sld dL_law_1463 (by omega) hLs ?_
    refine g_callV_1 dL_law_1464 ml_L_173 mv_X12_back (by first | assumption | rfl | exact led_1 (by assumption) | exact led_2 (by assumption) | exact bk_m (by assumption) (by first | assumption | omega) | exact bk_p (by assumption) (by first | assumption | omega) | exact bk_o (by assumption) (by first | assumption | omega) | exact bk_s (by assumption) (by first | assumption | omega) | exact bk_1 (by assumption) | exact bk_2 (by assumption) | exact bk_3 (by assumption) | exact bk_4 (by assumption) | exact bk_5 (by assumption) | exact bk_6 (by assumption) | exact bk_7 (by assumption) | exact bk_8 (by assumption) | exact sh_ring _ (by first | assumption | omega) | exact sh_imgs _ (by first | assumption | omega)) (by first | decide | (show _ < 172; omega)) (by decide) rfl (by decide) (by decide) (by show _ ≤ 601024; omega) (by show _ ≤ 7293034; omega) (Nat.le_of_ble_eq_true rfl) (fun h => h) (r_back h1.1 (hr.hi hh) hI (fun c2 => absurd c1 c2) (fun _ J2 M2 h2 f2 l2 => ?_))
    refine g_icmp_eq (tgt := 1689) dL_law_1467 (by decide) (fun hc1467 => ?_) (fun hc1467 => ?_)
    · skip
      exact VG.widen (by omega) (by omega) (nxt _ _ _ _ _ ⟨B1, B3, t1, _, _, _, _, _, _, _, _, _, _, _, h1.lo f2 (fun x a _ => l2 x a), h2⟩)
    · exact absurd rfl hc1467
theorem lw_lending (hLs : Ls ≤ 3072) (hn : 6 * n + 6 ≤ Ls) (h : ClsB I L R B B2 t tp nt tr fa pl F S u r im ic) (hr : RefB I tp nt tr fa pl F S u r im ic) (nxt : ∀ (I' : HI) (L' : HL) (R' : HR) (y5 y6 : Option Value), LJ I' L' R' → VG yL_law cL_law 7 (some .boolean) room_1 (PW sb Ls b xs) b ad false (172 + (n + 1)) (7753 + 6 * (n + 1)) 1689 [some (.ref sb), some (.ref (b + 0)), some (.ref (b + 157)), some (.ref (b + 171)), some (.int (nI (6 * n))), y5, y6] [] NN SH I' L' R') : VG yL_law cL_law 7 (some .boolean) room_1 (PW sb Ls b xs) b ad false (172 + n) (7753 + 6 * n) 1472 [some (.ref sb), some (.ref (b + 0)), some (.ref (b + 157)), some (.ref (b + 171)), some (.int (nI (6 * n))), x5, x6] [] NN SH I L R := by
  have hl : ∀ k, live u r k → LOK F (S k) := fun k hk => (h.2.2.2.2.2.1.2.2.2.2.2 k hk).2
  have hI : ∀ c, c < ic → LOK F (im c) := fun c hc => (h.2.2.2.2.2.2.1.2.2 c hc).2
  refine g_aload_1 dL_law_1472 ?_
  refine g_aload_0 dL_law_1473 ?_
  refine g_iload_4 dL_law_1474 ?_
  refine g_iconst (v := nI 1) dL_law_1476 (by decide) ?_
  refine g_iadd dL_law_1477 ?_
  rw [nI_add]
  refine g_sld dL_law_1478 (by omega) hLs ?_
  refine g_aload_0 dL_law_1479 ?_
  refine g_iload_4 dL_law_1480 ?_
  refine g_iconst (v := nI 2) dL_law_1482 (by decide) ?_
  refine g_iadd dL_law_1483 ?_
  rw [nI_add]
  refine g_sld dL_law_1484 (by omega) hLs ?_
  refine g_callV_2 dL_law_1485 ml_L_174 mv_X11_lending (by first | assumption | rfl | exact led_1 (by assumption) | exact led_2 (by assumption) | exact bk_m (by assumption) (by first | assumption | omega) | exact bk_p (by assumption) (by first | assumption | omega) | exact bk_o (by assumption) (by first | assumption | omega) | exact bk_s (by assumption) (by first | assumption | omega) | exact bk_1 (by assumption) | exact bk_2 (by assumption) | exact bk_3 (by assumption) | exact bk_4 (by assumption) | exact bk_5 (by assumption) | exact bk_6 (by assumption) | exact bk_7 (by assumption) | exact bk_8 (by assumption) | exact sh_ring _ (by first | assumption | omega) | exact sh_imgs _ (by first | assumption | omega)) (by first | decide | (show _ < 172; omega)) (by decide) rfl (by decide) (by decide) (by show _ ≤ 601024; omega) (by show _ ≤ 7293034; omega) (Nat.le_of_ble_eq_true rfl) (fun h => h) (c_X11_lending h (fun I1 L1 R1 B1 B3 t1 h1 hh => ?_))
  refine g_aload_2 dL_law_1488 ?_
  refine g_aload_0 dL_law_1489 ?_
  refine g_iload_4 dL_law_1490 ?_
  refine g_iconst (v := nI 1) dL_law_1492 (by decide) ?_
  refine g_iadd dL_law_1493 ?_
  rw [nI_add]
  refine g_sld dL_law_1494 (by omega) hLs ?_
  refine g_aload_0 dL_law_1495 ?_
  refine g_iload_4 dL_law_1496 ?_
  refine g_iconst (v := nI 2) dL_law_1498 (by decide) ?_
  refine g_iadd dL_law_1499 ?_
  rw [nI_add]
  refine g_sld dL_law_1500 (by omega) hLs ?_
  refine g_callV_2 dL_law_1501 ml_L_177 mv_X12_lending (by first | assumption | rfl | exact led_1 (by assumption) | exact led_2 (by assumption) | exact bk_m (by assumption) (by first | assumption | omega) | exact bk_p (by assumption) (by first | assumption | omega) | exact bk_o (by assumption) (by first | assumption | omega) | exact bk_s (by assumption) (by first | assumption | omega) | exact bk_1 (by assumption) | exact bk_2 (by assumption) | exact bk_3 (by assumption) | exact bk_4 (by assumption) | exact bk_5 (by assumption) | exact bk_6 (by assumption) | exact bk_7 (by assumption) | exact bk_8 (by assumption) | exact sh_ring _ (by first | assumption | omega) | exact sh_imgs _ (by first | assumption | omega)) (by first | decide | (show _ < 172; omega)) (by decide) rfl (by decide) (by decide) (by show _ ≤ 601024; omega) (by show _ ≤ 7293034; omega) (Nat.le_of_ble_eq_true rfl) (fun h => h) (r_lending h1.1 (hr.hi hh) (fun J2 M2 h2 f2 l2 => ?_))
  refine g_icmp_eq (tgt := 1689) dL_law_1504 (by decide) (fun hc1504 => ?_) (fun hc1504 => ?_)
  · skip
    exact VG.widen (by omega) (by omega) (nxt _ _ _ _ _ ⟨B1, B3, t1, _, _, _, _, _, _, _, _, _, _, _, h1.lo f2 (fun x a _ => l2 x a), h2⟩)
  · exact absurd rfl hc1504
theorem lw_mask (hLs : Ls ≤ 3072) (hn : 6 * n + 6 ≤ Ls) (h : ClsB I L R B B2 t tp nt tr fa pl F S u r im ic) (hr : RefB I tp nt tr fa pl F S u r im ic) (nxt : ∀ (I' : HI) (L' : HL) (R' : HR) (y5 y6 : Option Value), LJ I' L' R' → VG yL_law cL_law 7 (some .boolean) room_1 (PW sb Ls b xs) b ad false (172 + (n + 1)) (7753 + 6 * (n + 1)) 1689 [some (.ref sb), some (.ref (b + 0)), some (.ref (b + 157)), some (.ref (b + 171)), some (.int (nI (6 * n))), y5, y6] [] NN SH I' L' R') : VG yL_law cL_law 7 (some .boolean) room_1 (PW sb Ls b xs) b ad false (172 + n) (7753 + 6 * n) 1509 [some (.ref sb), some (.ref (b + 0)), some (.ref (b + 157)), some (.ref (b + 171)), some (.int (nI (6 * n))), x5, x6] [] NN SH I L R := by
  have hl : ∀ k, live u r k → LOK F (S k) := fun k hk => (h.2.2.2.2.2.1.2.2.2.2.2 k hk).2
  have hI : ∀ c, c < ic → LOK F (im c) := fun c hc => (h.2.2.2.2.2.2.1.2.2 c hc).2
  refine g_aload_1 dL_law_1509 ?_
  refine g_aload_0 dL_law_1510 ?_
  refine g_iload_4 dL_law_1511 ?_
  refine g_iconst (v := nI 1) dL_law_1513 (by decide) ?_
  refine g_iadd dL_law_1514 ?_
  rw [nI_add]
  refine g_sld dL_law_1515 (by omega) hLs ?_
  refine g_aload_0 dL_law_1516 ?_
  refine g_iload_4 dL_law_1517 ?_
  refine g_iconst (v := nI 2) dL_law_1519 (by decide) ?_
  refine g_iadd dL_law_1520 ?_
  rw [nI_add]
  refine g_sld dL_law_1521 (by omega) hLs ?_
  refine g_callV_2 dL_law_1522 ml_L_178 mv_X11_mask (by first | assumption | rfl | exact led_1 (by assumption) | exact led_2 (by assumption) | exact bk_m (by assumption) (by first | assumption | omega) | exact bk_p (by assumption) (by first | assumption | omega) | exact bk_o (by assumption) (by first | assumption | omega) | exact bk_s (by assumption) (by first | assumption | omega) | exact bk_1 (by assumption) | exact bk_2 (by assumption) | exact bk_3 (by assumption) | exact bk_4 (by assumption) | exact bk_5 (by assumption) | exact bk_6 (by assumption) | exact bk_7 (by assumption) | exact bk_8 (by assumption) | exact sh_ring _ (by first | assumption | omega) | exact sh_imgs _ (by first | assumption | omega)) (by first | decide | (show _ < 172; omega)) (by decide) rfl (by decide) (by decide) (by show _ ≤ 601024; omega) (by show _ ≤ 7293034; omega) (Nat.le_of_ble_eq_true rfl) (fun h => h) (c_X11_mask h (fun I1 L1 R1 B1 B3 t1 h1 hh => ?_))
  refine g_aload_2 dL_law_1525 ?_
  refine g_aload_0 dL_law_1526 ?_
  refine g_iload_4 dL_law_1527 ?_
  refine g_iconst (v := nI 1) dL_law_1529 (by decide) ?_
  refine g_iadd dL_law_1530 ?_
  rw [nI_add]
  refine g_sld dL_law_1531 (by omega) hLs ?_
  refine g_aload_0 dL_law_1532 ?_
  refine g_iload_4 dL_law_1533 ?_
  refine g_iconst (v := nI 2) dL_law_1535 (by decide) ?_
  refine g_iadd dL_law_1536 ?_
  rw [nI_add]
  refine g_sld dL_law_1537 (by omega) hLs ?_
  refine g_callV_2 dL_law_1538 ml_L_181 mv_X12_mask (by first | assumption | rfl | exact led_1 (by assumption) | exact led_2 (by assumption) | exact bk_m (by assumption) (by first | assumption | omega) | exact bk_p (by assumption) (by first | assumption | omega) | exact bk_o (by assumption) (by first | assumption | omega) | exact bk_s (by assumption) (by first | assumption | omega) | exact bk_1 (by assumption) | exact bk_2 (by assumption) | exact bk_3 (by assumption) | exact bk_4 (by assumption) | exact bk_5 (by assumption) | exact bk_6 (by assumption) | exact bk_7 (by assumption) | exact bk_8 (by assumption) | exact sh_ring _ (by first | assumption | omega) | exact sh_imgs _ (by first | assumption | omega)) (by first | decide | (show _ < 172; omega)) (by decide) rfl (by decide) (by decide) (by show _ ≤ 601024; omega) (by show _ ≤ 7293034; omega) (Nat.le_of_ble_eq_true rfl) (fun h => h) (r_mask h1.1 (hr.hi hh) (fun J2 M2 h2 f2 l2 => ?_))
  refine g_icmp_eq (tgt := 1689) dL_law_1541 (by decide) (fun hc1541 => ?_) (fun hc1541 => ?_)
  · skip
    exact VG.widen (by omega) (by omega) (nxt _ _ _ _ _ ⟨B1, B3, t1, _, _, _, _, _, _, _, _, _, _, _, h1.lo f2 (fun x a _ => l2 x a), h2⟩)
  · exact absurd rfl hc1541
theorem lw_person (hLs : Ls ≤ 3072) (hn : 6 * n + 6 ≤ Ls) (h : ClsB I L R B B2 t tp nt tr fa pl F S u r im ic) (hr : RefB I tp nt tr fa pl F S u r im ic) (nxt : ∀ (I' : HI) (L' : HL) (R' : HR) (y5 y6 : Option Value), LJ I' L' R' → VG yL_law cL_law 7 (some .boolean) room_1 (PW sb Ls b xs) b ad false (172 + (n + 1)) (7753 + 6 * (n + 1)) 1689 [some (.ref sb), some (.ref (b + 0)), some (.ref (b + 157)), some (.ref (b + 171)), some (.int (nI (6 * n))), y5, y6] [] NN SH I' L' R') : VG yL_law cL_law 7 (some .boolean) room_1 (PW sb Ls b xs) b ad false (172 + n) (7753 + 6 * n) 1546 [some (.ref sb), some (.ref (b + 0)), some (.ref (b + 157)), some (.ref (b + 171)), some (.int (nI (6 * n))), x5, x6] [] NN SH I L R := by
  have hl : ∀ k, live u r k → LOK F (S k) := fun k hk => (h.2.2.2.2.2.1.2.2.2.2.2 k hk).2
  have hI : ∀ c, c < ic → LOK F (im c) := fun c hc => (h.2.2.2.2.2.2.1.2.2 c hc).2
  refine g_aload_1 dL_law_1546 ?_
  refine g_aload_0 dL_law_1547 ?_
  refine g_iload_4 dL_law_1548 ?_
  refine g_iconst (v := nI 1) dL_law_1550 (by decide) ?_
  refine g_iadd dL_law_1551 ?_
  rw [nI_add]
  refine g_sld dL_law_1552 (by omega) hLs ?_
  refine g_aload_0 dL_law_1553 ?_
  refine g_iload_4 dL_law_1554 ?_
  refine g_iconst (v := nI 2) dL_law_1556 (by decide) ?_
  refine g_iadd dL_law_1557 ?_
  rw [nI_add]
  refine g_sld dL_law_1558 (by omega) hLs ?_
  refine g_callV_2 dL_law_1559 ml_L_182 mv_X11_person (by first | assumption | rfl | exact led_1 (by assumption) | exact led_2 (by assumption) | exact bk_m (by assumption) (by first | assumption | omega) | exact bk_p (by assumption) (by first | assumption | omega) | exact bk_o (by assumption) (by first | assumption | omega) | exact bk_s (by assumption) (by first | assumption | omega) | exact bk_1 (by assumption) | exact bk_2 (by assumption) | exact bk_3 (by assumption) | exact bk_4 (by assumption) | exact bk_5 (by assumption) | exact bk_6 (by assumption) | exact bk_7 (by assumption) | exact bk_8 (by assumption) | exact sh_ring _ (by first | assumption | omega) | exact sh_imgs _ (by first | assumption | omega)) (by first | decide | (show _ < 172; omega)) (by decide) rfl (by decide) (by decide) (by show _ ≤ 601024; omega) (by show _ ≤ 7293034; omega) (Nat.le_of_ble_eq_true rfl) (fun h => h) (c_X11_person h (fun I1 L1 R1 B1 B3 t1 h1 hh => ?_))
  refine g_aload_2 dL_law_1562 ?_
  refine g_aload_0 dL_law_1563 ?_
  refine g_iload_4 dL_law_1564 ?_
  refine g_iconst (v := nI 1) dL_law_1566 (by decide) ?_
  refine g_iadd dL_law_1567 ?_
  rw [nI_add]
  refine g_sld dL_law_1568 (by omega) hLs ?_
  refine g_aload_0 dL_law_1569 ?_
  refine g_iload_4 dL_law_1570 ?_
  refine g_iconst (v := nI 2) dL_law_1572 (by decide) ?_
  refine g_iadd dL_law_1573 ?_
  rw [nI_add]
  refine g_sld dL_law_1574 (by omega) hLs ?_
  refine g_callV_2 dL_law_1575 ml_L_185 mv_X12_person (by first | assumption | rfl | exact led_1 (by assumption) | exact led_2 (by assumption) | exact bk_m (by assumption) (by first | assumption | omega) | exact bk_p (by assumption) (by first | assumption | omega) | exact bk_o (by assumption) (by first | assumption | omega) | exact bk_s (by assumption) (by first | assumption | omega) | exact bk_1 (by assumption) | exact bk_2 (by assumption) | exact bk_3 (by assumption) | exact bk_4 (by assumption) | exact bk_5 (by assumption) | exact bk_6 (by assumption) | exact bk_7 (by assumption) | exact bk_8 (by assumption) | exact sh_ring _ (by first | assumption | omega) | exact sh_imgs _ (by first | assumption | omega)) (by first | decide | (show _ < 172; omega)) (by decide) rfl (by decide) (by decide) (by show _ ≤ 601024; omega) (by show _ ≤ 7293034; omega) (Nat.le_of_ble_eq_true rfl) (fun h => h) (r_person h1.1 (hr.hi hh) (fun J2 M2 h2 f2 l2 => ?_))
  refine g_icmp_eq (tgt := 1689) dL_law_1578 (by decide) (fun hc1578 => ?_) (fun hc1578 => ?_)
  · skip
    exact VG.widen (by omega) (by omega) (nxt _ _ _ _ _ ⟨B1, B3, t1, _, _, _, _, _, _, _, _, _, _, _, h1.lo f2 (fun x a _ => l2 x a), h2⟩)
  · exact absurd rfl hc1578
theorem lw_size (hLs : Ls ≤ 3072) (hn : 6 * n + 6 ≤ Ls) (h : ClsB I L R B B2 t tp nt tr fa pl F S u r im ic) (hr : RefB I tp nt tr fa pl F S u r im ic) (nxt : ∀ (I' : HI) (L' : HL) (R' : HR) (y5 y6 : Option Value), LJ I' L' R' → VG yL_law cL_law 7 (some .boolean) room_1 (PW sb Ls b xs) b ad false (172 + (n + 1)) (7753 + 6 * (n + 1)) 1689 [some (.ref sb), some (.ref (b + 0)), some (.ref (b + 157)), some (.ref (b + 171)), some (.int (nI (6 * n))), y5, y6] [] NN SH I' L' R') : VG yL_law cL_law 7 (some .boolean) room_1 (PW sb Ls b xs) b ad false (172 + n) (7753 + 6 * n) 1651 [some (.ref sb), some (.ref (b + 0)), some (.ref (b + 157)), some (.ref (b + 171)), some (.int (nI (6 * n))), x5, x6] [] NN SH I L R := by
  have hl : ∀ k, live u r k → LOK F (S k) := fun k hk => (h.2.2.2.2.2.1.2.2.2.2.2 k hk).2
  have hI : ∀ c, c < ic → LOK F (im c) := fun c hc => (h.2.2.2.2.2.2.1.2.2 c hc).2
  refine g_aload_1 dL_law_1651 ?_
  refine g_aload_0 dL_law_1652 ?_
  refine g_iload_4 dL_law_1653 ?_
  refine g_iconst (v := nI 1) dL_law_1655 (by decide) ?_
  refine g_iadd dL_law_1656 ?_
  rw [nI_add]
  refine g_sld dL_law_1657 (by omega) hLs ?_
  refine g_callV_1 dL_law_1658 ml_L_195 mv_X11_size (by first | assumption | rfl | exact led_1 (by assumption) | exact led_2 (by assumption) | exact bk_m (by assumption) (by first | assumption | omega) | exact bk_p (by assumption) (by first | assumption | omega) | exact bk_o (by assumption) (by first | assumption | omega) | exact bk_s (by assumption) (by first | assumption | omega) | exact bk_1 (by assumption) | exact bk_2 (by assumption) | exact bk_3 (by assumption) | exact bk_4 (by assumption) | exact bk_5 (by assumption) | exact bk_6 (by assumption) | exact bk_7 (by assumption) | exact bk_8 (by assumption) | exact sh_ring _ (by first | assumption | omega) | exact sh_imgs _ (by first | assumption | omega)) (by first | decide | (show _ < 172; omega)) (by decide) rfl (by decide) (by decide) (by show _ ≤ 601024; omega) (by show _ ≤ 7293034; omega) (Nat.le_of_ble_eq_true rfl) (fun h => h) (c_X11_size h (fun I1 L1 R1 B1 B3 t1 h1 hh => ?_))
  refine g_aload_2 dL_law_1661 ?_
  refine g_aload_0 dL_law_1662 ?_
  refine g_iload_4 dL_law_1663 ?_
  refine g_iconst (v := nI 1) dL_law_1665 (by decide) ?_
  refine g_iadd dL_law_1666 ?_
  rw [nI_add]
  refine g_sld dL_law_1667 (by omega) hLs ?_
  refine g_callV_1 dL_law_1668 ml_L_198 mv_X12_size (by first | assumption | rfl | exact led_1 (by assumption) | exact led_2 (by assumption) | exact bk_m (by assumption) (by first | assumption | omega) | exact bk_p (by assumption) (by first | assumption | omega) | exact bk_o (by assumption) (by first | assumption | omega) | exact bk_s (by assumption) (by first | assumption | omega) | exact bk_1 (by assumption) | exact bk_2 (by assumption) | exact bk_3 (by assumption) | exact bk_4 (by assumption) | exact bk_5 (by assumption) | exact bk_6 (by assumption) | exact bk_7 (by assumption) | exact bk_8 (by assumption) | exact sh_ring _ (by first | assumption | omega) | exact sh_imgs _ (by first | assumption | omega)) (by first | decide | (show _ < 172; omega)) (by decide) rfl (by decide) (by decide) (by show _ ≤ 601024; omega) (by show _ ≤ 7293034; omega) (Nat.le_of_ble_eq_true rfl) (fun h => h) (r_size h1.1 (hr.hi hh) (fun J2 M2 h2 f2 l2 => ?_))
  refine g_icmp_eq (tgt := 1689) dL_law_1671 (by decide) (fun hc1671 => ?_) (fun hc1671 => ?_)
  · skip
    exact VG.widen (by omega) (by omega) (nxt _ _ _ _ _ ⟨B1, B3, t1, _, _, _, _, _, _, _, _, _, _, _, h1.lo f2 (fun x a _ => l2 x a), h2⟩)
  · exact absurd rfl hc1671
theorem lw_trouble (hLs : Ls ≤ 3072) (hn : 6 * n + 6 ≤ Ls) (h : ClsB I L R B B2 t tp nt tr fa pl F S u r im ic) (hr : RefB I tp nt tr fa pl F S u r im ic) (nxt : ∀ (I' : HI) (L' : HL) (R' : HR) (y5 y6 : Option Value), LJ I' L' R' → VG yL_law cL_law 7 (some .boolean) room_1 (PW sb Ls b xs) b ad false (172 + (n + 1)) (7753 + 6 * (n + 1)) 1689 [some (.ref sb), some (.ref (b + 0)), some (.ref (b + 157)), some (.ref (b + 171)), some (.int (nI (6 * n))), y5, y6] [] NN SH I' L' R') : VG yL_law cL_law 7 (some .boolean) room_1 (PW sb Ls b xs) b ad false (172 + n) (7753 + 6 * n) 1676 [some (.ref sb), some (.ref (b + 0)), some (.ref (b + 157)), some (.ref (b + 171)), some (.int (nI (6 * n))), x5, x6] [] NN SH I L R := by
  have hl : ∀ k, live u r k → LOK F (S k) := fun k hk => (h.2.2.2.2.2.1.2.2.2.2.2 k hk).2
  have hI : ∀ c, c < ic → LOK F (im c) := fun c hc => (h.2.2.2.2.2.2.1.2.2 c hc).2
  refine g_aload_1 dL_law_1676 ?_
  refine g_callV_0 dL_law_1677 ml_L_199 mv_X11_trouble (by first | assumption | rfl | exact led_1 (by assumption) | exact led_2 (by assumption) | exact bk_m (by assumption) (by first | assumption | omega) | exact bk_p (by assumption) (by first | assumption | omega) | exact bk_o (by assumption) (by first | assumption | omega) | exact bk_s (by assumption) (by first | assumption | omega) | exact bk_1 (by assumption) | exact bk_2 (by assumption) | exact bk_3 (by assumption) | exact bk_4 (by assumption) | exact bk_5 (by assumption) | exact bk_6 (by assumption) | exact bk_7 (by assumption) | exact bk_8 (by assumption) | exact sh_ring _ (by first | assumption | omega) | exact sh_imgs _ (by first | assumption | omega)) (by first | decide | (show _ < 172; omega)) (by decide) rfl (by decide) (by decide) (by show _ ≤ 601024; omega) (by show _ ≤ 7293034; omega) (Nat.le_of_ble_eq_true rfl) (fun h => h) (c_X11_trouble h (fun I1 L1 R1 B1 B3 t1 h1 hh => ?_))
  refine g_aload_2 dL_law_1680 ?_
  refine g_callV_0 dL_law_1681 ml_L_202 mv_X12_trouble (by first | assumption | rfl | exact led_1 (by assumption) | exact led_2 (by assumption) | exact bk_m (by assumption) (by first | assumption | omega) | exact bk_p (by assumption) (by first | assumption | omega) | exact bk_o (by assumption) (by first | assumption | omega) | exact bk_s (by assumption) (by first | assumption | omega) | exact bk_1 (by assumption) | exact bk_2 (by assumption) | exact bk_3 (by assumption) | exact bk_4 (by assumption) | exact bk_5 (by assumption) | exact bk_6 (by assumption) | exact bk_7 (by assumption) | exact bk_8 (by assumption) | exact sh_ring _ (by first | assumption | omega) | exact sh_imgs _ (by first | assumption | omega)) (by first | decide | (show _ < 172; omega)) (by decide) rfl (by decide) (by decide) (by show _ ≤ 601024; omega) (by show _ ≤ 7293034; omega) (Nat.le_of_ble_eq_true rfl) (fun h => h) (r_trouble h1.1 (hr.hi hh) (fun J2 M2 h2 f2 l2 => ?_))
  refine g_icmp_eq (tgt := 1689) dL_law_1684 (by decide) (fun hc1684 => ?_) (fun hc1684 => ?_)
  · skip
    exact VG.widen (by omega) (by omega) (nxt _ _ _ _ _ ⟨B1, B3, t1, _, _, _, _, _, _, _, _, _, _, _, h1.lo f2 (fun x a _ => l2 x a), h2⟩)
  · exact absurd rfl hc1684
end
