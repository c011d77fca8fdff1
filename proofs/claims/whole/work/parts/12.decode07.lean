theorem d_L_law_266 : decode code 266 = .ok (.iadd, 1) := by decide +kernel
theorem d_L_law_267 : decode code 267 = .ok (.iaload, 1) := by decide +kernel
theorem d_L_law_268 : decode code 268 = .ok (.aload_n 0, 1) := by decide +kernel
theorem d_L_law_269 : decode code 269 = .ok (.iload 4, 2) := by decide +kernel
theorem d_L_law_271 : decode code 271 = .ok (.iconst 2, 1) := by decide +kernel
theorem d_L_law_272 : decode code 272 = .ok (.iadd, 1) := by decide +kernel
theorem d_L_law_273 : decode code 273 = .ok (.iaload, 1) := by decide +kernel
theorem d_L_law_274 : decode code 274 = .ok (.aload_n 3, 1) := by decide +kernel
theorem d_L_law_275 : decode code 275 = .ok (.invokestatic 58, 3) := by decide +kernel
theorem d_L_law_278 : decode code 278 = .ok (.istore 5, 2) := by decide +kernel
theorem d_L_law_280 : decode code 280 = .ok (.aload_n 2, 1) := by decide +kernel
theorem d_L_law_281 : decode code 281 = .ok (.aload_n 0, 1) := by decide +kernel
theorem d_L_law_282 : decode code 282 = .ok (.iload 4, 2) := by decide +kernel
theorem d_L_law_284 : decode code 284 = .ok (.iconst 1, 1) := by decide +kernel
theorem d_L_law_285 : decode code 285 = .ok (.iadd, 1) := by decide +kernel
theorem d_L_law_286 : decode code 286 = .ok (.iaload, 1) := by decide +kernel
theorem d_L_law_287 : decode code 287 = .ok (.aload_n 0, 1) := by decide +kernel
theorem d_L_law_288 : decode code 288 = .ok (.iload 4, 2) := by decide +kernel
theorem d_L_law_290 : decode code 290 = .ok (.iconst 2, 1) := by decide +kernel
theorem d_L_law_291 : decode code 291 = .ok (.iadd, 1) := by decide +kernel
theorem d_L_law_292 : decode code 292 = .ok (.iaload, 1) := by decide +kernel
theorem d_L_law_293 : decode code 293 = .ok (.invokevirtual 61, 3) := by decide +kernel
theorem d_L_law_296 : decode code 296 = .ok (.istore 6, 2) := by decide +kernel
theorem d_L_law_298 : decode code 298 = .ok (.aload_n 2, 1) := by decide +kernel
theorem d_L_law_299 : decode code 299 = .ok (.invokevirtual 46, 3) := by decide +kernel
theorem d_L_law_302 : decode code 302 = .ok (.iload 5, 2) := by decide +kernel
theorem d_L_law_304 : decode code 304 = .ok (.if_icmp .eq 5, 3) := by decide +kernel
theorem d_L_law_307 : decode code 307 = .ok (.iconst 0, 1) := by decide +kernel
theorem d_L_law_308 : decode code 308 = .ok (.ireturn, 1) := by decide +kernel
theorem d_L_law_309 : decode code 309 = .ok (.iload 5, 2) := by decide +kernel
theorem d_L_law_311 : decode code 311 = .ok (.ifCond .ne 15, 3) := by decide +kernel
theorem d_L_law_314 : decode code 314 = .ok (.aload_n 3, 1) := by decide +kernel
theorem d_L_law_315 : decode code 315 = .ok (.iconst 0, 1) := by decide +kernel
theorem d_L_law_316 : decode code 316 = .ok (.laload, 1) := by decide +kernel
theorem d_L_law_317 : decode code 317 = .ok (.iload 6, 2) := by decide +kernel
theorem d_L_law_319 : decode code 319 = .ok (.i2l, 1) := by decide +kernel
theorem d_L_law_320 : decode code 320 = .ok (.lcmp, 1) := by decide +kernel
theorem d_L_law_321 : decode code 321 = .ok (.ifCond .eq 5, 3) := by decide +kernel
theorem d_L_law_324 : decode code 324 = .ok (.iconst 0, 1) := by decide +kernel
theorem d_L_law_325 : decode code 325 = .ok (.ireturn, 1) := by decide +kernel
theorem d_L_law_326 : decode code 326 = .ok (.goto 208, 3) := by decide +kernel
theorem d_L_law_329 : decode code 329 = .ok (.aload_n 1, 1) := by decide +kernel
theorem d_L_law_330 : decode code 330 = .ok (.aload_n 0, 1) := by decide +kernel
theorem d_L_law_331 : decode code 331 = .ok (.iload 4, 2) := by decide +kernel
theorem d_L_law_333 : decode code 333 = .ok (.iconst 1, 1) := by decide +kernel
theorem d_L_law_334 : decode code 334 = .ok (.iadd, 1) := by decide +kernel
theorem d_L_law_335 : decode code 335 = .ok (.iaload, 1) := by decide +kernel
theorem d_L_law_336 : decode code 336 = .ok (.aload_n 0, 1) := by decide +kernel
theorem d_L_law_337 : decode code 337 = .ok (.iload 4, 2) := by decide +kernel
theorem d_L_law_339 : decode code 339 = .ok (.iconst 2, 1) := by decide +kernel
theorem d_L_law_340 : decode code 340 = .ok (.iadd, 1) := by decide +kernel
theorem d_L_law_341 : decode code 341 = .ok (.iaload, 1) := by decide +kernel
theorem d_L_law_342 : decode code 342 = .ok (.aload_n 3, 1) := by decide +kernel
theorem d_L_law_343 : decode code 343 = .ok (.invokestatic 62, 3) := by decide +kernel
theorem d_L_law_346 : decode code 346 = .ok (.istore 5, 2) := by decide +kernel
theorem d_L_law_348 : decode code 348 = .ok (.aload_n 2, 1) := by decide +kernel
theorem d_L_law_349 : decode code 349 = .ok (.aload_n 0, 1) := by decide +kernel
theorem d_L_law_350 : decode code 350 = .ok (.iload 4, 2) := by decide +kernel
theorem d_L_law_352 : decode code 352 = .ok (.iconst 1, 1) := by decide +kernel
theorem d_L_law_353 : decode code 353 = .ok (.iadd, 1) := by decide +kernel
theorem d_L_law_354 : decode code 354 = .ok (.iaload, 1) := by decide +kernel
theorem d_L_law_355 : decode code 355 = .ok (.aload_n 0, 1) := by decide +kernel
theorem d_L_law_356 : decode code 356 = .ok (.iload 4, 2) := by decide +kernel
theorem d_L_law_358 : decode code 358 = .ok (.iconst 2, 1) := by decide +kernel
theorem d_L_law_359 : decode code 359 = .ok (.iadd, 1) := by decide +kernel
theorem d_L_law_360 : decode code 360 = .ok (.iaload, 1) := by decide +kernel
theorem d_L_law_361 : decode code 361 = .ok (.invokevirtual 64, 3) := by decide +kernel
theorem d_L_law_364 : decode code 364 = .ok (.istore 6, 2) := by decide +kernel
theorem d_L_law_366 : decode code 366 = .ok (.aload_n 2, 1) := by decide +kernel
theorem d_L_law_367 : decode code 367 = .ok (.invokevirtual 46, 3) := by decide +kernel
theorem d_L_law_370 : decode code 370 = .ok (.iload 5, 2) := by decide +kernel
theorem d_L_law_372 : decode code 372 = .ok (.if_icmp .eq 5, 3) := by decide +kernel
theorem d_L_law_375 : decode code 375 = .ok (.iconst 0, 1) := by decide +kernel
theorem d_L_law_376 : decode code 376 = .ok (.ireturn, 1) := by decide +kernel
theorem d_L_law_377 : decode code 377 = .ok (.iload 5, 2) := by decide +kernel
theorem d_L_law_379 : decode code 379 = .ok (.ifCond .ne 15, 3) := by decide +kernel
theorem d_L_law_382 : decode code 382 = .ok (.aload_n 3, 1) := by decide +kernel
theorem d_L_law_383 : decode code 383 = .ok (.iconst 0, 1) := by decide +kernel
theorem d_L_law_384 : decode code 384 = .ok (.laload, 1) := by decide +kernel
theorem d_L_law_385 : decode code 385 = .ok (.iload 6, 2) := by decide +kernel
theorem d_L_law_387 : decode code 387 = .ok (.i2l, 1) := by decide +kernel
theorem d_L_law_388 : decode code 388 = .ok (.lcmp, 1) := by decide +kernel
theorem d_L_law_389 : decode code 389 = .ok (.ifCond .eq 5, 3) := by decide +kernel
theorem d_L_law_392 : decode code 392 = .ok (.iconst 0, 1) := by decide +kernel
theorem d_L_law_393 : decode code 393 = .ok (.ireturn, 1) := by decide +kernel
theorem d_L_law_394 : decode code 394 = .ok (.goto 140, 3) := by decide +kernel
theorem d_L_law_397 : decode code 397 = .ok (.aload_n 1, 1) := by decide +kernel
theorem d_L_law_398 : decode code 398 = .ok (.aload_n 0, 1) := by decide +kernel
theorem d_L_law_399 : decode code 399 = .ok (.iload 4, 2) := by decide +kernel
theorem d_L_law_401 : decode code 401 = .ok (.iconst 1, 1) := by decide +kernel
theorem d_L_law_402 : decode code 402 = .ok (.iadd, 1) := by decide +kernel
theorem d_L_law_403 : decode code 403 = .ok (.iaload, 1) := by decide +kernel
theorem d_L_law_404 : decode code 404 = .ok (.aload_n 3, 1) := by decide +kernel
theorem d_L_law_405 : decode code 405 = .ok (.invokestatic 65, 3) := by decide +kernel
theorem d_L_law_408 : decode code 408 = .ok (.istore 5, 2) := by decide +kernel
theorem d_L_law_410 : decode code 410 = .ok (.aload_n 2, 1) := by decide +kernel
theorem d_L_law_411 : decode code 411 = .ok (.aload_n 0, 1) := by decide +kernel
theorem d_L_law_412 : decode code 412 = .ok (.iload 4, 2) := by decide +kernel
theorem d_L_law_414 : decode code 414 = .ok (.iconst 1, 1) := by decide +kernel
theorem d_L_law_415 : decode code 415 = .ok (.iadd, 1) := by decide +kernel
theorem d_L_law_416 : decode code 416 = .ok (.iaload, 1) := by decide +kernel
theorem d_L_law_417 : decode code 417 = .ok (.invokevirtual 67, 3) := by decide +kernel
theorem d_L_law_420 : decode code 420 = .ok (.istore 6, 2) := by decide +kernel
theorem d_L_law_422 : decode code 422 = .ok (.aload_n 2, 1) := by decide +kernel
theorem d_L_law_423 : decode code 423 = .ok (.invokevirtual 46, 3) := by decide +kernel
theorem d_L_law_426 : decode code 426 = .ok (.iload 5, 2) := by decide +kernel
theorem d_L_law_428 : decode code 428 = .ok (.if_icmp .eq 5, 3) := by decide +kernel
theorem d_L_law_431 : decode code 431 = .ok (.iconst 0, 1) := by decide +kernel
theorem d_L_law_432 : decode code 432 = .ok (.ireturn, 1) := by decide +kernel
theorem d_L_law_433 : decode code 433 = .ok (.iload 5, 2) := by decide +kernel
theorem d_L_law_435 : decode code 435 = .ok (.ifCond .ne 15, 3) := by decide +kernel
theorem d_L_law_438 : decode code 438 = .ok (.aload_n 3, 1) := by decide +kernel
theorem d_L_law_439 : decode code 439 = .ok (.iconst 0, 1) := by decide +kernel
theorem d_L_law_440 : decode code 440 = .ok (.laload, 1) := by decide +kernel
theorem d_L_law_441 : decode code 441 = .ok (.iload 6, 2) := by decide +kernel
theorem d_L_law_443 : decode code 443 = .ok (.i2l, 1) := by decide +kernel
theorem d_L_law_444 : decode code 444 = .ok (.lcmp, 1) := by decide +kernel
theorem d_L_law_445 : decode code 445 = .ok (.ifCond .eq 5, 3) := by decide +kernel
theorem d_L_law_448 : decode code 448 = .ok (.iconst 0, 1) := by decide +kernel
theorem d_L_law_449 : decode code 449 = .ok (.ireturn, 1) := by decide +kernel
theorem d_L_law_450 : decode code 450 = .ok (.goto 84, 3) := by decide +kernel
theorem d_L_law_453 : decode code 453 = .ok (.aload_n 1, 1) := by decide +kernel
theorem d_L_law_454 : decode code 454 = .ok (.aload_n 0, 1) := by decide +kernel
theorem d_L_law_455 : decode code 455 = .ok (.iload 4, 2) := by decide +kernel
theorem d_L_law_457 : decode code 457 = .ok (.iconst 1, 1) := by decide +kernel
theorem d_L_law_458 : decode code 458 = .ok (.iadd, 1) := by decide +kernel
theorem d_L_law_459 : decode code 459 = .ok (.iaload, 1) := by decide +kernel
theorem d_L_law_460 : decode code 460 = .ok (.aload_n 3, 1) := by decide +kernel
theorem d_L_law_461 : decode code 461 = .ok (.invokestatic 68, 3) := by decide +kernel
theorem d_L_law_464 : decode code 464 = .ok (.istore 5, 2) := by decide +kernel
theorem d_L_law_466 : decode code 466 = .ok (.aload_n 2, 1) := by decide +kernel
theorem d_L_law_467 : decode code 467 = .ok (.aload_n 0, 1) := by decide +kernel
theorem d_L_law_468 : decode code 468 = .ok (.iload 4, 2) := by decide +kernel
theorem d_L_law_470 : decode code 470 = .ok (.iconst 1, 1) := by decide +kernel
theorem d_L_law_471 : decode code 471 = .ok (.iadd, 1) := by decide +kernel
theorem d_L_law_472 : decode code 472 = .ok (.iaload, 1) := by decide +kernel
theorem d_L_law_473 : decode code 473 = .ok (.invokevirtual 70, 3) := by decide +kernel
theorem d_L_law_476 : decode code 476 = .ok (.istore 6, 2) := by decide +kernel
theorem d_L_law_478 : decode code 478 = .ok (.aload_n 2, 1) := by decide +kernel
theorem d_L_law_479 : decode code 479 = .ok (.invokevirtual 46, 3) := by decide +kernel
theorem d_L_law_482 : decode code 482 = .ok (.iload 5, 2) := by decide +kernel
theorem d_L_law_484 : decode code 484 = .ok (.if_icmp .eq 5, 3) := by decide +kernel
theorem d_L_law_487 : decode code 487 = .ok (.iconst 0, 1) := by decide +kernel
theorem d_L_law_488 : decode code 488 = .ok (.ireturn, 1) := by decide +kernel
theorem d_L_law_489 : decode code 489 = .ok (.iload 5, 2) := by decide +kernel
theorem d_L_law_491 : decode code 491 = .ok (.ifCond .ne 15, 3) := by decide +kernel
theorem d_L_law_494 : decode code 494 = .ok (.aload_n 3, 1) := by decide +kernel
theorem d_L_law_495 : decode code 495 = .ok (.iconst 0, 1) := by decide +kernel
theorem d_L_law_496 : decode code 496 = .ok (.laload, 1) := by decide +kernel
theorem d_L_law_497 : decode code 497 = .ok (.iload 6, 2) := by decide +kernel
theorem d_L_law_499 : decode code 499 = .ok (.i2l, 1) := by decide +kernel
theorem d_L_law_500 : decode code 500 = .ok (.lcmp, 1) := by decide +kernel
theorem d_L_law_501 : decode code 501 = .ok (.ifCond .eq 5, 3) := by decide +kernel
theorem d_L_law_504 : decode code 504 = .ok (.iconst 0, 1) := by decide +kernel
theorem d_L_law_505 : decode code 505 = .ok (.ireturn, 1) := by decide +kernel
theorem d_L_law_506 : decode code 506 = .ok (.goto 28, 3) := by decide +kernel
theorem d_L_law_509 : decode code 509 = .ok (.aload_n 1, 1) := by decide +kernel
theorem d_L_law_510 : decode code 510 = .ok (.aload_n 0, 1) := by decide +kernel
theorem d_L_law_511 : decode code 511 = .ok (.iload 4, 2) := by decide +kernel
theorem d_L_law_513 : decode code 513 = .ok (.iconst 1, 1) := by decide +kernel
theorem d_L_law_514 : decode code 514 = .ok (.iadd, 1) := by decide +kernel
theorem d_L_law_515 : decode code 515 = .ok (.iaload, 1) := by decide +kernel
theorem d_L_law_516 : decode code 516 = .ok (.invokevirtual 71, 3) := by decide +kernel
theorem d_L_law_519 : decode code 519 = .ok (.aload_n 2, 1) := by decide +kernel
theorem d_L_law_520 : decode code 520 = .ok (.aload_n 0, 1) := by decide +kernel
theorem d_L_law_521 : decode code 521 = .ok (.iload 4, 2) := by decide +kernel
theorem d_L_law_523 : decode code 523 = .ok (.iconst 1, 1) := by decide +kernel
theorem d_L_law_524 : decode code 524 = .ok (.iadd, 1) := by decide +kernel
theorem d_L_law_525 : decode code 525 = .ok (.iaload, 1) := by decide +kernel
theorem d_L_law_526 : decode code 526 = .ok (.invokevirtual 74, 3) := by decide +kernel
theorem d_L_law_529 : decode code 529 = .ok (.if_icmp .eq 5, 3) := by decide +kernel
theorem d_L_law_532 : decode code 532 = .ok (.iconst 0, 1) := by decide +kernel
theorem d_L_law_533 : decode code 533 = .ok (.ireturn, 1) := by decide +kernel
theorem d_L_law_534 : decode code 534 = .ok (.iinc 4 6, 3) := by decide +kernel
theorem d_L_law_537 : decode code 537 = .ok (.goto (-514), 3) := by decide +kernel
theorem d_L_law_540 : decode code 540 = .ok (.iconst 1, 1) := by decide +kernel
theorem d_L_law_541 : decode code 541 = .ok (.ireturn, 1) := by decide +kernel
