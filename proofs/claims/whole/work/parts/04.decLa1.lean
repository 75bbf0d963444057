theorem d_La_law_266 : decode b_La_law 266 = .ok (.iaload, 1) := by decide +kernel
theorem d_La_law_267 : decode b_La_law 267 = .ok (.aload_n 0, 1) := by decide +kernel
theorem d_La_law_268 : decode b_La_law 268 = .ok (.iload 4, 2) := by decide +kernel
theorem d_La_law_270 : decode b_La_law 270 = .ok (.iconst 3, 1) := by decide +kernel
theorem d_La_law_271 : decode b_La_law 271 = .ok (.iadd, 1) := by decide +kernel
theorem d_La_law_272 : decode b_La_law 272 = .ok (.iaload, 1) := by decide +kernel
theorem d_La_law_273 : decode b_La_law 273 = .ok (.aload_n 0, 1) := by decide +kernel
theorem d_La_law_274 : decode b_La_law 274 = .ok (.iload 4, 2) := by decide +kernel
theorem d_La_law_276 : decode b_La_law 276 = .ok (.iconst 4, 1) := by decide +kernel
theorem d_La_law_277 : decode b_La_law 277 = .ok (.iadd, 1) := by decide +kernel
theorem d_La_law_278 : decode b_La_law 278 = .ok (.iaload, 1) := by decide +kernel
theorem d_La_law_279 : decode b_La_law 279 = .ok (.invokevirtual 47, 3) := by decide +kernel
theorem d_La_law_282 : decode b_La_law 282 = .ok (.if_icmp .eq (506), 3) := by decide +kernel
theorem d_La_law_285 : decode b_La_law 285 = .ok (.iconst 0, 1) := by decide +kernel
theorem d_La_law_286 : decode b_La_law 286 = .ok (.ireturn, 1) := by decide +kernel
theorem d_La_law_287 : decode b_La_law 287 = .ok (.aload_n 1, 1) := by decide +kernel
theorem d_La_law_288 : decode b_La_law 288 = .ok (.aload_n 0, 1) := by decide +kernel
theorem d_La_law_289 : decode b_La_law 289 = .ok (.iload 4, 2) := by decide +kernel
theorem d_La_law_291 : decode b_La_law 291 = .ok (.iconst 1, 1) := by decide +kernel
theorem d_La_law_292 : decode b_La_law 292 = .ok (.iadd, 1) := by decide +kernel
theorem d_La_law_293 : decode b_La_law 293 = .ok (.iaload, 1) := by decide +kernel
theorem d_La_law_294 : decode b_La_law 294 = .ok (.invokevirtual 48, 3) := by decide +kernel
theorem d_La_law_297 : decode b_La_law 297 = .ok (.aload_n 2, 1) := by decide +kernel
theorem d_La_law_298 : decode b_La_law 298 = .ok (.aload_n 0, 1) := by decide +kernel
theorem d_La_law_299 : decode b_La_law 299 = .ok (.iload 4, 2) := by decide +kernel
theorem d_La_law_301 : decode b_La_law 301 = .ok (.iconst 1, 1) := by decide +kernel
theorem d_La_law_302 : decode b_La_law 302 = .ok (.iadd, 1) := by decide +kernel
theorem d_La_law_303 : decode b_La_law 303 = .ok (.iaload, 1) := by decide +kernel
theorem d_La_law_304 : decode b_La_law 304 = .ok (.invokevirtual 51, 3) := by decide +kernel
theorem d_La_law_307 : decode b_La_law 307 = .ok (.if_icmp .eq (481), 3) := by decide +kernel
theorem d_La_law_310 : decode b_La_law 310 = .ok (.iconst 0, 1) := by decide +kernel
theorem d_La_law_311 : decode b_La_law 311 = .ok (.ireturn, 1) := by decide +kernel
theorem d_La_law_312 : decode b_La_law 312 = .ok (.aload_n 1, 1) := by decide +kernel
theorem d_La_law_313 : decode b_La_law 313 = .ok (.aload_n 0, 1) := by decide +kernel
theorem d_La_law_314 : decode b_La_law 314 = .ok (.iload 4, 2) := by decide +kernel
theorem d_La_law_316 : decode b_La_law 316 = .ok (.iconst 1, 1) := by decide +kernel
theorem d_La_law_317 : decode b_La_law 317 = .ok (.iadd, 1) := by decide +kernel
theorem d_La_law_318 : decode b_La_law 318 = .ok (.iaload, 1) := by decide +kernel
theorem d_La_law_319 : decode b_La_law 319 = .ok (.aload_n 0, 1) := by decide +kernel
theorem d_La_law_320 : decode b_La_law 320 = .ok (.iload 4, 2) := by decide +kernel
theorem d_La_law_322 : decode b_La_law 322 = .ok (.iconst 2, 1) := by decide +kernel
theorem d_La_law_323 : decode b_La_law 323 = .ok (.iadd, 1) := by decide +kernel
theorem d_La_law_324 : decode b_La_law 324 = .ok (.iaload, 1) := by decide +kernel
theorem d_La_law_325 : decode b_La_law 325 = .ok (.invokevirtual 52, 3) := by decide +kernel
theorem d_La_law_328 : decode b_La_law 328 = .ok (.aload_n 2, 1) := by decide +kernel
theorem d_La_law_329 : decode b_La_law 329 = .ok (.aload_n 0, 1) := by decide +kernel
theorem d_La_law_330 : decode b_La_law 330 = .ok (.iload 4, 2) := by decide +kernel
theorem d_La_law_332 : decode b_La_law 332 = .ok (.iconst 1, 1) := by decide +kernel
theorem d_La_law_333 : decode b_La_law 333 = .ok (.iadd, 1) := by decide +kernel
theorem d_La_law_334 : decode b_La_law 334 = .ok (.iaload, 1) := by decide +kernel
theorem d_La_law_335 : decode b_La_law 335 = .ok (.aload_n 0, 1) := by decide +kernel
theorem d_La_law_336 : decode b_La_law 336 = .ok (.iload 4, 2) := by decide +kernel
theorem d_La_law_338 : decode b_La_law 338 = .ok (.iconst 2, 1) := by decide +kernel
theorem d_La_law_339 : decode b_La_law 339 = .ok (.iadd, 1) := by decide +kernel
theorem d_La_law_340 : decode b_La_law 340 = .ok (.iaload, 1) := by decide +kernel
theorem d_La_law_341 : decode b_La_law 341 = .ok (.invokevirtual 55, 3) := by decide +kernel
theorem d_La_law_344 : decode b_La_law 344 = .ok (.if_icmp .eq (444), 3) := by decide +kernel
theorem d_La_law_347 : decode b_La_law 347 = .ok (.iconst 0, 1) := by decide +kernel
theorem d_La_law_348 : decode b_La_law 348 = .ok (.ireturn, 1) := by decide +kernel
theorem d_La_law_349 : decode b_La_law 349 = .ok (.aload_n 1, 1) := by decide +kernel
theorem d_La_law_350 : decode b_La_law 350 = .ok (.aload_n 0, 1) := by decide +kernel
theorem d_La_law_351 : decode b_La_law 351 = .ok (.iload 4, 2) := by decide +kernel
theorem d_La_law_353 : decode b_La_law 353 = .ok (.iconst 1, 1) := by decide +kernel
theorem d_La_law_354 : decode b_La_law 354 = .ok (.iadd, 1) := by decide +kernel
theorem d_La_law_355 : decode b_La_law 355 = .ok (.iaload, 1) := by decide +kernel
theorem d_La_law_356 : decode b_La_law 356 = .ok (.aload_n 0, 1) := by decide +kernel
theorem d_La_law_357 : decode b_La_law 357 = .ok (.iload 4, 2) := by decide +kernel
theorem d_La_law_359 : decode b_La_law 359 = .ok (.iconst 2, 1) := by decide +kernel
theorem d_La_law_360 : decode b_La_law 360 = .ok (.iadd, 1) := by decide +kernel
theorem d_La_law_361 : decode b_La_law 361 = .ok (.iaload, 1) := by decide +kernel
theorem d_La_law_362 : decode b_La_law 362 = .ok (.aload_n 0, 1) := by decide +kernel
theorem d_La_law_363 : decode b_La_law 363 = .ok (.iload 4, 2) := by decide +kernel
theorem d_La_law_365 : decode b_La_law 365 = .ok (.iconst 3, 1) := by decide +kernel
theorem d_La_law_366 : decode b_La_law 366 = .ok (.iadd, 1) := by decide +kernel
theorem d_La_law_367 : decode b_La_law 367 = .ok (.iaload, 1) := by decide +kernel
theorem d_La_law_368 : decode b_La_law 368 = .ok (.aload_n 0, 1) := by decide +kernel
theorem d_La_law_369 : decode b_La_law 369 = .ok (.iload 4, 2) := by decide +kernel
theorem d_La_law_371 : decode b_La_law 371 = .ok (.iconst 4, 1) := by decide +kernel
theorem d_La_law_372 : decode b_La_law 372 = .ok (.iadd, 1) := by decide +kernel
theorem d_La_law_373 : decode b_La_law 373 = .ok (.iaload, 1) := by decide +kernel
theorem d_La_law_374 : decode b_La_law 374 = .ok (.aload_n 3, 1) := by decide +kernel
theorem d_La_law_375 : decode b_La_law 375 = .ok (.invokestatic 56, 3) := by decide +kernel
theorem d_La_law_378 : decode b_La_law 378 = .ok (.istore 5, 2) := by decide +kernel
theorem d_La_law_380 : decode b_La_law 380 = .ok (.aload_n 2, 1) := by decide +kernel
theorem d_La_law_381 : decode b_La_law 381 = .ok (.aload_n 0, 1) := by decide +kernel
theorem d_La_law_382 : decode b_La_law 382 = .ok (.iload 4, 2) := by decide +kernel
theorem d_La_law_384 : decode b_La_law 384 = .ok (.iconst 1, 1) := by decide +kernel
theorem d_La_law_385 : decode b_La_law 385 = .ok (.iadd, 1) := by decide +kernel
theorem d_La_law_386 : decode b_La_law 386 = .ok (.iaload, 1) := by decide +kernel
theorem d_La_law_387 : decode b_La_law 387 = .ok (.aload_n 0, 1) := by decide +kernel
theorem d_La_law_388 : decode b_La_law 388 = .ok (.iload 4, 2) := by decide +kernel
theorem d_La_law_390 : decode b_La_law 390 = .ok (.iconst 2, 1) := by decide +kernel
theorem d_La_law_391 : decode b_La_law 391 = .ok (.iadd, 1) := by decide +kernel
theorem d_La_law_392 : decode b_La_law 392 = .ok (.iaload, 1) := by decide +kernel
theorem d_La_law_393 : decode b_La_law 393 = .ok (.aload_n 0, 1) := by decide +kernel
theorem d_La_law_394 : decode b_La_law 394 = .ok (.iload 4, 2) := by decide +kernel
theorem d_La_law_396 : decode b_La_law 396 = .ok (.iconst 3, 1) := by decide +kernel
theorem d_La_law_397 : decode b_La_law 397 = .ok (.iadd, 1) := by decide +kernel
theorem d_La_law_398 : decode b_La_law 398 = .ok (.iaload, 1) := by decide +kernel
theorem d_La_law_399 : decode b_La_law 399 = .ok (.aload_n 0, 1) := by decide +kernel
theorem d_La_law_400 : decode b_La_law 400 = .ok (.iload 4, 2) := by decide +kernel
theorem d_La_law_402 : decode b_La_law 402 = .ok (.iconst 4, 1) := by decide +kernel
theorem d_La_law_403 : decode b_La_law 403 = .ok (.iadd, 1) := by decide +kernel
theorem d_La_law_404 : decode b_La_law 404 = .ok (.iaload, 1) := by decide +kernel
theorem d_La_law_405 : decode b_La_law 405 = .ok (.invokevirtual 61, 3) := by decide +kernel
theorem d_La_law_408 : decode b_La_law 408 = .ok (.istore 6, 2) := by decide +kernel
theorem d_La_law_410 : decode b_La_law 410 = .ok (.aload_n 2, 1) := by decide +kernel
theorem d_La_law_411 : decode b_La_law 411 = .ok (.invokevirtual 62, 3) := by decide +kernel
theorem d_La_law_414 : decode b_La_law 414 = .ok (.iload 5, 2) := by decide +kernel
theorem d_La_law_416 : decode b_La_law 416 = .ok (.if_icmp .eq (5), 3) := by decide +kernel
theorem d_La_law_419 : decode b_La_law 419 = .ok (.iconst 0, 1) := by decide +kernel
theorem d_La_law_420 : decode b_La_law 420 = .ok (.ireturn, 1) := by decide +kernel
theorem d_La_law_421 : decode b_La_law 421 = .ok (.iload 5, 2) := by decide +kernel
theorem d_La_law_423 : decode b_La_law 423 = .ok (.ifCond .ne (22), 3) := by decide +kernel
theorem d_La_law_426 : decode b_La_law 426 = .ok (.aload_n 3, 1) := by decide +kernel
theorem d_La_law_427 : decode b_La_law 427 = .ok (.iconst 0, 1) := by decide +kernel
theorem d_La_law_428 : decode b_La_law 428 = .ok (.laload, 1) := by decide +kernel
theorem d_La_law_429 : decode b_La_law 429 = .ok (.iload 6, 2) := by decide +kernel
theorem d_La_law_431 : decode b_La_law 431 = .ok (.ifCond .eq (7), 3) := by decide +kernel
theorem d_La_law_434 : decode b_La_law 434 = .ok (.lconst 1, 1) := by decide +kernel
theorem d_La_law_435 : decode b_La_law 435 = .ok (.goto (4), 3) := by decide +kernel
theorem d_La_law_438 : decode b_La_law 438 = .ok (.lconst 0, 1) := by decide +kernel
theorem d_La_law_439 : decode b_La_law 439 = .ok (.lcmp, 1) := by decide +kernel
theorem d_La_law_440 : decode b_La_law 440 = .ok (.ifCond .eq (5), 3) := by decide +kernel
theorem d_La_law_443 : decode b_La_law 443 = .ok (.iconst 0, 1) := by decide +kernel
theorem d_La_law_444 : decode b_La_law 444 = .ok (.ireturn, 1) := by decide +kernel
theorem d_La_law_445 : decode b_La_law 445 = .ok (.goto (343), 3) := by decide +kernel
theorem d_La_law_448 : decode b_La_law 448 = .ok (.aload_n 1, 1) := by decide +kernel
theorem d_La_law_449 : decode b_La_law 449 = .ok (.aload_n 0, 1) := by decide +kernel
theorem d_La_law_450 : decode b_La_law 450 = .ok (.iload 4, 2) := by decide +kernel
theorem d_La_law_452 : decode b_La_law 452 = .ok (.iconst 1, 1) := by decide +kernel
theorem d_La_law_453 : decode b_La_law 453 = .ok (.iadd, 1) := by decide +kernel
theorem d_La_law_454 : decode b_La_law 454 = .ok (.iaload, 1) := by decide +kernel
theorem d_La_law_455 : decode b_La_law 455 = .ok (.invokevirtual 66, 3) := by decide +kernel
theorem d_La_law_458 : decode b_La_law 458 = .ok (.aload_n 2, 1) := by decide +kernel
theorem d_La_law_459 : decode b_La_law 459 = .ok (.aload_n 0, 1) := by decide +kernel
theorem d_La_law_460 : decode b_La_law 460 = .ok (.iload 4, 2) := by decide +kernel
theorem d_La_law_462 : decode b_La_law 462 = .ok (.iconst 1, 1) := by decide +kernel
theorem d_La_law_463 : decode b_La_law 463 = .ok (.iadd, 1) := by decide +kernel
theorem d_La_law_464 : decode b_La_law 464 = .ok (.iaload, 1) := by decide +kernel
theorem d_La_law_465 : decode b_La_law 465 = .ok (.invokevirtual 69, 3) := by decide +kernel
theorem d_La_law_468 : decode b_La_law 468 = .ok (.if_icmp .eq (320), 3) := by decide +kernel
theorem d_La_law_471 : decode b_La_law 471 = .ok (.iconst 0, 1) := by decide +kernel
theorem d_La_law_472 : decode b_La_law 472 = .ok (.ireturn, 1) := by decide +kernel
theorem d_La_law_473 : decode b_La_law 473 = .ok (.aload_n 1, 1) := by decide +kernel
theorem d_La_law_474 : decode b_La_law 474 = .ok (.aload_n 0, 1) := by decide +kernel
theorem d_La_law_475 : decode b_La_law 475 = .ok (.iload 4, 2) := by decide +kernel
theorem d_La_law_477 : decode b_La_law 477 = .ok (.iconst 1, 1) := by decide +kernel
theorem d_La_law_478 : decode b_La_law 478 = .ok (.iadd, 1) := by decide +kernel
theorem d_La_law_479 : decode b_La_law 479 = .ok (.iaload, 1) := by decide +kernel
theorem d_La_law_480 : decode b_La_law 480 = .ok (.aload_n 0, 1) := by decide +kernel
theorem d_La_law_481 : decode b_La_law 481 = .ok (.iload 4, 2) := by decide +kernel
theorem d_La_law_483 : decode b_La_law 483 = .ok (.iconst 2, 1) := by decide +kernel
theorem d_La_law_484 : decode b_La_law 484 = .ok (.iadd, 1) := by decide +kernel
theorem d_La_law_485 : decode b_La_law 485 = .ok (.iaload, 1) := by decide +kernel
theorem d_La_law_486 : decode b_La_law 486 = .ok (.invokevirtual 70, 3) := by decide +kernel
theorem d_La_law_489 : decode b_La_law 489 = .ok (.aload_n 2, 1) := by decide +kernel
theorem d_La_law_490 : decode b_La_law 490 = .ok (.aload_n 0, 1) := by decide +kernel
theorem d_La_law_491 : decode b_La_law 491 = .ok (.iload 4, 2) := by decide +kernel
theorem d_La_law_493 : decode b_La_law 493 = .ok (.iconst 1, 1) := by decide +kernel
theorem d_La_law_494 : decode b_La_law 494 = .ok (.iadd, 1) := by decide +kernel
theorem d_La_law_495 : decode b_La_law 495 = .ok (.iaload, 1) := by decide +kernel
theorem d_La_law_496 : decode b_La_law 496 = .ok (.aload_n 0, 1) := by decide +kernel
theorem d_La_law_497 : decode b_La_law 497 = .ok (.iload 4, 2) := by decide +kernel
theorem d_La_law_499 : decode b_La_law 499 = .ok (.iconst 2, 1) := by decide +kernel
theorem d_La_law_500 : decode b_La_law 500 = .ok (.iadd, 1) := by decide +kernel
theorem d_La_law_501 : decode b_La_law 501 = .ok (.iaload, 1) := by decide +kernel
theorem d_La_law_502 : decode b_La_law 502 = .ok (.invokevirtual 73, 3) := by decide +kernel
theorem d_La_law_505 : decode b_La_law 505 = .ok (.if_icmp .eq (283), 3) := by decide +kernel
theorem d_La_law_508 : decode b_La_law 508 = .ok (.iconst 0, 1) := by decide +kernel
theorem d_La_law_509 : decode b_La_law 509 = .ok (.ireturn, 1) := by decide +kernel
theorem d_La_law_510 : decode b_La_law 510 = .ok (.aload_n 1, 1) := by decide +kernel
theorem d_La_law_511 : decode b_La_law 511 = .ok (.aload_n 0, 1) := by decide +kernel
theorem d_La_law_512 : decode b_La_law 512 = .ok (.iload 4, 2) := by decide +kernel
theorem d_La_law_514 : decode b_La_law 514 = .ok (.iconst 1, 1) := by decide +kernel
theorem d_La_law_515 : decode b_La_law 515 = .ok (.iadd, 1) := by decide +kernel
theorem d_La_law_516 : decode b_La_law 516 = .ok (.iaload, 1) := by decide +kernel
theorem d_La_law_517 : decode b_La_law 517 = .ok (.invokevirtual 74, 3) := by decide +kernel
theorem d_La_law_520 : decode b_La_law 520 = .ok (.aload_n 2, 1) := by decide +kernel
theorem d_La_law_521 : decode b_La_law 521 = .ok (.aload_n 0, 1) := by decide +kernel
theorem d_La_law_522 : decode b_La_law 522 = .ok (.iload 4, 2) := by decide +kernel
theorem d_La_law_524 : decode b_La_law 524 = .ok (.iconst 1, 1) := by decide +kernel
theorem d_La_law_525 : decode b_La_law 525 = .ok (.iadd, 1) := by decide +kernel
theorem d_La_law_526 : decode b_La_law 526 = .ok (.iaload, 1) := by decide +kernel
theorem d_La_law_527 : decode b_La_law 527 = .ok (.invokevirtual 77, 3) := by decide +kernel
theorem d_La_law_530 : decode b_La_law 530 = .ok (.if_icmp .eq (258), 3) := by decide +kernel
theorem d_La_law_533 : decode b_La_law 533 = .ok (.iconst 0, 1) := by decide +kernel
theorem d_La_law_534 : decode b_La_law 534 = .ok (.ireturn, 1) := by decide +kernel
theorem d_La_law_535 : decode b_La_law 535 = .ok (.aload_n 1, 1) := by decide +kernel
theorem d_La_law_536 : decode b_La_law 536 = .ok (.aload_n 0, 1) := by decide +kernel
theorem d_La_law_537 : decode b_La_law 537 = .ok (.iload 4, 2) := by decide +kernel
theorem d_La_law_539 : decode b_La_law 539 = .ok (.iconst 1, 1) := by decide +kernel
theorem d_La_law_540 : decode b_La_law 540 = .ok (.iadd, 1) := by decide +kernel
theorem d_La_law_541 : decode b_La_law 541 = .ok (.iaload, 1) := by decide +kernel
theorem d_La_law_542 : decode b_La_law 542 = .ok (.aload_n 3, 1) := by decide +kernel
theorem d_La_law_543 : decode b_La_law 543 = .ok (.invokestatic 78, 3) := by decide +kernel
theorem d_La_law_546 : decode b_La_law 546 = .ok (.istore 5, 2) := by decide +kernel
theorem d_La_law_548 : decode b_La_law 548 = .ok (.aload_n 2, 1) := by decide +kernel
theorem d_La_law_549 : decode b_La_law 549 = .ok (.aload_n 0, 1) := by decide +kernel
theorem d_La_law_550 : decode b_La_law 550 = .ok (.iload 4, 2) := by decide +kernel
