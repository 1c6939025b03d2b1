theorem d_X6_init_279 : decode prog_8_method_1_code 279 = .ok (.iastore, 1) := by decide +kernel
theorem d_X6_init_280 : decode prog_8_method_1_code 280 = .ok (.dup, 1) := by decide +kernel
theorem d_X6_init_281 : decode prog_8_method_1_code 281 = .ok (.iconst 3, 1) := by decide +kernel
theorem d_X6_init_282 : decode prog_8_method_1_code 282 = .ok (.bipush 116, 2) := by decide +kernel
theorem d_X6_init_284 : decode prog_8_method_1_code 284 = .ok (.iastore, 1) := by decide +kernel
theorem d_X6_init_285 : decode prog_8_method_1_code 285 = .ok (.dup, 1) := by decide +kernel
theorem d_X6_init_286 : decode prog_8_method_1_code 286 = .ok (.iconst 4, 1) := by decide +kernel
theorem d_X6_init_287 : decode prog_8_method_1_code 287 = .ok (.bipush 115, 2) := by decide +kernel
theorem d_X6_init_289 : decode prog_8_method_1_code 289 = .ok (.iastore, 1) := by decide +kernel
theorem d_X6_init_290 : decode prog_8_method_1_code 290 = .ok (.dup, 1) := by decide +kernel
theorem d_X6_init_291 : decode prog_8_method_1_code 291 = .ok (.iconst 5, 1) := by decide +kernel
theorem d_X6_init_292 : decode prog_8_method_1_code 292 = .ok (.bipush 32, 2) := by decide +kernel
theorem d_X6_init_294 : decode prog_8_method_1_code 294 = .ok (.iastore, 1) := by decide +kernel
theorem d_X6_init_295 : decode prog_8_method_1_code 295 = .ok (.dup, 1) := by decide +kernel
theorem d_X6_init_296 : decode prog_8_method_1_code 296 = .ok (.bipush 6, 2) := by decide +kernel
theorem d_X6_init_298 : decode prog_8_method_1_code 298 = .ok (.bipush 49, 2) := by decide +kernel
theorem d_X6_init_300 : decode prog_8_method_1_code 300 = .ok (.iastore, 1) := by decide +kernel
theorem d_X6_init_301 : decode prog_8_method_1_code 301 = .ok (.dup, 1) := by decide +kernel
theorem d_X6_init_302 : decode prog_8_method_1_code 302 = .ok (.bipush 7, 2) := by decide +kernel
theorem d_X6_init_304 : decode prog_8_method_1_code 304 = .ok (.bipush 48, 2) := by decide +kernel
theorem d_X6_init_306 : decode prog_8_method_1_code 306 = .ok (.iastore, 1) := by decide +kernel
theorem d_X6_init_307 : decode prog_8_method_1_code 307 = .ok (.dup, 1) := by decide +kernel
theorem d_X6_init_308 : decode prog_8_method_1_code 308 = .ok (.bipush 8, 2) := by decide +kernel
theorem d_X6_init_310 : decode prog_8_method_1_code 310 = .ok (.bipush 32, 2) := by decide +kernel
theorem d_X6_init_312 : decode prog_8_method_1_code 312 = .ok (.iastore, 1) := by decide +kernel
theorem d_X6_init_313 : decode prog_8_method_1_code 313 = .ok (.dup, 1) := by decide +kernel
theorem d_X6_init_314 : decode prog_8_method_1_code 314 = .ok (.bipush 9, 2) := by decide +kernel
theorem d_X6_init_316 : decode prog_8_method_1_code 316 = .ok (.bipush 59, 2) := by decide +kernel
theorem d_X6_init_318 : decode prog_8_method_1_code 318 = .ok (.iastore, 1) := by decide +kernel
theorem d_X6_init_319 : decode prog_8_method_1_code 319 = .ok (.dup, 1) := by decide +kernel
theorem d_X6_init_320 : decode prog_8_method_1_code 320 = .ok (.bipush 10, 2) := by decide +kernel
theorem d_X6_init_322 : decode prog_8_method_1_code 322 = .ok (.bipush 32, 2) := by decide +kernel
theorem d_X6_init_324 : decode prog_8_method_1_code 324 = .ok (.iastore, 1) := by decide +kernel
theorem d_X6_init_325 : decode prog_8_method_1_code 325 = .ok (.dup, 1) := by decide +kernel
theorem d_X6_init_326 : decode prog_8_method_1_code 326 = .ok (.bipush 11, 2) := by decide +kernel
theorem d_X6_init_328 : decode prog_8_method_1_code 328 = .ok (.bipush 102, 2) := by decide +kernel
theorem d_X6_init_330 : decode prog_8_method_1_code 330 = .ok (.iastore, 1) := by decide +kernel
theorem d_X6_init_331 : decode prog_8_method_1_code 331 = .ok (.dup, 1) := by decide +kernel
theorem d_X6_init_332 : decode prog_8_method_1_code 332 = .ok (.bipush 12, 2) := by decide +kernel
theorem d_X6_init_334 : decode prog_8_method_1_code 334 = .ok (.bipush 101, 2) := by decide +kernel
theorem d_X6_init_336 : decode prog_8_method_1_code 336 = .ok (.iastore, 1) := by decide +kernel
theorem d_X6_init_337 : decode prog_8_method_1_code 337 = .ok (.dup, 1) := by decide +kernel
theorem d_X6_init_338 : decode prog_8_method_1_code 338 = .ok (.bipush 13, 2) := by decide +kernel
theorem d_X6_init_340 : decode prog_8_method_1_code 340 = .ok (.bipush 101, 2) := by decide +kernel
theorem d_X6_init_342 : decode prog_8_method_1_code 342 = .ok (.iastore, 1) := by decide +kernel
theorem d_X6_init_343 : decode prog_8_method_1_code 343 = .ok (.dup, 1) := by decide +kernel
theorem d_X6_init_344 : decode prog_8_method_1_code 344 = .ok (.bipush 14, 2) := by decide +kernel
theorem d_X6_init_346 : decode prog_8_method_1_code 346 = .ok (.bipush 108, 2) := by decide +kernel
theorem d_X6_init_348 : decode prog_8_method_1_code 348 = .ok (.iastore, 1) := by decide +kernel
theorem d_X6_init_349 : decode prog_8_method_1_code 349 = .ok (.dup, 1) := by decide +kernel
theorem d_X6_init_350 : decode prog_8_method_1_code 350 = .ok (.bipush 15, 2) := by decide +kernel
theorem d_X6_init_352 : decode prog_8_method_1_code 352 = .ok (.bipush 115, 2) := by decide +kernel
theorem d_X6_init_354 : decode prog_8_method_1_code 354 = .ok (.iastore, 1) := by decide +kernel
theorem d_X6_init_355 : decode prog_8_method_1_code 355 = .ok (.dup, 1) := by decide +kernel
theorem d_X6_init_356 : decode prog_8_method_1_code 356 = .ok (.bipush 16, 2) := by decide +kernel
theorem d_X6_init_358 : decode prog_8_method_1_code 358 = .ok (.bipush 32, 2) := by decide +kernel
theorem d_X6_init_360 : decode prog_8_method_1_code 360 = .ok (.iastore, 1) := by decide +kernel
theorem d_X6_init_361 : decode prog_8_method_1_code 361 = .ok (.dup, 1) := by decide +kernel
theorem d_X6_init_362 : decode prog_8_method_1_code 362 = .ok (.bipush 17, 2) := by decide +kernel
theorem d_X6_init_364 : decode prog_8_method_1_code 364 = .ok (.bipush 119, 2) := by decide +kernel
theorem d_X6_init_366 : decode prog_8_method_1_code 366 = .ok (.iastore, 1) := by decide +kernel
theorem d_X6_init_367 : decode prog_8_method_1_code 367 = .ok (.dup, 1) := by decide +kernel
theorem d_X6_init_368 : decode prog_8_method_1_code 368 = .ok (.bipush 18, 2) := by decide +kernel
theorem d_X6_init_370 : decode prog_8_method_1_code 370 = .ok (.bipush 101, 2) := by decide +kernel
theorem d_X6_init_372 : decode prog_8_method_1_code 372 = .ok (.iastore, 1) := by decide +kernel
theorem d_X6_init_373 : decode prog_8_method_1_code 373 = .ok (.dup, 1) := by decide +kernel
theorem d_X6_init_374 : decode prog_8_method_1_code 374 = .ok (.bipush 19, 2) := by decide +kernel
theorem d_X6_init_376 : decode prog_8_method_1_code 376 = .ok (.bipush 105, 2) := by decide +kernel
theorem d_X6_init_378 : decode prog_8_method_1_code 378 = .ok (.iastore, 1) := by decide +kernel
theorem d_X6_init_379 : decode prog_8_method_1_code 379 = .ok (.dup, 1) := by decide +kernel
theorem d_X6_init_380 : decode prog_8_method_1_code 380 = .ok (.bipush 20, 2) := by decide +kernel
theorem d_X6_init_382 : decode prog_8_method_1_code 382 = .ok (.bipush 103, 2) := by decide +kernel
theorem d_X6_init_384 : decode prog_8_method_1_code 384 = .ok (.iastore, 1) := by decide +kernel
theorem d_X6_init_385 : decode prog_8_method_1_code 385 = .ok (.dup, 1) := by decide +kernel
theorem d_X6_init_386 : decode prog_8_method_1_code 386 = .ok (.bipush 21, 2) := by decide +kernel
theorem d_X6_init_388 : decode prog_8_method_1_code 388 = .ok (.bipush 104, 2) := by decide +kernel
theorem d_X6_init_390 : decode prog_8_method_1_code 390 = .ok (.iastore, 1) := by decide +kernel
theorem d_X6_init_391 : decode prog_8_method_1_code 391 = .ok (.dup, 1) := by decide +kernel
theorem d_X6_init_392 : decode prog_8_method_1_code 392 = .ok (.bipush 22, 2) := by decide +kernel
theorem d_X6_init_394 : decode prog_8_method_1_code 394 = .ok (.bipush 116, 2) := by decide +kernel
theorem d_X6_init_396 : decode prog_8_method_1_code 396 = .ok (.iastore, 1) := by decide +kernel
theorem d_X6_init_397 : decode prog_8_method_1_code 397 = .ok (.dup, 1) := by decide +kernel
theorem d_X6_init_398 : decode prog_8_method_1_code 398 = .ok (.bipush 23, 2) := by decide +kernel
theorem d_X6_init_400 : decode prog_8_method_1_code 400 = .ok (.bipush 32, 2) := by decide +kernel
theorem d_X6_init_402 : decode prog_8_method_1_code 402 = .ok (.iastore, 1) := by decide +kernel
theorem d_X6_init_403 : decode prog_8_method_1_code 403 = .ok (.dup, 1) := by decide +kernel
theorem d_X6_init_404 : decode prog_8_method_1_code 404 = .ok (.bipush 24, 2) := by decide +kernel
theorem d_X6_init_406 : decode prog_8_method_1_code 406 = .ok (.bipush 59, 2) := by decide +kernel
theorem d_X6_init_408 : decode prog_8_method_1_code 408 = .ok (.iastore, 1) := by decide +kernel
theorem d_X6_init_409 : decode prog_8_method_1_code 409 = .ok (.dup, 1) := by decide +kernel
theorem d_X6_init_410 : decode prog_8_method_1_code 410 = .ok (.bipush 25, 2) := by decide +kernel
theorem d_X6_init_412 : decode prog_8_method_1_code 412 = .ok (.bipush 32, 2) := by decide +kernel
theorem d_X6_init_414 : decode prog_8_method_1_code 414 = .ok (.iastore, 1) := by decide +kernel
theorem d_X6_init_415 : decode prog_8_method_1_code 415 = .ok (.dup, 1) := by decide +kernel
theorem d_X6_init_416 : decode prog_8_method_1_code 416 = .ok (.bipush 26, 2) := by decide +kernel
theorem d_X6_init_418 : decode prog_8_method_1_code 418 = .ok (.bipush 99, 2) := by decide +kernel
theorem d_X6_init_420 : decode prog_8_method_1_code 420 = .ok (.iastore, 1) := by decide +kernel
theorem d_X6_init_421 : decode prog_8_method_1_code 421 = .ok (.dup, 1) := by decide +kernel
theorem d_X6_init_422 : decode prog_8_method_1_code 422 = .ok (.bipush 27, 2) := by decide +kernel
theorem d_X6_init_424 : decode prog_8_method_1_code 424 = .ok (.bipush 104, 2) := by decide +kernel
theorem d_X6_init_426 : decode prog_8_method_1_code 426 = .ok (.iastore, 1) := by decide +kernel
theorem d_X6_init_427 : decode prog_8_method_1_code 427 = .ok (.dup, 1) := by decide +kernel
theorem d_X6_init_428 : decode prog_8_method_1_code 428 = .ok (.bipush 28, 2) := by decide +kernel
theorem d_X6_init_430 : decode prog_8_method_1_code 430 = .ok (.bipush 105, 2) := by decide +kernel
theorem d_X6_init_432 : decode prog_8_method_1_code 432 = .ok (.iastore, 1) := by decide +kernel
theorem d_X6_init_433 : decode prog_8_method_1_code 433 = .ok (.dup, 1) := by decide +kernel
theorem d_X6_init_434 : decode prog_8_method_1_code 434 = .ok (.bipush 29, 2) := by decide +kernel
theorem d_X6_init_436 : decode prog_8_method_1_code 436 = .ok (.bipush 108, 2) := by decide +kernel
theorem d_X6_init_438 : decode prog_8_method_1_code 438 = .ok (.iastore, 1) := by decide +kernel
theorem d_X6_init_439 : decode prog_8_method_1_code 439 = .ok (.dup, 1) := by decide +kernel
theorem d_X6_init_440 : decode prog_8_method_1_code 440 = .ok (.bipush 30, 2) := by decide +kernel
theorem d_X6_init_442 : decode prog_8_method_1_code 442 = .ok (.bipush 108, 2) := by decide +kernel
theorem d_X6_init_444 : decode prog_8_method_1_code 444 = .ok (.iastore, 1) := by decide +kernel
theorem d_X6_init_445 : decode prog_8_method_1_code 445 = .ok (.dup, 1) := by decide +kernel
theorem d_X6_init_446 : decode prog_8_method_1_code 446 = .ok (.bipush 31, 2) := by decide +kernel
theorem d_X6_init_448 : decode prog_8_method_1_code 448 = .ok (.bipush 115, 2) := by decide +kernel
theorem d_X6_init_450 : decode prog_8_method_1_code 450 = .ok (.iastore, 1) := by decide +kernel
theorem d_X6_init_451 : decode prog_8_method_1_code 451 = .ok (.dup, 1) := by decide +kernel
theorem d_X6_init_452 : decode prog_8_method_1_code 452 = .ok (.bipush 32, 2) := by decide +kernel
theorem d_X6_init_454 : decode prog_8_method_1_code 454 = .ok (.bipush 32, 2) := by decide +kernel
theorem d_X6_init_456 : decode prog_8_method_1_code 456 = .ok (.iastore, 1) := by decide +kernel
theorem d_X6_init_457 : decode prog_8_method_1_code 457 = .ok (.dup, 1) := by decide +kernel
theorem d_X6_init_458 : decode prog_8_method_1_code 458 = .ok (.bipush 33, 2) := by decide +kernel
theorem d_X6_init_460 : decode prog_8_method_1_code 460 = .ok (.bipush 53, 2) := by decide +kernel
theorem d_X6_init_462 : decode prog_8_method_1_code 462 = .ok (.iastore, 1) := by decide +kernel
theorem d_X6_init_463 : decode prog_8_method_1_code 463 = .ok (.dup, 1) := by decide +kernel
theorem d_X6_init_464 : decode prog_8_method_1_code 464 = .ok (.bipush 34, 2) := by decide +kernel
theorem d_X6_init_466 : decode prog_8_method_1_code 466 = .ok (.bipush 32, 2) := by decide +kernel
theorem d_X6_init_468 : decode prog_8_method_1_code 468 = .ok (.iastore, 1) := by decide +kernel
theorem d_X6_init_469 : decode prog_8_method_1_code 469 = .ok (.dup, 1) := by decide +kernel
theorem d_X6_init_470 : decode prog_8_method_1_code 470 = .ok (.bipush 35, 2) := by decide +kernel
theorem d_X6_init_472 : decode prog_8_method_1_code 472 = .ok (.bipush 59, 2) := by decide +kernel
theorem d_X6_init_474 : decode prog_8_method_1_code 474 = .ok (.iastore, 1) := by decide +kernel
theorem d_X6_init_475 : decode prog_8_method_1_code 475 = .ok (.putfield 46, 3) := by decide +kernel
theorem d_X6_init_478 : decode prog_8_method_1_code 478 = .ok (.aload_n 0, 1) := by decide +kernel
theorem d_X6_init_479 : decode prog_8_method_1_code 479 = .ok (.bipush 96, 2) := by decide +kernel
theorem d_X6_init_481 : decode prog_8_method_1_code 481 = .ok (.newarray .int, 2) := by decide +kernel
theorem d_X6_init_483 : decode prog_8_method_1_code 483 = .ok (.dup, 1) := by decide +kernel
theorem d_X6_init_484 : decode prog_8_method_1_code 484 = .ok (.iconst 0, 1) := by decide +kernel
theorem d_X6_init_485 : decode prog_8_method_1_code 485 = .ok (.bipush 109, 2) := by decide +kernel
theorem d_X6_init_487 : decode prog_8_method_1_code 487 = .ok (.iastore, 1) := by decide +kernel
theorem d_X6_init_488 : decode prog_8_method_1_code 488 = .ok (.dup, 1) := by decide +kernel
theorem d_X6_init_489 : decode prog_8_method_1_code 489 = .ok (.iconst 1, 1) := by decide +kernel
theorem d_X6_init_490 : decode prog_8_method_1_code 490 = .ok (.bipush 101, 2) := by decide +kernel
theorem d_X6_init_492 : decode prog_8_method_1_code 492 = .ok (.iastore, 1) := by decide +kernel
theorem d_X6_init_493 : decode prog_8_method_1_code 493 = .ok (.dup, 1) := by decide +kernel
theorem d_X6_init_494 : decode prog_8_method_1_code 494 = .ok (.iconst 2, 1) := by decide +kernel
theorem d_X6_init_495 : decode prog_8_method_1_code 495 = .ok (.bipush 108, 2) := by decide +kernel
theorem d_X6_init_497 : decode prog_8_method_1_code 497 = .ok (.iastore, 1) := by decide +kernel
theorem d_X6_init_498 : decode prog_8_method_1_code 498 = .ok (.dup, 1) := by decide +kernel
theorem d_X6_init_499 : decode prog_8_method_1_code 499 = .ok (.iconst 3, 1) := by decide +kernel
theorem d_X6_init_500 : decode prog_8_method_1_code 500 = .ok (.bipush 116, 2) := by decide +kernel
theorem d_X6_init_502 : decode prog_8_method_1_code 502 = .ok (.iastore, 1) := by decide +kernel
theorem d_X6_init_503 : decode prog_8_method_1_code 503 = .ok (.dup, 1) := by decide +kernel
theorem d_X6_init_504 : decode prog_8_method_1_code 504 = .ok (.iconst 4, 1) := by decide +kernel
theorem d_X6_init_505 : decode prog_8_method_1_code 505 = .ok (.bipush 115, 2) := by decide +kernel
theorem d_X6_init_507 : decode prog_8_method_1_code 507 = .ok (.iastore, 1) := by decide +kernel
theorem d_X6_init_508 : decode prog_8_method_1_code 508 = .ok (.dup, 1) := by decide +kernel
theorem d_X6_init_509 : decode prog_8_method_1_code 509 = .ok (.iconst 5, 1) := by decide +kernel
theorem d_X6_init_510 : decode prog_8_method_1_code 510 = .ok (.bipush 32, 2) := by decide +kernel
theorem d_X6_init_512 : decode prog_8_method_1_code 512 = .ok (.iastore, 1) := by decide +kernel
theorem d_X6_init_513 : decode prog_8_method_1_code 513 = .ok (.dup, 1) := by decide +kernel
theorem d_X6_init_514 : decode prog_8_method_1_code 514 = .ok (.bipush 6, 2) := by decide +kernel
theorem d_X6_init_516 : decode prog_8_method_1_code 516 = .ok (.bipush 32, 2) := by decide +kernel
theorem d_X6_init_518 : decode prog_8_method_1_code 518 = .ok (.iastore, 1) := by decide +kernel
theorem d_X6_init_519 : decode prog_8_method_1_code 519 = .ok (.dup, 1) := by decide +kernel
theorem d_X6_init_520 : decode prog_8_method_1_code 520 = .ok (.bipush 7, 2) := by decide +kernel
theorem d_X6_init_522 : decode prog_8_method_1_code 522 = .ok (.bipush 32, 2) := by decide +kernel
theorem d_X6_init_524 : decode prog_8_method_1_code 524 = .ok (.iastore, 1) := by decide +kernel
theorem d_X6_init_525 : decode prog_8_method_1_code 525 = .ok (.dup, 1) := by decide +kernel
theorem d_X6_init_526 : decode prog_8_method_1_code 526 = .ok (.bipush 8, 2) := by decide +kernel
theorem d_X6_init_528 : decode prog_8_method_1_code 528 = .ok (.bipush 102, 2) := by decide +kernel
theorem d_X6_init_530 : decode prog_8_method_1_code 530 = .ok (.iastore, 1) := by decide +kernel
theorem d_X6_init_531 : decode prog_8_method_1_code 531 = .ok (.dup, 1) := by decide +kernel
theorem d_X6_init_532 : decode prog_8_method_1_code 532 = .ok (.bipush 9, 2) := by decide +kernel
theorem d_X6_init_534 : decode prog_8_method_1_code 534 = .ok (.bipush 101, 2) := by decide +kernel
theorem d_X6_init_536 : decode prog_8_method_1_code 536 = .ok (.iastore, 1) := by decide +kernel
theorem d_X6_init_537 : decode prog_8_method_1_code 537 = .ok (.dup, 1) := by decide +kernel
theorem d_X6_init_538 : decode prog_8_method_1_code 538 = .ok (.bipush 10, 2) := by decide +kernel
theorem d_X6_init_540 : decode prog_8_method_1_code 540 = .ok (.bipush 101, 2) := by decide +kernel
theorem d_X6_init_542 : decode prog_8_method_1_code 542 = .ok (.iastore, 1) := by decide +kernel
theorem d_X6_init_543 : decode prog_8_method_1_code 543 = .ok (.dup, 1) := by decide +kernel
theorem d_X6_init_544 : decode prog_8_method_1_code 544 = .ok (.bipush 11, 2) := by decide +kernel
theorem d_X6_init_546 : decode prog_8_method_1_code 546 = .ok (.bipush 108, 2) := by decide +kernel
theorem d_X6_init_548 : decode prog_8_method_1_code 548 = .ok (.iastore, 1) := by decide +kernel
theorem d_X6_init_549 : decode prog_8_method_1_code 549 = .ok (.dup, 1) := by decide +kernel
theorem d_X6_init_550 : decode prog_8_method_1_code 550 = .ok (.bipush 12, 2) := by decide +kernel
theorem d_X6_init_552 : decode prog_8_method_1_code 552 = .ok (.bipush 115, 2) := by decide +kernel
theorem d_X6_init_554 : decode prog_8_method_1_code 554 = .ok (.iastore, 1) := by decide +kernel
theorem d_X6_init_555 : decode prog_8_method_1_code 555 = .ok (.dup, 1) := by decide +kernel
theorem d_X6_init_556 : decode prog_8_method_1_code 556 = .ok (.bipush 13, 2) := by decide +kernel
theorem d_X6_init_558 : decode prog_8_method_1_code 558 = .ok (.bipush 32, 2) := by decide +kernel
theorem d_X6_init_560 : decode prog_8_method_1_code 560 = .ok (.iastore, 1) := by decide +kernel
theorem d_X6_init_561 : decode prog_8_method_1_code 561 = .ok (.dup, 1) := by decide +kernel
theorem d_X6_init_562 : decode prog_8_method_1_code 562 = .ok (.bipush 14, 2) := by decide +kernel
theorem d_X6_init_564 : decode prog_8_method_1_code 564 = .ok (.bipush 32, 2) := by decide +kernel
theorem d_X6_init_566 : decode prog_8_method_1_code 566 = .ok (.iastore, 1) := by decide +kernel
theorem d_X6_init_567 : decode prog_8_method_1_code 567 = .ok (.dup, 1) := by decide +kernel
theorem d_X6_init_568 : decode prog_8_method_1_code 568 = .ok (.bipush 15, 2) := by decide +kernel
theorem d_X6_init_570 : decode prog_8_method_1_code 570 = .ok (.bipush 32, 2) := by decide +kernel
