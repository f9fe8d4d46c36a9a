theorem dX12_init_233 : decode cX12_init 233 = .ok (.putfield 90, 3) := by decide +kernel
theorem dX12_init_236 : decode cX12_init 236 = .ok (.aload_n 0, 1) := by decide +kernel
theorem dX12_init_237 : decode cX12_init 237 = .ok (.sipush 1536, 3) := by decide +kernel
theorem dX12_init_240 : decode cX12_init 240 = .ok (.newarray .int, 2) := by decide +kernel
theorem dX12_init_242 : decode cX12_init 242 = .ok (.putfield 93, 3) := by decide +kernel
theorem dX12_init_245 : decode cX12_init 245 = .ok (.aload_n 0, 1) := by decide +kernel
theorem dX12_init_246 : decode cX12_init 246 = .ok (.iconst 2, 1) := by decide +kernel
theorem dX12_init_247 : decode cX12_init 247 = .ok (.newarray .int, 2) := by decide +kernel
theorem dX12_init_249 : decode cX12_init 249 = .ok (.putfield 96, 3) := by decide +kernel
theorem dX12_init_252 : decode cX12_init 252 = .ok (.aload_n 0, 1) := by decide +kernel
theorem dX12_init_253 : decode cX12_init 253 = .ok (.iconst 2, 1) := by decide +kernel
theorem dX12_init_254 : decode cX12_init 254 = .ok (.newarray .int, 2) := by decide +kernel
theorem dX12_init_256 : decode cX12_init 256 = .ok (.putfield 99, 3) := by decide +kernel
theorem dX12_init_259 : decode cX12_init 259 = .ok (.aload_n 0, 1) := by decide +kernel
theorem dX12_init_260 : decode cX12_init 260 = .ok (.bipush 120, 2) := by decide +kernel
theorem dX12_init_262 : decode cX12_init 262 = .ok (.newarray .long, 2) := by decide +kernel
theorem dX12_init_264 : decode cX12_init 264 = .ok (.putfield 102, 3) := by decide +kernel
theorem dX12_init_267 : decode cX12_init 267 = .ok (.aload_n 0, 1) := by decide +kernel
theorem dX12_init_268 : decode cX12_init 268 = .ok (.bipush 64, 2) := by decide +kernel
theorem dX12_init_270 : decode cX12_init 270 = .ok (.newarray .long, 2) := by decide +kernel
theorem dX12_init_272 : decode cX12_init 272 = .ok (.putfield 106, 3) := by decide +kernel
theorem dX12_init_275 : decode cX12_init 275 = .ok (.aload_n 0, 1) := by decide +kernel
theorem dX12_init_276 : decode cX12_init 276 = .ok (.bipush 64, 2) := by decide +kernel
theorem dX12_init_278 : decode cX12_init 278 = .ok (.newarray .int, 2) := by decide +kernel
theorem dX12_init_280 : decode cX12_init 280 = .ok (.putfield 109, 3) := by decide +kernel
theorem dX12_init_283 : decode cX12_init 283 = .ok (.aload_n 0, 1) := by decide +kernel
theorem dX12_init_284 : decode cX12_init 284 = .ok (.bipush 6, 2) := by decide +kernel
theorem dX12_init_286 : decode cX12_init 286 = .ok (.newarray .boolean, 2) := by decide +kernel
theorem dX12_init_288 : decode cX12_init 288 = .ok (.putfield 112, 3) := by decide +kernel
theorem dX12_init_291 : decode cX12_init 291 = .ok (.aload_n 0, 1) := by decide +kernel
theorem dX12_init_292 : decode cX12_init 292 = .ok (.bipush 24, 2) := by decide +kernel
theorem dX12_init_294 : decode cX12_init 294 = .ok (.newarray .int, 2) := by decide +kernel
theorem dX12_init_296 : decode cX12_init 296 = .ok (.putfield 115, 3) := by decide +kernel
theorem dX12_init_299 : decode cX12_init 299 = .ok (.aload_n 0, 1) := by decide +kernel
theorem dX12_init_300 : decode cX12_init 300 = .ok (.bipush 24, 2) := by decide +kernel
theorem dX12_init_302 : decode cX12_init 302 = .ok (.newarray .int, 2) := by decide +kernel
theorem dX12_init_304 : decode cX12_init 304 = .ok (.putfield 118, 3) := by decide +kernel
theorem dX12_init_307 : decode cX12_init 307 = .ok (.aload_n 0, 1) := by decide +kernel
theorem dX12_init_308 : decode cX12_init 308 = .ok (.bipush 24, 2) := by decide +kernel
theorem dX12_init_310 : decode cX12_init 310 = .ok (.newarray .int, 2) := by decide +kernel
theorem dX12_init_312 : decode cX12_init 312 = .ok (.putfield 121, 3) := by decide +kernel
theorem dX12_init_315 : decode cX12_init 315 = .ok (.aload_n 0, 1) := by decide +kernel
theorem dX12_init_316 : decode cX12_init 316 = .ok (.bipush 12, 2) := by decide +kernel
theorem dX12_init_318 : decode cX12_init 318 = .ok (.newarray .int, 2) := by decide +kernel
theorem dX12_init_320 : decode cX12_init 320 = .ok (.dup, 1) := by decide +kernel
theorem dX12_init_321 : decode cX12_init 321 = .ok (.iconst 0, 1) := by decide +kernel
theorem dX12_init_322 : decode cX12_init 322 = .ok (.iconst (-1), 1) := by decide +kernel
theorem dX12_init_323 : decode cX12_init 323 = .ok (.iastore, 1) := by decide +kernel
theorem dX12_init_324 : decode cX12_init 324 = .ok (.dup, 1) := by decide +kernel
theorem dX12_init_325 : decode cX12_init 325 = .ok (.iconst 1, 1) := by decide +kernel
theorem dX12_init_326 : decode cX12_init 326 = .ok (.iconst (-1), 1) := by decide +kernel
theorem dX12_init_327 : decode cX12_init 327 = .ok (.iastore, 1) := by decide +kernel
theorem dX12_init_328 : decode cX12_init 328 = .ok (.dup, 1) := by decide +kernel
theorem dX12_init_329 : decode cX12_init 329 = .ok (.iconst 2, 1) := by decide +kernel
theorem dX12_init_330 : decode cX12_init 330 = .ok (.iconst (-1), 1) := by decide +kernel
theorem dX12_init_331 : decode cX12_init 331 = .ok (.iastore, 1) := by decide +kernel
theorem dX12_init_332 : decode cX12_init 332 = .ok (.dup, 1) := by decide +kernel
theorem dX12_init_333 : decode cX12_init 333 = .ok (.iconst 3, 1) := by decide +kernel
theorem dX12_init_334 : decode cX12_init 334 = .ok (.iconst (-1), 1) := by decide +kernel
theorem dX12_init_335 : decode cX12_init 335 = .ok (.iastore, 1) := by decide +kernel
theorem dX12_init_336 : decode cX12_init 336 = .ok (.dup, 1) := by decide +kernel
theorem dX12_init_337 : decode cX12_init 337 = .ok (.iconst 4, 1) := by decide +kernel
theorem dX12_init_338 : decode cX12_init 338 = .ok (.iconst (-1), 1) := by decide +kernel
theorem dX12_init_339 : decode cX12_init 339 = .ok (.iastore, 1) := by decide +kernel
theorem dX12_init_340 : decode cX12_init 340 = .ok (.dup, 1) := by decide +kernel
theorem dX12_init_341 : decode cX12_init 341 = .ok (.iconst 5, 1) := by decide +kernel
theorem dX12_init_342 : decode cX12_init 342 = .ok (.iconst (-1), 1) := by decide +kernel
theorem dX12_init_343 : decode cX12_init 343 = .ok (.iastore, 1) := by decide +kernel
theorem dX12_init_344 : decode cX12_init 344 = .ok (.dup, 1) := by decide +kernel
theorem dX12_init_345 : decode cX12_init 345 = .ok (.bipush 6, 2) := by decide +kernel
theorem dX12_init_347 : decode cX12_init 347 = .ok (.iconst (-1), 1) := by decide +kernel
theorem dX12_init_348 : decode cX12_init 348 = .ok (.iastore, 1) := by decide +kernel
theorem dX12_init_349 : decode cX12_init 349 = .ok (.dup, 1) := by decide +kernel
theorem dX12_init_350 : decode cX12_init 350 = .ok (.bipush 7, 2) := by decide +kernel
theorem dX12_init_352 : decode cX12_init 352 = .ok (.iconst (-1), 1) := by decide +kernel
theorem dX12_init_353 : decode cX12_init 353 = .ok (.iastore, 1) := by decide +kernel
theorem dX12_init_354 : decode cX12_init 354 = .ok (.dup, 1) := by decide +kernel
theorem dX12_init_355 : decode cX12_init 355 = .ok (.bipush 8, 2) := by decide +kernel
theorem dX12_init_357 : decode cX12_init 357 = .ok (.iconst (-1), 1) := by decide +kernel
theorem dX12_init_358 : decode cX12_init 358 = .ok (.iastore, 1) := by decide +kernel
theorem dX12_init_359 : decode cX12_init 359 = .ok (.dup, 1) := by decide +kernel
theorem dX12_init_360 : decode cX12_init 360 = .ok (.bipush 9, 2) := by decide +kernel
theorem dX12_init_362 : decode cX12_init 362 = .ok (.iconst (-1), 1) := by decide +kernel
theorem dX12_init_363 : decode cX12_init 363 = .ok (.iastore, 1) := by decide +kernel
theorem dX12_init_364 : decode cX12_init 364 = .ok (.dup, 1) := by decide +kernel
theorem dX12_init_365 : decode cX12_init 365 = .ok (.bipush 10, 2) := by decide +kernel
theorem dX12_init_367 : decode cX12_init 367 = .ok (.iconst (-1), 1) := by decide +kernel
theorem dX12_init_368 : decode cX12_init 368 = .ok (.iastore, 1) := by decide +kernel
theorem dX12_init_369 : decode cX12_init 369 = .ok (.dup, 1) := by decide +kernel
theorem dX12_init_370 : decode cX12_init 370 = .ok (.bipush 11, 2) := by decide +kernel
theorem dX12_init_372 : decode cX12_init 372 = .ok (.iconst (-1), 1) := by decide +kernel
theorem dX12_init_373 : decode cX12_init 373 = .ok (.iastore, 1) := by decide +kernel
theorem dX12_init_374 : decode cX12_init 374 = .ok (.putfield 124, 3) := by decide +kernel
theorem dX12_init_377 : decode cX12_init 377 = .ok (.aload_n 0, 1) := by decide +kernel
theorem dX12_init_378 : decode cX12_init 378 = .ok (.bipush 60, 2) := by decide +kernel
theorem dX12_init_380 : decode cX12_init 380 = .ok (.newarray .int, 2) := by decide +kernel
theorem dX12_init_382 : decode cX12_init 382 = .ok (.putfield 127, 3) := by decide +kernel
theorem dX12_init_385 : decode cX12_init 385 = .ok (.aload_n 0, 1) := by decide +kernel
theorem dX12_init_386 : decode cX12_init 386 = .ok (.bipush 60, 2) := by decide +kernel
theorem dX12_init_388 : decode cX12_init 388 = .ok (.newarray .int, 2) := by decide +kernel
theorem dX12_init_390 : decode cX12_init 390 = .ok (.putfield 130, 3) := by decide +kernel
theorem dX12_init_393 : decode cX12_init 393 = .ok (.aload_n 0, 1) := by decide +kernel
theorem dX12_init_394 : decode cX12_init 394 = .ok (.bipush 60, 2) := by decide +kernel
theorem dX12_init_396 : decode cX12_init 396 = .ok (.newarray .int, 2) := by decide +kernel
theorem dX12_init_398 : decode cX12_init 398 = .ok (.putfield 133, 3) := by decide +kernel
theorem dX12_init_401 : decode cX12_init 401 = .ok (.aload_n 0, 1) := by decide +kernel
theorem dX12_init_402 : decode cX12_init 402 = .ok (.bipush 60, 2) := by decide +kernel
theorem dX12_init_404 : decode cX12_init 404 = .ok (.newarray .int, 2) := by decide +kernel
theorem dX12_init_406 : decode cX12_init 406 = .ok (.putfield 136, 3) := by decide +kernel
theorem dX12_init_409 : decode cX12_init 409 = .ok (.aload_n 0, 1) := by decide +kernel
theorem dX12_init_410 : decode cX12_init 410 = .ok (.bipush 60, 2) := by decide +kernel
theorem dX12_init_412 : decode cX12_init 412 = .ok (.newarray .int, 2) := by decide +kernel
theorem dX12_init_414 : decode cX12_init 414 = .ok (.putfield 139, 3) := by decide +kernel
theorem dX12_init_417 : decode cX12_init 417 = .ok (.aload_n 0, 1) := by decide +kernel
theorem dX12_init_418 : decode cX12_init 418 = .ok (.bipush 60, 2) := by decide +kernel
theorem dX12_init_420 : decode cX12_init 420 = .ok (.newarray .int, 2) := by decide +kernel
theorem dX12_init_422 : decode cX12_init 422 = .ok (.putfield 142, 3) := by decide +kernel
theorem dX12_init_425 : decode cX12_init 425 = .ok (.aload_n 0, 1) := by decide +kernel
theorem dX12_init_426 : decode cX12_init 426 = .ok (.bipush 60, 2) := by decide +kernel
theorem dX12_init_428 : decode cX12_init 428 = .ok (.newarray .int, 2) := by decide +kernel
theorem dX12_init_430 : decode cX12_init 430 = .ok (.putfield 145, 3) := by decide +kernel
theorem dX12_init_433 : decode cX12_init 433 = .ok (.aload_n 0, 1) := by decide +kernel
theorem dX12_init_434 : decode cX12_init 434 = .ok (.bipush 60, 2) := by decide +kernel
theorem dX12_init_436 : decode cX12_init 436 = .ok (.newarray .int, 2) := by decide +kernel
theorem dX12_init_438 : decode cX12_init 438 = .ok (.putfield 148, 3) := by decide +kernel
theorem dX12_init_441 : decode cX12_init 441 = .ok (.aload_n 0, 1) := by decide +kernel
theorem dX12_init_442 : decode cX12_init 442 = .ok (.bipush 60, 2) := by decide +kernel
theorem dX12_init_444 : decode cX12_init 444 = .ok (.newarray .int, 2) := by decide +kernel
theorem dX12_init_446 : decode cX12_init 446 = .ok (.putfield 151, 3) := by decide +kernel
theorem dX12_init_449 : decode cX12_init 449 = .ok (.aload_n 0, 1) := by decide +kernel
theorem dX12_init_450 : decode cX12_init 450 = .ok (.bipush 60, 2) := by decide +kernel
theorem dX12_init_452 : decode cX12_init 452 = .ok (.newarray .boolean, 2) := by decide +kernel
theorem dX12_init_454 : decode cX12_init 454 = .ok (.putfield 154, 3) := by decide +kernel
theorem dX12_init_457 : decode cX12_init 457 = .ok (.aload_n 0, 1) := by decide +kernel
theorem dX12_init_458 : decode cX12_init 458 = .ok (.sipush 3100, 3) := by decide +kernel
theorem dX12_init_461 : decode cX12_init 461 = .ok (.newarray .int, 2) := by decide +kernel
theorem dX12_init_463 : decode cX12_init 463 = .ok (.putfield 157, 3) := by decide +kernel
theorem dX12_init_466 : decode cX12_init 466 = .ok (.aload_n 0, 1) := by decide +kernel
theorem dX12_init_467 : decode cX12_init 467 = .ok (.sipush 3100, 3) := by decide +kernel
theorem dX12_init_470 : decode cX12_init 470 = .ok (.newarray .int, 2) := by decide +kernel
theorem dX12_init_472 : decode cX12_init 472 = .ok (.putfield 160, 3) := by decide +kernel
theorem dX12_init_475 : decode cX12_init 475 = .ok (.aload_n 0, 1) := by decide +kernel
theorem dX12_init_476 : decode cX12_init 476 = .ok (.sipush 3100, 3) := by decide +kernel
theorem dX12_init_479 : decode cX12_init 479 = .ok (.newarray .int, 2) := by decide +kernel
theorem dX12_init_481 : decode cX12_init 481 = .ok (.putfield 163, 3) := by decide +kernel
theorem dX12_init_484 : decode cX12_init 484 = .ok (.aload_n 0, 1) := by decide +kernel
theorem dX12_init_485 : decode cX12_init 485 = .ok (.sipush 3100, 3) := by decide +kernel
theorem dX12_init_488 : decode cX12_init 488 = .ok (.newarray .int, 2) := by decide +kernel
theorem dX12_init_490 : decode cX12_init 490 = .ok (.putfield 166, 3) := by decide +kernel
theorem dX12_init_493 : decode cX12_init 493 = .ok (.aload_n 0, 1) := by decide +kernel
theorem dX12_init_494 : decode cX12_init 494 = .ok (.sipush 3100, 3) := by decide +kernel
theorem dX12_init_497 : decode cX12_init 497 = .ok (.newarray .int, 2) := by decide +kernel
theorem dX12_init_499 : decode cX12_init 499 = .ok (.putfield 169, 3) := by decide +kernel
theorem dX12_init_502 : decode cX12_init 502 = .ok (.aload_n 0, 1) := by decide +kernel
theorem dX12_init_503 : decode cX12_init 503 = .ok (.sipush 3100, 3) := by decide +kernel
theorem dX12_init_506 : decode cX12_init 506 = .ok (.newarray .int, 2) := by decide +kernel
theorem dX12_init_508 : decode cX12_init 508 = .ok (.putfield 172, 3) := by decide +kernel
theorem dX12_init_511 : decode cX12_init 511 = .ok (.aload_n 0, 1) := by decide +kernel
theorem dX12_init_512 : decode cX12_init 512 = .ok (.sipush 1600, 3) := by decide +kernel
theorem dX12_init_515 : decode cX12_init 515 = .ok (.newarray .int, 2) := by decide +kernel
theorem dX12_init_517 : decode cX12_init 517 = .ok (.putfield 175, 3) := by decide +kernel
theorem dX12_init_520 : decode cX12_init 520 = .ok (.aload_n 0, 1) := by decide +kernel
theorem dX12_init_521 : decode cX12_init 521 = .ok (.sipush 1600, 3) := by decide +kernel
theorem dX12_init_524 : decode cX12_init 524 = .ok (.newarray .int, 2) := by decide +kernel
theorem dX12_init_526 : decode cX12_init 526 = .ok (.putfield 178, 3) := by decide +kernel
theorem dX12_init_529 : decode cX12_init 529 = .ok (.aload_n 0, 1) := by decide +kernel
theorem dX12_init_530 : decode cX12_init 530 = .ok (.sipush 1600, 3) := by decide +kernel
theorem dX12_init_533 : decode cX12_init 533 = .ok (.newarray .int, 2) := by decide +kernel
theorem dX12_init_535 : decode cX12_init 535 = .ok (.putfield 181, 3) := by decide +kernel
theorem dX12_init_538 : decode cX12_init 538 = .ok (.aload_n 0, 1) := by decide +kernel
theorem dX12_init_539 : decode cX12_init 539 = .ok (.sipush 1600, 3) := by decide +kernel
theorem dX12_init_542 : decode cX12_init 542 = .ok (.newarray .int, 2) := by decide +kernel
theorem dX12_init_544 : decode cX12_init 544 = .ok (.putfield 184, 3) := by decide +kernel
theorem dX12_init_547 : decode cX12_init 547 = .ok (.aload_n 0, 1) := by decide +kernel
theorem dX12_init_548 : decode cX12_init 548 = .ok (.sipush 1600, 3) := by decide +kernel
theorem dX12_init_551 : decode cX12_init 551 = .ok (.newarray .int, 2) := by decide +kernel
theorem dX12_init_553 : decode cX12_init 553 = .ok (.putfield 187, 3) := by decide +kernel
theorem dX12_init_556 : decode cX12_init 556 = .ok (.aload_n 0, 1) := by decide +kernel
theorem dX12_init_557 : decode cX12_init 557 = .ok (.sipush 1600, 3) := by decide +kernel
theorem dX12_init_560 : decode cX12_init 560 = .ok (.newarray .int, 2) := by decide +kernel
theorem dX12_init_562 : decode cX12_init 562 = .ok (.putfield 190, 3) := by decide +kernel
theorem dX12_init_565 : decode cX12_init 565 = .ok (.aload_n 0, 1) := by decide +kernel
theorem dX12_init_566 : decode cX12_init 566 = .ok (.sipush 1600, 3) := by decide +kernel
theorem dX12_init_569 : decode cX12_init 569 = .ok (.newarray .int, 2) := by decide +kernel
theorem dX12_init_571 : decode cX12_init 571 = .ok (.putfield 193, 3) := by decide +kernel
theorem dX12_init_574 : decode cX12_init 574 = .ok (.aload_n 0, 1) := by decide +kernel
theorem dX12_init_575 : decode cX12_init 575 = .ok (.bipush 16, 2) := by decide +kernel
theorem dX12_init_577 : decode cX12_init 577 = .ok (.newarray .int, 2) := by decide +kernel
theorem dX12_init_579 : decode cX12_init 579 = .ok (.putfield 196, 3) := by decide +kernel
theorem dX12_init_582 : decode cX12_init 582 = .ok (.aload_n 0, 1) := by decide +kernel
theorem dX12_init_583 : decode cX12_init 583 = .ok (.bipush 16, 2) := by decide +kernel
theorem dX12_init_585 : decode cX12_init 585 = .ok (.newarray .int, 2) := by decide +kernel
theorem dX12_init_587 : decode cX12_init 587 = .ok (.putfield 199, 3) := by decide +kernel
theorem dX12_init_590 : decode cX12_init 590 = .ok (.aload_n 0, 1) := by decide +kernel
theorem dX12_init_591 : decode cX12_init 591 = .ok (.sipush 768, 3) := by decide +kernel
theorem dX12_init_594 : decode cX12_init 594 = .ok (.newarray .int, 2) := by decide +kernel
theorem dX12_init_596 : decode cX12_init 596 = .ok (.putfield 202, 3) := by decide +kernel
theorem dX12_init_599 : decode cX12_init 599 = .ok (.aload_n 0, 1) := by decide +kernel
theorem dX12_init_600 : decode cX12_init 600 = .ok (.sipush 8192, 3) := by decide +kernel
theorem dX12_init_603 : decode cX12_init 603 = .ok (.newarray .int, 2) := by decide +kernel
theorem dX12_init_605 : decode cX12_init 605 = .ok (.putfield 205, 3) := by decide +kernel
theorem dX12_init_608 : decode cX12_init 608 = .ok (.aload_n 0, 1) := by decide +kernel
theorem dX12_init_609 : decode cX12_init 609 = .ok (.sipush 1024, 3) := by decide +kernel
theorem dX12_init_612 : decode cX12_init 612 = .ok (.newarray .int, 2) := by decide +kernel
theorem dX12_init_614 : decode cX12_init 614 = .ok (.putfield 208, 3) := by decide +kernel
theorem dX12_init_617 : decode cX12_init 617 = .ok (.aload_n 0, 1) := by decide +kernel
theorem dX12_init_618 : decode cX12_init 618 = .ok (.sipush 1024, 3) := by decide +kernel
theorem dX12_init_621 : decode cX12_init 621 = .ok (.newarray .int, 2) := by decide +kernel
theorem dX12_init_623 : decode cX12_init 623 = .ok (.putfield 211, 3) := by decide +kernel
theorem dX12_init_626 : decode cX12_init 626 = .ok (.aload_n 0, 1) := by decide +kernel
theorem dX12_init_627 : decode cX12_init 627 = .ok (.bipush 64, 2) := by decide +kernel
theorem dX12_init_629 : decode cX12_init 629 = .ok (.newarray .int, 2) := by decide +kernel
theorem dX12_init_631 : decode cX12_init 631 = .ok (.putfield 214, 3) := by decide +kernel
theorem dX12_init_634 : decode cX12_init 634 = .ok (.aload_n 0, 1) := by decide +kernel
theorem dX12_init_635 : decode cX12_init 635 = .ok (.sipush 3000, 3) := by decide +kernel
theorem dX12_init_638 : decode cX12_init 638 = .ok (.newarray .byte, 2) := by decide +kernel
theorem dX12_init_640 : decode cX12_init 640 = .ok (.putfield 217, 3) := by decide +kernel
theorem dX12_init_643 : decode cX12_init 643 = .ok (.aload_n 0, 1) := by decide +kernel
theorem dX12_init_644 : decode cX12_init 644 = .ok (.sipush 400, 3) := by decide +kernel
theorem dX12_init_647 : decode cX12_init 647 = .ok (.newarray .int, 2) := by decide +kernel
theorem dX12_init_649 : decode cX12_init 649 = .ok (.putfield 220, 3) := by decide +kernel
theorem dX12_init_652 : decode cX12_init 652 = .ok (.iconst 0, 1) := by decide +kernel
theorem dX12_init_653 : decode cX12_init 653 = .ok (.istore_n 1, 1) := by decide +kernel
theorem dX12_init_654 : decode cX12_init 654 = .ok (.iload_n 1, 1) := by decide +kernel
theorem dX12_init_655 : decode cX12_init 655 = .ok (.sipush 2048, 3) := by decide +kernel
theorem dX12_init_658 : decode cX12_init 658 = .ok (.if_icmp .ge 16, 3) := by decide +kernel
theorem dX12_init_661 : decode cX12_init 661 = .ok (.aload_n 0, 1) := by decide +kernel
theorem dX12_init_662 : decode cX12_init 662 = .ok (.getfield 59, 3) := by decide +kernel
theorem dX12_init_665 : decode cX12_init 665 = .ok (.iload_n 1, 1) := by decide +kernel
theorem dX12_init_666 : decode cX12_init 666 = .ok (.iconst (-1), 1) := by decide +kernel
theorem dX12_init_667 : decode cX12_init 667 = .ok (.iastore, 1) := by decide +kernel
theorem dX12_init_668 : decode cX12_init 668 = .ok (.iinc 1 1, 3) := by decide +kernel
theorem dX12_init_671 : decode cX12_init 671 = .ok (.goto (-17), 3) := by decide +kernel
theorem dX12_init_674 : decode cX12_init 674 = .ok (.aload_n 0, 1) := by decide +kernel
theorem dX12_init_675 : decode cX12_init 675 = .ok (.getfield 96, 3) := by decide +kernel
theorem dX12_init_678 : decode cX12_init 678 = .ok (.iconst 0, 1) := by decide +kernel
theorem dX12_init_679 : decode cX12_init 679 = .ok (.iconst 1, 1) := by decide +kernel
theorem dX12_init_680 : decode cX12_init 680 = .ok (.iastore, 1) := by decide +kernel
theorem dX12_init_681 : decode cX12_init 681 = .ok (.aload_n 0, 1) := by decide +kernel
theorem dX12_init_682 : decode cX12_init 682 = .ok (.iconst 1, 1) := by decide +kernel
theorem dX12_init_683 : decode cX12_init 683 = .ok (.putfield 223, 3) := by decide +kernel
theorem dX12_init_686 : decode cX12_init 686 = .ok (.aload_n 0, 1) := by decide +kernel
theorem dX12_init_687 : decode cX12_init 687 = .ok (.getfield 78, 3) := by decide +kernel
theorem dX12_init_690 : decode cX12_init 690 = .ok (.iconst 0, 1) := by decide +kernel
theorem dX12_init_691 : decode cX12_init 691 = .ok (.bipush (-2), 2) := by decide +kernel
theorem dX12_init_693 : decode cX12_init 693 = .ok (.iastore, 1) := by decide +kernel
theorem dX12_init_694 : decode cX12_init 694 = .ok (.aload_n 0, 1) := by decide +kernel
theorem dX12_init_695 : decode cX12_init 695 = .ok (.invokevirtual 227, 3) := by decide +kernel
theorem dX12_init_698 : decode cX12_init 698 = .ok (.pop, 1) := by decide +kernel
theorem dX12_init_699 : decode cX12_init 699 = .ok (.return_, 1) := by decide +kernel
theorem dX12_isArrow_0 : decode cX12_isArrow 0 = .ok (.iload_n 0, 1) := by decide +kernel
theorem dX12_isArrow_1 : decode cX12_isArrow 1 = .ok (.iconst 3, 1) := by decide +kernel
theorem dX12_isArrow_2 : decode cX12_isArrow 2 = .ok (.if_icmp .lt 7, 3) := by decide +kernel
theorem dX12_isArrow_9 : decode cX12_isArrow 9 = .ok (.iconst 0, 1) := by decide +kernel
theorem dX12_isArrow_10 : decode cX12_isArrow 10 = .ok (.ireturn, 1) := by decide +kernel
theorem dX12_isKept_0 : decode cX12_isKept 0 = .ok (.iload_n 1, 1) := by decide +kernel
theorem dX12_isKept_1 : decode cX12_isKept 1 = .ok (.iconst 0, 1) := by decide +kernel
theorem dX12_isKept_2 : decode cX12_isKept 2 = .ok (.aload_n 0, 1) := by decide +kernel
theorem dX12_isKept_3 : decode cX12_isKept 3 = .ok (.getfield 648, 3) := by decide +kernel
theorem dX12_isKept_6 : decode cX12_isKept 6 = .ok (.iconst 1, 1) := by decide +kernel
theorem dX12_isKept_7 : decode cX12_isKept 7 = .ok (.isub, 1) := by decide +kernel
theorem dX12_isKept_8 : decode cX12_isKept 8 = .ok (.invokestatic 334, 3) := by decide +kernel
theorem dX12_isKept_11 : decode cX12_isKept 11 = .ok (.ireturn, 1) := by decide +kernel
theorem dX12_isValue_0 : decode cX12_isValue 0 = .ok (.aload_n 0, 1) := by decide +kernel
theorem dX12_isValue_1 : decode cX12_isValue 1 = .ok (.getfield 553, 3) := by decide +kernel
theorem dX12_isValue_4 : decode cX12_isValue 4 = .ok (.iconst 1, 1) := by decide +kernel
theorem dX12_isValue_5 : decode cX12_isValue 5 = .ok (.iconst 3, 1) := by decide +kernel
theorem dX12_isValue_6 : decode cX12_isValue 6 = .ok (.invokestatic 334, 3) := by decide +kernel
theorem dX12_isValue_9 : decode cX12_isValue 9 = .ok (.ireturn, 1) := by decide +kernel
theorem dX12_join_0 : decode cX12_join 0 = .ok (.aload_n 0, 1) := by decide +kernel
theorem dX12_join_1 : decode cX12_join 1 = .ok (.iload_n 1, 1) := by decide +kernel
theorem dX12_join_2 : decode cX12_join 2 = .ok (.iload_n 2, 1) := by decide +kernel
theorem dX12_join_3 : decode cX12_join 3 = .ok (.invokevirtual 622, 3) := by decide +kernel
theorem dX12_join_6 : decode cX12_join 6 = .ok (.ifCond .ne 5, 3) := by decide +kernel
theorem dX12_join_9 : decode cX12_join 9 = .ok (.iconst (-1), 1) := by decide +kernel
theorem dX12_join_10 : decode cX12_join 10 = .ok (.ireturn, 1) := by decide +kernel
theorem dX12_laysTyped_0 : decode cX12_laysTyped 0 = .ok (.iconst 0, 1) := by decide +kernel
theorem dX12_laysTyped_1 : decode cX12_laysTyped 1 = .ok (.istore_n 1, 1) := by decide +kernel
theorem dX12_laysTyped_2 : decode cX12_laysTyped 2 = .ok (.iload_n 1, 1) := by decide +kernel
theorem dX12_laysTyped_3 : decode cX12_laysTyped 3 = .ok (.aload_n 0, 1) := by decide +kernel
theorem dX12_laysTyped_4 : decode cX12_laysTyped 4 = .ok (.getfield 96, 3) := by decide +kernel
theorem dX12_laysTyped_7 : decode cX12_laysTyped 7 = .ok (.aload_n 0, 1) := by decide +kernel
theorem dX12_laysTyped_8 : decode cX12_laysTyped 8 = .ok (.getfield 392, 3) := by decide +kernel
theorem dX12_laysTyped_11 : decode cX12_laysTyped 11 = .ok (.iaload, 1) := by decide +kernel
theorem dX12_laysTyped_12 : decode cX12_laysTyped 12 = .ok (.if_icmp .ge 65, 3) := by decide +kernel
theorem dX12_laysTyped_15 : decode cX12_laysTyped 15 = .ok (.aload_n 0, 1) := by decide +kernel
theorem dX12_laysTyped_16 : decode cX12_laysTyped 16 = .ok (.getfield 90, 3) := by decide +kernel
theorem dX12_laysTyped_19 : decode cX12_laysTyped 19 = .ok (.bipush 60, 2) := by decide +kernel
theorem dX12_laysTyped_21 : decode cX12_laysTyped 21 = .ok (.aload_n 0, 1) := by decide +kernel
theorem dX12_laysTyped_22 : decode cX12_laysTyped 22 = .ok (.getfield 392, 3) := by decide +kernel
theorem dX12_laysTyped_25 : decode cX12_laysTyped 25 = .ok (.imul, 1) := by decide +kernel
theorem dX12_laysTyped_26 : decode cX12_laysTyped 26 = .ok (.iload_n 1, 1) := by decide +kernel
theorem dX12_laysTyped_27 : decode cX12_laysTyped 27 = .ok (.iadd, 1) := by decide +kernel
theorem dX12_laysTyped_28 : decode cX12_laysTyped 28 = .ok (.iaload, 1) := by decide +kernel
theorem dX12_laysTyped_29 : decode cX12_laysTyped 29 = .ok (.istore_n 2, 1) := by decide +kernel
theorem dX12_laysTyped_30 : decode cX12_laysTyped 30 = .ok (.aload_n 0, 1) := by decide +kernel
theorem dX12_laysTyped_31 : decode cX12_laysTyped 31 = .ok (.getfield 154, 3) := by decide +kernel
theorem dX12_laysTyped_34 : decode cX12_laysTyped 34 = .ok (.iload_n 2, 1) := by decide +kernel
theorem dX12_laysTyped_35 : decode cX12_laysTyped 35 = .ok (.aload_n 0, 1) := by decide +kernel
theorem dX12_laysTyped_36 : decode cX12_laysTyped 36 = .ok (.getfield 22, 3) := by decide +kernel
theorem dX12_laysTyped_39 : decode cX12_laysTyped 39 = .ok (.aload_n 0, 1) := by decide +kernel
theorem dX12_laysTyped_40 : decode cX12_laysTyped 40 = .ok (.getfield 127, 3) := by decide +kernel
theorem dX12_laysTyped_43 : decode cX12_laysTyped 43 = .ok (.iload_n 2, 1) := by decide +kernel
theorem dX12_laysTyped_44 : decode cX12_laysTyped 44 = .ok (.iaload, 1) := by decide +kernel
theorem dX12_laysTyped_45 : decode cX12_laysTyped 45 = .ok (.baload, 1) := by decide +kernel
theorem dX12_laysTyped_46 : decode cX12_laysTyped 46 = .ok (.ifCond .ne 16, 3) := by decide +kernel
theorem dX12_laysTyped_49 : decode cX12_laysTyped 49 = .ok (.aload_n 0, 1) := by decide +kernel
theorem dX12_laysTyped_50 : decode cX12_laysTyped 50 = .ok (.getfield 148, 3) := by decide +kernel
theorem dX12_laysTyped_53 : decode cX12_laysTyped 53 = .ok (.iload_n 2, 1) := by decide +kernel
theorem dX12_laysTyped_54 : decode cX12_laysTyped 54 = .ok (.iaload, 1) := by decide +kernel
theorem dX12_laysTyped_55 : decode cX12_laysTyped 55 = .ok (.ifCond .ne 7, 3) := by decide +kernel
theorem dX12_laysTyped_58 : decode cX12_laysTyped 58 = .ok (.iconst 1, 1) := by decide +kernel
theorem dX12_laysTyped_59 : decode cX12_laysTyped 59 = .ok (.goto 4, 3) := by decide +kernel
theorem dX12_laysTyped_63 : decode cX12_laysTyped 63 = .ok (.bastore, 1) := by decide +kernel
theorem dX12_laysTyped_64 : decode cX12_laysTyped 64 = .ok (.aload_n 0, 1) := by decide +kernel
theorem dX12_laysTyped_65 : decode cX12_laysTyped 65 = .ok (.getfield 151, 3) := by decide +kernel
theorem dX12_laysTyped_68 : decode cX12_laysTyped 68 = .ok (.iload_n 2, 1) := by decide +kernel
theorem dX12_laysTyped_69 : decode cX12_laysTyped 69 = .ok (.iconst 1, 1) := by decide +kernel
theorem dX12_laysTyped_70 : decode cX12_laysTyped 70 = .ok (.iastore, 1) := by decide +kernel
theorem dX12_laysTyped_71 : decode cX12_laysTyped 71 = .ok (.iinc 1 1, 3) := by decide +kernel
theorem dX12_laysTyped_74 : decode cX12_laysTyped 74 = .ok (.goto (-72), 3) := by decide +kernel
theorem dX12_laysTyped_77 : decode cX12_laysTyped 77 = .ok (.aload_n 0, 1) := by decide +kernel
theorem dX12_laysTyped_78 : decode cX12_laysTyped 78 = .ok (.getfield 96, 3) := by decide +kernel
theorem dX12_laysTyped_81 : decode cX12_laysTyped 81 = .ok (.aload_n 0, 1) := by decide +kernel
theorem dX12_laysTyped_82 : decode cX12_laysTyped 82 = .ok (.getfield 392, 3) := by decide +kernel
theorem dX12_laysTyped_85 : decode cX12_laysTyped 85 = .ok (.iaload, 1) := by decide +kernel
theorem dX12_laysTyped_86 : decode cX12_laysTyped 86 = .ok (.iconst 1, 1) := by decide +kernel
theorem dX12_laysTyped_87 : decode cX12_laysTyped 87 = .ok (.isub, 1) := by decide +kernel
theorem dX12_laysTyped_88 : decode cX12_laysTyped 88 = .ok (.istore_n 1, 1) := by decide +kernel
theorem dX12_laysTyped_89 : decode cX12_laysTyped 89 = .ok (.iload_n 1, 1) := by decide +kernel
theorem dX12_laysTyped_90 : decode cX12_laysTyped 90 = .ok (.ifCond .le 72, 3) := by decide +kernel
theorem dX12_laysTyped_162 : decode cX12_laysTyped 162 = .ok (.return_, 1) := by decide +kernel
theorem dX12_laysTypes_0 : decode cX12_laysTypes 0 = .ok (.aload_n 0, 1) := by decide +kernel
theorem dX12_laysTypes_1 : decode cX12_laysTypes 1 = .ok (.iconst 3, 1) := by decide +kernel
theorem dX12_laysTypes_2 : decode cX12_laysTypes 2 = .ok (.putfield 231, 3) := by decide +kernel
theorem dX12_laysTypes_5 : decode cX12_laysTypes 5 = .ok (.iconst 0, 1) := by decide +kernel
theorem dX12_laysTypes_6 : decode cX12_laysTypes 6 = .ok (.istore_n 1, 1) := by decide +kernel
theorem dX12_laysTypes_7 : decode cX12_laysTypes 7 = .ok (.iload_n 1, 1) := by decide +kernel
theorem dX12_laysTypes_8 : decode cX12_laysTypes 8 = .ok (.iconst 3, 1) := by decide +kernel
theorem dX12_laysTypes_9 : decode cX12_laysTypes 9 = .ok (.if_icmp .ge 38, 3) := by decide +kernel
theorem dX12_laysTypes_12 : decode cX12_laysTypes 12 = .ok (.aload_n 0, 1) := by decide +kernel
theorem dX12_laysTypes_13 : decode cX12_laysTypes 13 = .ok (.getfield 16, 3) := by decide +kernel
theorem dX12_laysTypes_16 : decode cX12_laysTypes 16 = .ok (.iload_n 1, 1) := by decide +kernel
theorem dX12_laysTypes_17 : decode cX12_laysTypes 17 = .ok (.iconst 1, 1) := by decide +kernel
theorem dX12_laysTypes_18 : decode cX12_laysTypes 18 = .ok (.iastore, 1) := by decide +kernel
theorem dX12_laysTypes_19 : decode cX12_laysTypes 19 = .ok (.aload_n 0, 1) := by decide +kernel
theorem dX12_laysTypes_20 : decode cX12_laysTypes 20 = .ok (.getfield 19, 3) := by decide +kernel
theorem dX12_laysTypes_23 : decode cX12_laysTypes 23 = .ok (.iload_n 1, 1) := by decide +kernel
theorem dX12_laysTypes_24 : decode cX12_laysTypes 24 = .ok (.iconst 1, 1) := by decide +kernel
theorem dX12_laysTypes_25 : decode cX12_laysTypes 25 = .ok (.iastore, 1) := by decide +kernel
theorem dX12_laysTypes_26 : decode cX12_laysTypes 26 = .ok (.aload_n 0, 1) := by decide +kernel
theorem dX12_laysTypes_27 : decode cX12_laysTypes 27 = .ok (.getfield 22, 3) := by decide +kernel
theorem dX12_laysTypes_30 : decode cX12_laysTypes 30 = .ok (.iload_n 1, 1) := by decide +kernel
theorem dX12_laysTypes_31 : decode cX12_laysTypes 31 = .ok (.iload_n 1, 1) := by decide +kernel
theorem dX12_laysTypes_32 : decode cX12_laysTypes 32 = .ok (.ifCond .ne 7, 3) := by decide +kernel
theorem dX12_laysTypes_35 : decode cX12_laysTypes 35 = .ok (.iconst 1, 1) := by decide +kernel
theorem dX12_laysTypes_36 : decode cX12_laysTypes 36 = .ok (.goto 4, 3) := by decide +kernel
theorem dX12_laysTypes_39 : decode cX12_laysTypes 39 = .ok (.iconst 0, 1) := by decide +kernel
theorem dX12_laysTypes_40 : decode cX12_laysTypes 40 = .ok (.bastore, 1) := by decide +kernel
theorem dX12_laysTypes_41 : decode cX12_laysTypes 41 = .ok (.iinc 1 1, 3) := by decide +kernel
theorem dX12_laysTypes_44 : decode cX12_laysTypes 44 = .ok (.goto (-37), 3) := by decide +kernel
theorem dX12_laysTypes_47 : decode cX12_laysTypes 47 = .ok (.aload_n 0, 1) := by decide +kernel
theorem dX12_laysTypes_48 : decode cX12_laysTypes 48 = .ok (.iconst 0, 1) := by decide +kernel
theorem dX12_laysTypes_49 : decode cX12_laysTypes 49 = .ok (.iconst 0, 1) := by decide +kernel
theorem dX12_laysTypes_50 : decode cX12_laysTypes 50 = .ok (.invokevirtual 234, 3) := by decide +kernel
theorem dX12_laysTypes_53 : decode cX12_laysTypes 53 = .ok (.pop, 1) := by decide +kernel
theorem dX12_laysTypes_54 : decode cX12_laysTypes 54 = .ok (.return_, 1) := by decide +kernel
theorem dX12_loose_0 : decode cX12_loose 0 = .ok (.iload_n 1, 1) := by decide +kernel
theorem dX12_loose_1 : decode cX12_loose 1 = .ok (.iconst 0, 1) := by decide +kernel
theorem dX12_loose_2 : decode cX12_loose 2 = .ok (.aload_n 0, 1) := by decide +kernel
theorem dX12_loose_3 : decode cX12_loose 3 = .ok (.getfield 99, 3) := by decide +kernel
theorem dX12_loose_6 : decode cX12_loose 6 = .ok (.aload_n 0, 1) := by decide +kernel
theorem dX12_loose_7 : decode cX12_loose 7 = .ok (.getfield 392, 3) := by decide +kernel
theorem dX12_loose_10 : decode cX12_loose 10 = .ok (.iaload, 1) := by decide +kernel
theorem dX12_loose_11 : decode cX12_loose 11 = .ok (.iconst 1, 1) := by decide +kernel
theorem dX12_loose_12 : decode cX12_loose 12 = .ok (.isub, 1) := by decide +kernel
theorem dX12_loose_13 : decode cX12_loose 13 = .ok (.invokestatic 334, 3) := by decide +kernel
theorem dX12_loose_16 : decode cX12_loose 16 = .ok (.ifCond .ne 5, 3) := by decide +kernel
theorem dX12_loose_19 : decode cX12_loose 19 = .ok (.iconst (-1), 1) := by decide +kernel
theorem dX12_loose_20 : decode cX12_loose 20 = .ok (.ireturn, 1) := by decide +kernel
theorem dX12_manyOf_0 : decode cX12_manyOf 0 = .ok (.iload_n 1, 1) := by decide +kernel
theorem dX12_manyOf_1 : decode cX12_manyOf 1 = .ok (.tableswitch 86 0 8 #[51, 76, 56, 66, 66, 66, 71, 76, 76], 51) := by decide +kernel
theorem dX12_manyOf_52 : decode cX12_manyOf 52 = .ok (.aload_n 0, 1) := by decide +kernel
theorem dX12_manyOf_53 : decode cX12_manyOf 53 = .ok (.getfield 619, 3) := by decide +kernel
theorem dX12_manyOf_56 : decode cX12_manyOf 56 = .ok (.ireturn, 1) := by decide +kernel
theorem dX12_manyOf_57 : decode cX12_manyOf 57 = .ok (.aload_n 0, 1) := by decide +kernel
theorem dX12_manyOf_58 : decode cX12_manyOf 58 = .ok (.getfield 99, 3) := by decide +kernel
theorem dX12_manyOf_61 : decode cX12_manyOf 61 = .ok (.aload_n 0, 1) := by decide +kernel
theorem dX12_manyOf_62 : decode cX12_manyOf 62 = .ok (.getfield 392, 3) := by decide +kernel
theorem dX12_manyOf_65 : decode cX12_manyOf 65 = .ok (.iaload, 1) := by decide +kernel
theorem dX12_manyOf_66 : decode cX12_manyOf 66 = .ok (.ireturn, 1) := by decide +kernel
theorem dX12_manyOf_67 : decode cX12_manyOf 67 = .ok (.aload_n 0, 1) := by decide +kernel
theorem dX12_manyOf_68 : decode cX12_manyOf 68 = .ok (.getfield 457, 3) := by decide +kernel
theorem dX12_manyOf_71 : decode cX12_manyOf 71 = .ok (.ireturn, 1) := by decide +kernel
theorem dX12_manyOf_72 : decode cX12_manyOf 72 = .ok (.aload_n 0, 1) := by decide +kernel
theorem dX12_manyOf_73 : decode cX12_manyOf 73 = .ok (.getfield 648, 3) := by decide +kernel
theorem dX12_manyOf_76 : decode cX12_manyOf 76 = .ok (.ireturn, 1) := by decide +kernel
theorem dX12_manyOf_77 : decode cX12_manyOf 77 = .ok (.aload_n 0, 1) := by decide +kernel
theorem dX12_manyOf_78 : decode cX12_manyOf 78 = .ok (.getfield 96, 3) := by decide +kernel
theorem dX12_manyOf_81 : decode cX12_manyOf 81 = .ok (.aload_n 0, 1) := by decide +kernel
theorem dX12_manyOf_82 : decode cX12_manyOf 82 = .ok (.getfield 392, 3) := by decide +kernel
theorem dX12_manyOf_85 : decode cX12_manyOf 85 = .ok (.iaload, 1) := by decide +kernel
theorem dX12_manyOf_86 : decode cX12_manyOf 86 = .ok (.ireturn, 1) := by decide +kernel
theorem dX12_manyOf_87 : decode cX12_manyOf 87 = .ok (.iconst 0, 1) := by decide +kernel
theorem dX12_manyOf_88 : decode cX12_manyOf 88 = .ok (.ireturn, 1) := by decide +kernel
theorem dX12_max_0 : decode cX12_max 0 = .ok (.iload_n 0, 1) := by decide +kernel
theorem dX12_max_1 : decode cX12_max 1 = .ok (.iload_n 1, 1) := by decide +kernel
theorem dX12_max_2 : decode cX12_max 2 = .ok (.if_icmp .le 7, 3) := by decide +kernel
theorem dX12_max_9 : decode cX12_max 9 = .ok (.iload_n 1, 1) := by decide +kernel
theorem dX12_max_10 : decode cX12_max 10 = .ok (.ireturn, 1) := by decide +kernel
theorem dX12_meet_0 : decode cX12_meet 0 = .ok (.aload_n 0, 1) := by decide +kernel
theorem dX12_meet_1 : decode cX12_meet 1 = .ok (.iload_n 1, 1) := by decide +kernel
theorem dX12_meet_2 : decode cX12_meet 2 = .ok (.iload_n 2, 1) := by decide +kernel
theorem dX12_meet_3 : decode cX12_meet 3 = .ok (.invokevirtual 622, 3) := by decide +kernel
theorem dX12_meet_6 : decode cX12_meet 6 = .ok (.ifCond .ne 5, 3) := by decide +kernel
theorem dX12_meet_9 : decode cX12_meet 9 = .ok (.iconst (-1), 1) := by decide +kernel
theorem dX12_meet_10 : decode cX12_meet 10 = .ok (.ireturn, 1) := by decide +kernel
theorem dX12_node_0 : decode cX12_node 0 = .ok (.iload_n 1, 1) := by decide +kernel
theorem dX12_node_1 : decode cX12_node 1 = .ok (.iconst 0, 1) := by decide +kernel
theorem dX12_node_2 : decode cX12_node 2 = .ok (.aload_n 0, 1) := by decide +kernel
theorem dX12_node_3 : decode cX12_node 3 = .ok (.getfield 96, 3) := by decide +kernel
theorem dX12_node_6 : decode cX12_node 6 = .ok (.aload_n 0, 1) := by decide +kernel
theorem dX12_node_7 : decode cX12_node 7 = .ok (.getfield 392, 3) := by decide +kernel
theorem dX12_node_10 : decode cX12_node 10 = .ok (.iaload, 1) := by decide +kernel
theorem dX12_node_11 : decode cX12_node 11 = .ok (.iconst 1, 1) := by decide +kernel
theorem dX12_node_12 : decode cX12_node 12 = .ok (.isub, 1) := by decide +kernel
theorem dX12_node_13 : decode cX12_node 13 = .ok (.invokestatic 334, 3) := by decide +kernel
theorem dX12_node_16 : decode cX12_node 16 = .ok (.ifCond .ne 5, 3) := by decide +kernel
theorem dX12_node_19 : decode cX12_node 19 = .ok (.iconst (-1), 1) := by decide +kernel
theorem dX12_node_20 : decode cX12_node 20 = .ok (.ireturn, 1) := by decide +kernel
theorem dX12_node_21 : decode cX12_node 21 = .ok (.iload_n 2, 1) := by decide +kernel
theorem dX12_node_22 : decode cX12_node 22 = .ok (.tableswitch 144 0 7 #[46, 61, 76, 91, 103, 115, 130, 137], 46) := by decide +kernel
theorem dX12_node_68 : decode cX12_node 68 = .ok (.aload_n 0, 1) := by decide +kernel
theorem dX12_node_69 : decode cX12_node 69 = .ok (.getfield 72, 3) := by decide +kernel
theorem dX12_node_72 : decode cX12_node 72 = .ok (.bipush 60, 2) := by decide +kernel
theorem dX12_node_74 : decode cX12_node 74 = .ok (.aload_n 0, 1) := by decide +kernel
theorem dX12_node_75 : decode cX12_node 75 = .ok (.getfield 392, 3) := by decide +kernel
theorem dX12_node_78 : decode cX12_node 78 = .ok (.imul, 1) := by decide +kernel
theorem dX12_node_79 : decode cX12_node 79 = .ok (.iload_n 1, 1) := by decide +kernel
theorem dX12_node_80 : decode cX12_node 80 = .ok (.iadd, 1) := by decide +kernel
theorem dX12_node_81 : decode cX12_node 81 = .ok (.iaload, 1) := by decide +kernel
theorem dX12_node_82 : decode cX12_node 82 = .ok (.ireturn, 1) := by decide +kernel
theorem dX12_node_83 : decode cX12_node 83 = .ok (.aload_n 0, 1) := by decide +kernel
theorem dX12_node_84 : decode cX12_node 84 = .ok (.getfield 78, 3) := by decide +kernel
theorem dX12_node_87 : decode cX12_node 87 = .ok (.bipush 60, 2) := by decide +kernel
theorem dX12_node_89 : decode cX12_node 89 = .ok (.aload_n 0, 1) := by decide +kernel
theorem dX12_node_90 : decode cX12_node 90 = .ok (.getfield 392, 3) := by decide +kernel
theorem dX12_node_93 : decode cX12_node 93 = .ok (.imul, 1) := by decide +kernel
theorem dX12_node_94 : decode cX12_node 94 = .ok (.iload_n 1, 1) := by decide +kernel
theorem dX12_node_95 : decode cX12_node 95 = .ok (.iadd, 1) := by decide +kernel
theorem dX12_node_96 : decode cX12_node 96 = .ok (.iaload, 1) := by decide +kernel
theorem dX12_node_97 : decode cX12_node 97 = .ok (.ireturn, 1) := by decide +kernel
theorem dX12_node_98 : decode cX12_node 98 = .ok (.aload_n 0, 1) := by decide +kernel
theorem dX12_node_99 : decode cX12_node 99 = .ok (.getfield 75, 3) := by decide +kernel
theorem dX12_node_102 : decode cX12_node 102 = .ok (.bipush 60, 2) := by decide +kernel
theorem dX12_node_104 : decode cX12_node 104 = .ok (.aload_n 0, 1) := by decide +kernel
theorem dX12_node_105 : decode cX12_node 105 = .ok (.getfield 392, 3) := by decide +kernel
theorem dX12_node_108 : decode cX12_node 108 = .ok (.imul, 1) := by decide +kernel
theorem dX12_node_109 : decode cX12_node 109 = .ok (.iload_n 1, 1) := by decide +kernel
theorem dX12_node_110 : decode cX12_node 110 = .ok (.iadd, 1) := by decide +kernel
theorem dX12_node_111 : decode cX12_node 111 = .ok (.iaload, 1) := by decide +kernel
theorem dX12_node_112 : decode cX12_node 112 = .ok (.ireturn, 1) := by decide +kernel
theorem dX12_node_113 : decode cX12_node 113 = .ok (.aload_n 0, 1) := by decide +kernel
theorem dX12_node_114 : decode cX12_node 114 = .ok (.getfield 19, 3) := by decide +kernel
theorem dX12_node_117 : decode cX12_node 117 = .ok (.aload_n 0, 1) := by decide +kernel
theorem dX12_node_118 : decode cX12_node 118 = .ok (.getfield 127, 3) := by decide +kernel
theorem dX12_node_121 : decode cX12_node 121 = .ok (.iload_n 1, 1) := by decide +kernel
theorem dX12_node_122 : decode cX12_node 122 = .ok (.iaload, 1) := by decide +kernel
theorem dX12_node_123 : decode cX12_node 123 = .ok (.iaload, 1) := by decide +kernel
theorem dX12_node_124 : decode cX12_node 124 = .ok (.ireturn, 1) := by decide +kernel
theorem dX12_node_125 : decode cX12_node 125 = .ok (.aload_n 0, 1) := by decide +kernel
theorem dX12_node_126 : decode cX12_node 126 = .ok (.getfield 16, 3) := by decide +kernel
theorem dX12_node_129 : decode cX12_node 129 = .ok (.aload_n 0, 1) := by decide +kernel
theorem dX12_node_130 : decode cX12_node 130 = .ok (.getfield 127, 3) := by decide +kernel
theorem dX12_node_133 : decode cX12_node 133 = .ok (.iload_n 1, 1) := by decide +kernel
theorem dX12_node_134 : decode cX12_node 134 = .ok (.iaload, 1) := by decide +kernel
theorem dX12_node_135 : decode cX12_node 135 = .ok (.iaload, 1) := by decide +kernel
theorem dX12_node_136 : decode cX12_node 136 = .ok (.ireturn, 1) := by decide +kernel
theorem dX12_node_137 : decode cX12_node 137 = .ok (.aload_n 0, 1) := by decide +kernel
theorem dX12_node_138 : decode cX12_node 138 = .ok (.getfield 154, 3) := by decide +kernel
theorem dX12_node_141 : decode cX12_node 141 = .ok (.iload_n 1, 1) := by decide +kernel
theorem dX12_node_142 : decode cX12_node 142 = .ok (.baload, 1) := by decide +kernel
theorem dX12_node_143 : decode cX12_node 143 = .ok (.ifCond .eq 7, 3) := by decide +kernel
theorem dX12_node_146 : decode cX12_node 146 = .ok (.iconst 1, 1) := by decide +kernel
theorem dX12_node_147 : decode cX12_node 147 = .ok (.goto 4, 3) := by decide +kernel
theorem dX12_node_151 : decode cX12_node 151 = .ok (.ireturn, 1) := by decide +kernel
theorem dX12_node_152 : decode cX12_node 152 = .ok (.aload_n 0, 1) := by decide +kernel
theorem dX12_node_153 : decode cX12_node 153 = .ok (.getfield 148, 3) := by decide +kernel
theorem dX12_node_156 : decode cX12_node 156 = .ok (.iload_n 1, 1) := by decide +kernel
theorem dX12_node_157 : decode cX12_node 157 = .ok (.iaload, 1) := by decide +kernel
theorem dX12_node_158 : decode cX12_node 158 = .ok (.ireturn, 1) := by decide +kernel
theorem dX12_node_159 : decode cX12_node 159 = .ok (.aload_n 0, 1) := by decide +kernel
theorem dX12_node_160 : decode cX12_node 160 = .ok (.getfield 151, 3) := by decide +kernel
theorem dX12_node_163 : decode cX12_node 163 = .ok (.iload_n 1, 1) := by decide +kernel
theorem dX12_node_164 : decode cX12_node 164 = .ok (.iaload, 1) := by decide +kernel
theorem dX12_node_165 : decode cX12_node 165 = .ok (.ireturn, 1) := by decide +kernel
theorem dX12_node_166 : decode cX12_node 166 = .ok (.iconst (-1), 1) := by decide +kernel
theorem dX12_node_167 : decode cX12_node 167 = .ok (.ireturn, 1) := by decide +kernel
theorem dX12_pair_0 : decode cX12_pair 0 = .ok (.aload_n 0, 1) := by decide +kernel
theorem dX12_pair_1 : decode cX12_pair 1 = .ok (.iload_n 1, 1) := by decide +kernel
theorem dX12_pair_2 : decode cX12_pair 2 = .ok (.iload_n 2, 1) := by decide +kernel
theorem dX12_pair_3 : decode cX12_pair 3 = .ok (.invokevirtual 622, 3) := by decide +kernel
theorem dX12_pair_6 : decode cX12_pair 6 = .ok (.ifCond .eq 12, 3) := by decide +kernel
theorem dX12_pair_18 : decode cX12_pair 18 = .ok (.iconst (-1), 1) := by decide +kernel
theorem dX12_pair_19 : decode cX12_pair 19 = .ok (.ireturn, 1) := by decide +kernel
theorem dX12_piles_0 : decode cX12_piles 0 = .ok (.aload_n 0, 1) := by decide +kernel
theorem dX12_piles_1 : decode cX12_piles 1 = .ok (.getfield 38, 3) := by decide +kernel
theorem dX12_piles_4 : decode cX12_piles 4 = .ok (.aload_n 0, 1) := by decide +kernel
theorem dX12_piles_5 : decode cX12_piles 5 = .ok (.getfield 257, 3) := by decide +kernel
theorem dX12_piles_8 : decode cX12_piles 8 = .ok (.iload_n 1, 1) := by decide +kernel
theorem dX12_piles_9 : decode cX12_piles 9 = .ok (.iastore, 1) := by decide +kernel
theorem dX12_piles_10 : decode cX12_piles 10 = .ok (.aload_n 0, 1) := by decide +kernel
theorem dX12_piles_11 : decode cX12_piles 11 = .ok (.aload_n 0, 1) := by decide +kernel
theorem dX12_piles_12 : decode cX12_piles 12 = .ok (.getfield 257, 3) := by decide +kernel
theorem dX12_piles_15 : decode cX12_piles 15 = .ok (.iconst 1, 1) := by decide +kernel
theorem dX12_piles_16 : decode cX12_piles 16 = .ok (.iadd, 1) := by decide +kernel
theorem dX12_piles_17 : decode cX12_piles 17 = .ok (.putfield 257, 3) := by decide +kernel
theorem dX12_piles_20 : decode cX12_piles 20 = .ok (.return_, 1) := by decide +kernel
theorem dX12_program_0 : decode cX12_program 0 = .ok (.aload_n 0, 1) := by decide +kernel
theorem dX12_program_1 : decode cX12_program 1 = .ok (.iload_n 1, 1) := by decide +kernel
theorem dX12_program_2 : decode cX12_program 2 = .ok (.sipush 240, 3) := by decide +kernel
theorem dX12_program_5 : decode cX12_program 5 = .ok (.invokevirtual 494, 3) := by decide +kernel
theorem dX12_program_8 : decode cX12_program 8 = .ok (.ifCond .ne 5, 3) := by decide +kernel
theorem dX12_program_11 : decode cX12_program 11 = .ok (.iconst (-1), 1) := by decide +kernel
theorem dX12_program_12 : decode cX12_program 12 = .ok (.ireturn, 1) := by decide +kernel
theorem dX12_run_0 : decode cX12_run 0 = .ok (.iload_n 1, 1) := by decide +kernel
theorem dX12_run_1 : decode cX12_run 1 = .ok (.iconst 0, 1) := by decide +kernel
theorem dX12_run_2 : decode cX12_run 2 = .ok (.iconst 2, 1) := by decide +kernel
theorem dX12_run_3 : decode cX12_run 3 = .ok (.invokestatic 334, 3) := by decide +kernel
theorem dX12_run_6 : decode cX12_run 6 = .ok (.ifCond .eq 13, 3) := by decide +kernel
theorem dX12_run_9 : decode cX12_run 9 = .ok (.iload_n 2, 1) := by decide +kernel
theorem dX12_run_10 : decode cX12_run 10 = .ok (.iconst 0, 1) := by decide +kernel
theorem dX12_run_11 : decode cX12_run 11 = .ok (.bipush 8, 2) := by decide +kernel
theorem dX12_run_13 : decode cX12_run 13 = .ok (.invokestatic 334, 3) := by decide +kernel
theorem dX12_run_16 : decode cX12_run 16 = .ok (.ifCond .ne 7, 3) := by decide +kernel
theorem dX12_run_19 : decode cX12_run 19 = .ok (.ldc_w 603, 3) := by decide +kernel
theorem dX12_run_22 : decode cX12_run 22 = .ok (.ireturn, 1) := by decide +kernel
theorem dX12_run_23 : decode cX12_run 23 = .ok (.aload_n 0, 1) := by decide +kernel
theorem dX12_run_24 : decode cX12_run 24 = .ok (.iload_n 1, 1) := by decide +kernel
theorem dX12_run_25 : decode cX12_run 25 = .ok (.sipush 1500, 3) := by decide +kernel
theorem dX12_run_28 : decode cX12_run 28 = .ok (.invokevirtual 604, 3) := by decide +kernel
theorem dX12_run_31 : decode cX12_run 31 = .ok (.iload_n 2, 1) := by decide +kernel
theorem dX12_run_32 : decode cX12_run 32 = .ok (.tableswitch 88 0 7 #[48, 53, 58, 63, 68, 73, 78, 83], 48) := by decide +kernel
theorem dX12_run_80 : decode cX12_run 80 = .ok (.aload_n 0, 1) := by decide +kernel
theorem dX12_run_81 : decode cX12_run 81 = .ok (.getfield 553, 3) := by decide +kernel
theorem dX12_run_84 : decode cX12_run 84 = .ok (.ireturn, 1) := by decide +kernel
theorem dX12_run_85 : decode cX12_run 85 = .ok (.aload_n 0, 1) := by decide +kernel
theorem dX12_run_86 : decode cX12_run 86 = .ok (.getfield 556, 3) := by decide +kernel
theorem dX12_run_89 : decode cX12_run 89 = .ok (.ireturn, 1) := by decide +kernel
theorem dX12_run_90 : decode cX12_run 90 = .ok (.aload_n 0, 1) := by decide +kernel
theorem dX12_run_91 : decode cX12_run 91 = .ok (.getfield 559, 3) := by decide +kernel
theorem dX12_run_94 : decode cX12_run 94 = .ok (.ireturn, 1) := by decide +kernel
theorem dX12_run_95 : decode cX12_run 95 = .ok (.aload_n 0, 1) := by decide +kernel
theorem dX12_run_96 : decode cX12_run 96 = .ok (.getfield 588, 3) := by decide +kernel
theorem dX12_run_99 : decode cX12_run 99 = .ok (.ireturn, 1) := by decide +kernel
theorem dX12_run_100 : decode cX12_run 100 = .ok (.aload_n 0, 1) := by decide +kernel
theorem dX12_run_101 : decode cX12_run 101 = .ok (.getfield 591, 3) := by decide +kernel
theorem dX12_run_104 : decode cX12_run 104 = .ok (.ireturn, 1) := by decide +kernel
theorem dX12_run_105 : decode cX12_run 105 = .ok (.aload_n 0, 1) := by decide +kernel
theorem dX12_run_106 : decode cX12_run 106 = .ok (.getfield 594, 3) := by decide +kernel
theorem dX12_run_109 : decode cX12_run 109 = .ok (.ireturn, 1) := by decide +kernel
theorem dX12_run_110 : decode cX12_run 110 = .ok (.aload_n 0, 1) := by decide +kernel
theorem dX12_run_111 : decode cX12_run 111 = .ok (.getfield 500, 3) := by decide +kernel
theorem dX12_run_114 : decode cX12_run 114 = .ok (.ireturn, 1) := by decide +kernel
theorem dX12_run_115 : decode cX12_run 115 = .ok (.aload_n 0, 1) := by decide +kernel
theorem dX12_run_116 : decode cX12_run 116 = .ok (.getfield 503, 3) := by decide +kernel
theorem dX12_run_119 : decode cX12_run 119 = .ok (.ireturn, 1) := by decide +kernel
theorem dX12_run_120 : decode cX12_run 120 = .ok (.aload_n 0, 1) := by decide +kernel
theorem dX12_run_121 : decode cX12_run 121 = .ok (.getfield 518, 3) := by decide +kernel
theorem dX12_run_124 : decode cX12_run 124 = .ok (.ireturn, 1) := by decide +kernel
theorem dX12_runs_0 : decode cX12_runs 0 = .ok (.aload_n 0, 1) := by decide +kernel
theorem dX12_runs_1 : decode cX12_runs 1 = .ok (.invokevirtual 585, 3) := by decide +kernel
theorem dX12_runs_4 : decode cX12_runs 4 = .ok (.aload_n 0, 1) := by decide +kernel
theorem dX12_runs_5 : decode cX12_runs 5 = .ok (.iload_n 1, 1) := by decide +kernel
theorem dX12_runs_6 : decode cX12_runs 6 = .ok (.putfield 512, 3) := by decide +kernel
theorem dX12_runs_9 : decode cX12_runs 9 = .ok (.aload_n 0, 1) := by decide +kernel
theorem dX12_runs_10 : decode cX12_runs 10 = .ok (.iconst 0, 1) := by decide +kernel
theorem dX12_runs_11 : decode cX12_runs 11 = .ok (.putfield 506, 3) := by decide +kernel
theorem dX12_runs_14 : decode cX12_runs 14 = .ok (.aload_n 0, 1) := by decide +kernel
theorem dX12_runs_15 : decode cX12_runs 15 = .ok (.iconst 0, 1) := by decide +kernel
theorem dX12_runs_16 : decode cX12_runs 16 = .ok (.putfield 509, 3) := by decide +kernel
theorem dX12_runs_19 : decode cX12_runs 19 = .ok (.aload_n 0, 1) := by decide +kernel
theorem dX12_runs_20 : decode cX12_runs 20 = .ok (.iconst 0, 1) := by decide +kernel
theorem dX12_runs_21 : decode cX12_runs 21 = .ok (.putfield 550, 3) := by decide +kernel
theorem dX12_runs_24 : decode cX12_runs 24 = .ok (.aload_n 0, 1) := by decide +kernel
theorem dX12_runs_25 : decode cX12_runs 25 = .ok (.iconst 0, 1) := by decide +kernel
theorem dX12_runs_26 : decode cX12_runs 26 = .ok (.putfield 568, 3) := by decide +kernel
theorem dX12_runs_29 : decode cX12_runs 29 = .ok (.aload_n 0, 1) := by decide +kernel
theorem dX12_runs_30 : decode cX12_runs 30 = .ok (.iconst 0, 1) := by decide +kernel
theorem dX12_runs_31 : decode cX12_runs 31 = .ok (.putfield 588, 3) := by decide +kernel
theorem dX12_runs_34 : decode cX12_runs 34 = .ok (.aload_n 0, 1) := by decide +kernel
theorem dX12_runs_35 : decode cX12_runs 35 = .ok (.iconst 0, 1) := by decide +kernel
theorem dX12_runs_36 : decode cX12_runs 36 = .ok (.putfield 591, 3) := by decide +kernel
theorem dX12_runs_39 : decode cX12_runs 39 = .ok (.aload_n 0, 1) := by decide +kernel
theorem dX12_runs_40 : decode cX12_runs 40 = .ok (.iconst 0, 1) := by decide +kernel
theorem dX12_runs_41 : decode cX12_runs 41 = .ok (.putfield 594, 3) := by decide +kernel
theorem dX12_runs_44 : decode cX12_runs 44 = .ok (.aload_n 0, 1) := by decide +kernel
theorem dX12_runs_45 : decode cX12_runs 45 = .ok (.iconst 0, 1) := by decide +kernel
theorem dX12_runs_46 : decode cX12_runs 46 = .ok (.putfield 500, 3) := by decide +kernel
theorem dX12_runs_49 : decode cX12_runs 49 = .ok (.aload_n 0, 1) := by decide +kernel
theorem dX12_runs_50 : decode cX12_runs 50 = .ok (.iconst 0, 1) := by decide +kernel
theorem dX12_runs_51 : decode cX12_runs 51 = .ok (.putfield 503, 3) := by decide +kernel
theorem dX12_runs_54 : decode cX12_runs 54 = .ok (.aload_n 0, 1) := by decide +kernel
theorem dX12_runs_55 : decode cX12_runs 55 = .ok (.iconst 0, 1) := by decide +kernel
theorem dX12_runs_56 : decode cX12_runs 56 = .ok (.putfield 518, 3) := by decide +kernel
theorem dX12_runs_59 : decode cX12_runs 59 = .ok (.aload_n 0, 1) := by decide +kernel
theorem dX12_runs_60 : decode cX12_runs 60 = .ok (.iconst 1, 1) := by decide +kernel
theorem dX12_runs_61 : decode cX12_runs 61 = .ok (.putfield 531, 3) := by decide +kernel
theorem dX12_runs_64 : decode cX12_runs 64 = .ok (.aload_n 0, 1) := by decide +kernel
theorem dX12_runs_65 : decode cX12_runs 65 = .ok (.iconst 0, 1) := by decide +kernel
theorem dX12_runs_66 : decode cX12_runs 66 = .ok (.putfield 535, 3) := by decide +kernel
theorem dX12_runs_69 : decode cX12_runs 69 = .ok (.aload_n 0, 1) := by decide +kernel
theorem dX12_runs_70 : decode cX12_runs 70 = .ok (.iconst (-1), 1) := by decide +kernel
theorem dX12_runs_71 : decode cX12_runs 71 = .ok (.putfield 538, 3) := by decide +kernel
theorem dX12_runs_74 : decode cX12_runs 74 = .ok (.aload_n 0, 1) := by decide +kernel
theorem dX12_runs_75 : decode cX12_runs 75 = .ok (.iconst 1, 1) := by decide +kernel
theorem dX12_runs_76 : decode cX12_runs 76 = .ok (.putfield 541, 3) := by decide +kernel
theorem dX12_runs_79 : decode cX12_runs 79 = .ok (.aload_n 0, 1) := by decide +kernel
theorem dX12_runs_80 : decode cX12_runs 80 = .ok (.iconst (-1), 1) := by decide +kernel
theorem dX12_runs_81 : decode cX12_runs 81 = .ok (.putfield 553, 3) := by decide +kernel
theorem dX12_runs_84 : decode cX12_runs 84 = .ok (.aload_n 0, 1) := by decide +kernel
theorem dX12_runs_85 : decode cX12_runs 85 = .ok (.iconst 0, 1) := by decide +kernel
theorem dX12_runs_86 : decode cX12_runs 86 = .ok (.putfield 559, 3) := by decide +kernel
theorem dX12_runs_89 : decode cX12_runs 89 = .ok (.aload_n 0, 1) := by decide +kernel
theorem dX12_runs_90 : decode cX12_runs 90 = .ok (.getfield 553, 3) := by decide +kernel
theorem dX12_runs_93 : decode cX12_runs 93 = .ok (.iconst (-1), 1) := by decide +kernel
theorem dX12_runs_94 : decode cX12_runs 94 = .ok (.if_icmp .ne 132, 3) := by decide +kernel
theorem dX12_runs_97 : decode cX12_runs 97 = .ok (.aload_n 0, 1) := by decide +kernel
theorem dX12_runs_98 : decode cX12_runs 98 = .ok (.getfield 531, 3) := by decide +kernel
theorem dX12_runs_101 : decode cX12_runs 101 = .ok (.ifCond .ne 46, 3) := by decide +kernel
theorem dX12_runs_104 : decode cX12_runs 104 = .ok (.aload_n 0, 1) := by decide +kernel
theorem dX12_runs_105 : decode cX12_runs 105 = .ok (.getfield 506, 3) := by decide +kernel
theorem dX12_runs_108 : decode cX12_runs 108 = .ok (.ifCond .ne 39, 3) := by decide +kernel
theorem dX12_runs_111 : decode cX12_runs 111 = .ok (.aload_n 0, 1) := by decide +kernel
theorem dX12_runs_112 : decode cX12_runs 112 = .ok (.aload_n 0, 1) := by decide +kernel
theorem dX12_runs_113 : decode cX12_runs 113 = .ok (.getfield 541, 3) := by decide +kernel
theorem dX12_runs_116 : decode cX12_runs 116 = .ok (.aload_n 0, 1) := by decide +kernel
theorem dX12_runs_117 : decode cX12_runs 117 = .ok (.getfield 541, 3) := by decide +kernel
theorem dX12_runs_120 : decode cX12_runs 120 = .ok (.iconst 3, 1) := by decide +kernel
theorem dX12_runs_121 : decode cX12_runs 121 = .ok (.if_icmp .ne 15, 3) := by decide +kernel
theorem dX12_runs_136 : decode cX12_runs 136 = .ok (.aload_n 0, 1) := by decide +kernel
theorem dX12_runs_137 : decode cX12_runs 137 = .ok (.getfield 544, 3) := by decide +kernel
theorem dX12_runs_140 : decode cX12_runs 140 = .ok (.iconst 0, 1) := by decide +kernel
theorem dX12_runs_141 : decode cX12_runs 141 = .ok (.invokevirtual 562, 3) := by decide +kernel
theorem dX12_runs_144 : decode cX12_runs 144 = .ok (.goto (-55), 3) := by decide +kernel
theorem dX12_runs_147 : decode cX12_runs 147 = .ok (.aload_n 0, 1) := by decide +kernel
theorem dX12_runs_148 : decode cX12_runs 148 = .ok (.getfield 588, 3) := by decide +kernel
theorem dX12_runs_151 : decode cX12_runs 151 = .ok (.iload_n 2, 1) := by decide +kernel
theorem dX12_runs_152 : decode cX12_runs 152 = .ok (.if_icmp .ne 13, 3) := by decide +kernel
theorem dX12_runs_155 : decode cX12_runs 155 = .ok (.aload_n 0, 1) := by decide +kernel
theorem dX12_runs_156 : decode cX12_runs 156 = .ok (.iconst 0, 1) := by decide +kernel
theorem dX12_runs_157 : decode cX12_runs 157 = .ok (.iconst 0, 1) := by decide +kernel
theorem dX12_runs_158 : decode cX12_runs 158 = .ok (.iconst 0, 1) := by decide +kernel
theorem dX12_runs_159 : decode cX12_runs 159 = .ok (.invokevirtual 562, 3) := by decide +kernel
theorem dX12_runs_162 : decode cX12_runs 162 = .ok (.goto (-73), 3) := by decide +kernel
theorem dX12_runs_165 : decode cX12_runs 165 = .ok (.aload_n 0, 1) := by decide +kernel
theorem dX12_runs_166 : decode cX12_runs 166 = .ok (.aload_n 0, 1) := by decide +kernel
theorem dX12_runs_167 : decode cX12_runs 167 = .ok (.getfield 588, 3) := by decide +kernel
theorem dX12_runs_170 : decode cX12_runs 170 = .ok (.iconst 1, 1) := by decide +kernel
theorem dX12_runs_171 : decode cX12_runs 171 = .ok (.iadd, 1) := by decide +kernel
theorem dX12_runs_172 : decode cX12_runs 172 = .ok (.putfield 588, 3) := by decide +kernel
theorem dX12_runs_175 : decode cX12_runs 175 = .ok (.aload_n 0, 1) := by decide +kernel
theorem dX12_runs_176 : decode cX12_runs 176 = .ok (.getfield 531, 3) := by decide +kernel
theorem dX12_runs_179 : decode cX12_runs 179 = .ok (.ifCond .eq 10, 3) := by decide +kernel
theorem dX12_runs_182 : decode cX12_runs 182 = .ok (.aload_n 0, 1) := by decide +kernel
theorem dX12_runs_183 : decode cX12_runs 183 = .ok (.invokevirtual 597, 3) := by decide +kernel
theorem dX12_runs_186 : decode cX12_runs 186 = .ok (.goto 7, 3) := by decide +kernel
theorem dX12_runs_193 : decode cX12_runs 193 = .ok (.aload_n 0, 1) := by decide +kernel
theorem dX12_runs_194 : decode cX12_runs 194 = .ok (.aload_n 0, 1) := by decide +kernel
theorem dX12_runs_195 : decode cX12_runs 195 = .ok (.getfield 591, 3) := by decide +kernel
theorem dX12_runs_198 : decode cX12_runs 198 = .ok (.aload_n 0, 1) := by decide +kernel
theorem dX12_runs_199 : decode cX12_runs 199 = .ok (.getfield 506, 3) := by decide +kernel
theorem dX12_runs_202 : decode cX12_runs 202 = .ok (.invokestatic 238, 3) := by decide +kernel
theorem dX12_runs_205 : decode cX12_runs 205 = .ok (.putfield 591, 3) := by decide +kernel
theorem dX12_runs_208 : decode cX12_runs 208 = .ok (.aload_n 0, 1) := by decide +kernel
theorem dX12_runs_209 : decode cX12_runs 209 = .ok (.aload_n 0, 1) := by decide +kernel
theorem dX12_runs_210 : decode cX12_runs 210 = .ok (.getfield 594, 3) := by decide +kernel
theorem dX12_runs_213 : decode cX12_runs 213 = .ok (.aload_n 0, 1) := by decide +kernel
theorem dX12_runs_214 : decode cX12_runs 214 = .ok (.getfield 509, 3) := by decide +kernel
theorem dX12_runs_217 : decode cX12_runs 217 = .ok (.invokestatic 238, 3) := by decide +kernel
theorem dX12_runs_220 : decode cX12_runs 220 = .ok (.putfield 594, 3) := by decide +kernel
theorem dX12_runs_223 : decode cX12_runs 223 = .ok (.goto (-134), 3) := by decide +kernel
theorem dX12_runs_226 : decode cX12_runs 226 = .ok (.return_, 1) := by decide +kernel
theorem dX12_says_0 : decode cX12_says 0 = .ok (.aload_n 0, 1) := by decide +kernel
theorem dX12_says_1 : decode cX12_says 1 = .ok (.getfield 669, 3) := by decide +kernel
theorem dX12_says_4 : decode cX12_says 4 = .ok (.sipush 3000, 3) := by decide +kernel
theorem dX12_says_7 : decode cX12_says 7 = .ok (.if_icmp .ne 4, 3) := by decide +kernel
theorem dX12_says_11 : decode cX12_says 11 = .ok (.aload_n 0, 1) := by decide +kernel
theorem dX12_says_12 : decode cX12_says 12 = .ok (.getfield 217, 3) := by decide +kernel
theorem dX12_says_15 : decode cX12_says 15 = .ok (.aload_n 0, 1) := by decide +kernel
theorem dX12_says_16 : decode cX12_says 16 = .ok (.getfield 669, 3) := by decide +kernel
theorem dX12_says_19 : decode cX12_says 19 = .ok (.iload_n 1, 1) := by decide +kernel
theorem dX12_says_20 : decode cX12_says 20 = .ok (.i2b, 1) := by decide +kernel
theorem dX12_says_21 : decode cX12_says 21 = .ok (.bastore, 1) := by decide +kernel
theorem dX12_says_22 : decode cX12_says 22 = .ok (.aload_n 0, 1) := by decide +kernel
theorem dX12_says_23 : decode cX12_says 23 = .ok (.aload_n 0, 1) := by decide +kernel
theorem dX12_says_24 : decode cX12_says 24 = .ok (.getfield 669, 3) := by decide +kernel
theorem dX12_says_27 : decode cX12_says 27 = .ok (.iconst 1, 1) := by decide +kernel
theorem dX12_says_28 : decode cX12_says 28 = .ok (.iadd, 1) := by decide +kernel
theorem dX12_says_29 : decode cX12_says 29 = .ok (.putfield 669, 3) := by decide +kernel
