theorem dL_0 : decode code 0 = .ok (.new 7, 3) := by decide +kernel
theorem dL_3 : decode code 3 = .ok (.dup, 1) := by decide +kernel
theorem dL_4 : decode code 4 = .ok (.invokespecial 9, 3) := by decide +kernel
theorem dL_7 : decode code 7 = .ok (.astore_n 1, 1) := by decide +kernel
theorem dL_8 : decode code 8 = .ok (.new 10, 3) := by decide +kernel
theorem dL_11 : decode code 11 = .ok (.dup, 1) := by decide +kernel
theorem dL_12 : decode code 12 = .ok (.invokespecial 12, 3) := by decide +kernel
theorem dL_15 : decode code 15 = .ok (.astore_n 2, 1) := by decide +kernel
theorem dL_16 : decode code 16 = .ok (.iconst 0, 1) := by decide +kernel
theorem dL_17 : decode code 17 = .ok (.istore_n 3, 1) := by decide +kernel
theorem dL_18 : decode code 18 = .ok (.iload_n 3, 1) := by decide +kernel
theorem dL_19 : decode code 19 = .ok (.aload_n 0, 1) := by decide +kernel
theorem dL_20 : decode code 20 = .ok (.arraylength, 1) := by decide +kernel
theorem dL_21 : decode code 21 = .ok (.bipush 6, 2) := by decide +kernel
theorem dL_23 : decode code 23 = .ok (.isub, 1) := by decide +kernel
theorem dL_24 : decode code 24 = .ok (.if_icmp .gt 2334, 3) := by decide +kernel
theorem dL_27 : decode code 27 = .ok (.aload_n 0, 1) := by decide +kernel
theorem dL_28 : decode code 28 = .ok (.iload_n 3, 1) := by decide +kernel
theorem dL_29 : decode code 29 = .ok (.iaload, 1) := by decide +kernel
theorem dL_30 : decode code 30 = .ok (.bipush 127, 2) := by decide +kernel
theorem dL_32 : decode code 32 = .ok (.iand, 1) := by decide +kernel
theorem dL_33 : decode code 33 = .ok (.tableswitch 2319 0 71 #[303, 366, 389, 402, 425, 448, 481, 504, 537, 560, 593, 616, 639, 662, 685, 708, 721, 734, 757, 770, 783, 806, 819, 842, 875, 898, 931, 954, 977, 1000, 1043, 1066, 1089, 1112, 1135, 1158, 1181, 1204, 1237, 1260, 1293, 1316, 1329, 1362, 1395, 1428, 1461, 1494, 1517, 1540, 1553, 1576, 1609, 1642, 1675, 1708, 1741, 1804, 1847, 1880, 1913, 1936, 1949, 1962, 1995, 2038, 2071, 2094, 2117, 2140, 2183, 2256], 303) := by decide +kernel
theorem dL_336 : decode code 336 = .ok (.aload_n 1, 1) := by decide +kernel
theorem dL_337 : decode code 337 = .ok (.aload_n 0, 1) := by decide +kernel
theorem dL_338 : decode code 338 = .ok (.iload_n 3, 1) := by decide +kernel
theorem dL_339 : decode code 339 = .ok (.iconst 1, 1) := by decide +kernel
theorem dL_340 : decode code 340 = .ok (.iadd, 1) := by decide +kernel
theorem dL_341 : decode code 341 = .ok (.iaload, 1) := by decide +kernel
theorem dL_342 : decode code 342 = .ok (.aload_n 0, 1) := by decide +kernel
theorem dL_343 : decode code 343 = .ok (.iload_n 3, 1) := by decide +kernel
theorem dL_344 : decode code 344 = .ok (.iconst 2, 1) := by decide +kernel
theorem dL_345 : decode code 345 = .ok (.iadd, 1) := by decide +kernel
theorem dL_346 : decode code 346 = .ok (.iaload, 1) := by decide +kernel
theorem dL_347 : decode code 347 = .ok (.aload_n 0, 1) := by decide +kernel
theorem dL_348 : decode code 348 = .ok (.iload_n 3, 1) := by decide +kernel
theorem dL_349 : decode code 349 = .ok (.iconst 3, 1) := by decide +kernel
theorem dL_350 : decode code 350 = .ok (.iadd, 1) := by decide +kernel
theorem dL_351 : decode code 351 = .ok (.iaload, 1) := by decide +kernel
theorem dL_352 : decode code 352 = .ok (.aload_n 0, 1) := by decide +kernel
theorem dL_353 : decode code 353 = .ok (.iload_n 3, 1) := by decide +kernel
theorem dL_354 : decode code 354 = .ok (.iconst 4, 1) := by decide +kernel
theorem dL_355 : decode code 355 = .ok (.iadd, 1) := by decide +kernel
theorem dL_356 : decode code 356 = .ok (.iaload, 1) := by decide +kernel
theorem dL_357 : decode code 357 = .ok (.aload_n 0, 1) := by decide +kernel
theorem dL_358 : decode code 358 = .ok (.iload_n 3, 1) := by decide +kernel
theorem dL_359 : decode code 359 = .ok (.iconst 5, 1) := by decide +kernel
theorem dL_360 : decode code 360 = .ok (.iadd, 1) := by decide +kernel
theorem dL_361 : decode code 361 = .ok (.iaload, 1) := by decide +kernel
theorem dL_362 : decode code 362 = .ok (.invokevirtual 13, 3) := by decide +kernel
theorem dL_365 : decode code 365 = .ok (.pop, 1) := by decide +kernel
theorem dL_366 : decode code 366 = .ok (.aload_n 2, 1) := by decide +kernel
theorem dL_367 : decode code 367 = .ok (.aload_n 0, 1) := by decide +kernel
theorem dL_368 : decode code 368 = .ok (.iload_n 3, 1) := by decide +kernel
theorem dL_369 : decode code 369 = .ok (.iconst 1, 1) := by decide +kernel
theorem dL_370 : decode code 370 = .ok (.iadd, 1) := by decide +kernel
theorem dL_371 : decode code 371 = .ok (.iaload, 1) := by decide +kernel
theorem dL_372 : decode code 372 = .ok (.aload_n 0, 1) := by decide +kernel
theorem dL_373 : decode code 373 = .ok (.iload_n 3, 1) := by decide +kernel
theorem dL_374 : decode code 374 = .ok (.iconst 2, 1) := by decide +kernel
theorem dL_375 : decode code 375 = .ok (.iadd, 1) := by decide +kernel
theorem dL_376 : decode code 376 = .ok (.iaload, 1) := by decide +kernel
theorem dL_377 : decode code 377 = .ok (.aload_n 0, 1) := by decide +kernel
theorem dL_378 : decode code 378 = .ok (.iload_n 3, 1) := by decide +kernel
theorem dL_379 : decode code 379 = .ok (.iconst 3, 1) := by decide +kernel
theorem dL_380 : decode code 380 = .ok (.iadd, 1) := by decide +kernel
theorem dL_381 : decode code 381 = .ok (.iaload, 1) := by decide +kernel
theorem dL_382 : decode code 382 = .ok (.aload_n 0, 1) := by decide +kernel
theorem dL_383 : decode code 383 = .ok (.iload_n 3, 1) := by decide +kernel
theorem dL_384 : decode code 384 = .ok (.iconst 4, 1) := by decide +kernel
theorem dL_385 : decode code 385 = .ok (.iadd, 1) := by decide +kernel
theorem dL_386 : decode code 386 = .ok (.iaload, 1) := by decide +kernel
theorem dL_387 : decode code 387 = .ok (.aload_n 0, 1) := by decide +kernel
theorem dL_388 : decode code 388 = .ok (.iload_n 3, 1) := by decide +kernel
theorem dL_389 : decode code 389 = .ok (.iconst 5, 1) := by decide +kernel
theorem dL_390 : decode code 390 = .ok (.iadd, 1) := by decide +kernel
theorem dL_391 : decode code 391 = .ok (.iaload, 1) := by decide +kernel
theorem dL_392 : decode code 392 = .ok (.invokevirtual 17, 3) := by decide +kernel
theorem dL_395 : decode code 395 = .ok (.pop, 1) := by decide +kernel
theorem dL_396 : decode code 396 = .ok (.goto 1956, 3) := by decide +kernel
theorem dL_399 : decode code 399 = .ok (.aload_n 1, 1) := by decide +kernel
theorem dL_400 : decode code 400 = .ok (.aload_n 0, 1) := by decide +kernel
theorem dL_401 : decode code 401 = .ok (.iload_n 3, 1) := by decide +kernel
theorem dL_402 : decode code 402 = .ok (.iconst 1, 1) := by decide +kernel
theorem dL_403 : decode code 403 = .ok (.iadd, 1) := by decide +kernel
theorem dL_404 : decode code 404 = .ok (.iaload, 1) := by decide +kernel
theorem dL_405 : decode code 405 = .ok (.invokevirtual 18, 3) := by decide +kernel
theorem dL_408 : decode code 408 = .ok (.pop, 1) := by decide +kernel
theorem dL_409 : decode code 409 = .ok (.aload_n 2, 1) := by decide +kernel
theorem dL_410 : decode code 410 = .ok (.aload_n 0, 1) := by decide +kernel
theorem dL_411 : decode code 411 = .ok (.iload_n 3, 1) := by decide +kernel
theorem dL_412 : decode code 412 = .ok (.iconst 1, 1) := by decide +kernel
theorem dL_413 : decode code 413 = .ok (.iadd, 1) := by decide +kernel
theorem dL_414 : decode code 414 = .ok (.iaload, 1) := by decide +kernel
theorem dL_415 : decode code 415 = .ok (.invokevirtual 22, 3) := by decide +kernel
theorem dL_418 : decode code 418 = .ok (.pop, 1) := by decide +kernel
theorem dL_419 : decode code 419 = .ok (.goto 1933, 3) := by decide +kernel
theorem dL_422 : decode code 422 = .ok (.aload_n 1, 1) := by decide +kernel
theorem dL_423 : decode code 423 = .ok (.invokevirtual 23, 3) := by decide +kernel
theorem dL_426 : decode code 426 = .ok (.pop, 1) := by decide +kernel
theorem dL_427 : decode code 427 = .ok (.aload_n 2, 1) := by decide +kernel
theorem dL_428 : decode code 428 = .ok (.invokevirtual 27, 3) := by decide +kernel
theorem dL_431 : decode code 431 = .ok (.pop, 1) := by decide +kernel
theorem dL_432 : decode code 432 = .ok (.goto 1920, 3) := by decide +kernel
theorem dL_435 : decode code 435 = .ok (.aload_n 1, 1) := by decide +kernel
theorem dL_436 : decode code 436 = .ok (.aload_n 0, 1) := by decide +kernel
theorem dL_437 : decode code 437 = .ok (.iload_n 3, 1) := by decide +kernel
theorem dL_438 : decode code 438 = .ok (.iconst 1, 1) := by decide +kernel
theorem dL_439 : decode code 439 = .ok (.iadd, 1) := by decide +kernel
theorem dL_440 : decode code 440 = .ok (.iaload, 1) := by decide +kernel
theorem dL_441 : decode code 441 = .ok (.invokevirtual 28, 3) := by decide +kernel
theorem dL_444 : decode code 444 = .ok (.pop, 1) := by decide +kernel
theorem dL_445 : decode code 445 = .ok (.aload_n 2, 1) := by decide +kernel
theorem dL_446 : decode code 446 = .ok (.aload_n 0, 1) := by decide +kernel
theorem dL_447 : decode code 447 = .ok (.iload_n 3, 1) := by decide +kernel
theorem dL_448 : decode code 448 = .ok (.iconst 1, 1) := by decide +kernel
theorem dL_449 : decode code 449 = .ok (.iadd, 1) := by decide +kernel
theorem dL_450 : decode code 450 = .ok (.iaload, 1) := by decide +kernel
theorem dL_451 : decode code 451 = .ok (.invokevirtual 31, 3) := by decide +kernel
theorem dL_454 : decode code 454 = .ok (.pop, 1) := by decide +kernel
theorem dL_455 : decode code 455 = .ok (.goto 1897, 3) := by decide +kernel
theorem dL_458 : decode code 458 = .ok (.aload_n 1, 1) := by decide +kernel
theorem dL_459 : decode code 459 = .ok (.aload_n 0, 1) := by decide +kernel
theorem dL_460 : decode code 460 = .ok (.iload_n 3, 1) := by decide +kernel
theorem dL_461 : decode code 461 = .ok (.iconst 1, 1) := by decide +kernel
theorem dL_462 : decode code 462 = .ok (.iadd, 1) := by decide +kernel
theorem dL_463 : decode code 463 = .ok (.iaload, 1) := by decide +kernel
theorem dL_464 : decode code 464 = .ok (.invokevirtual 32, 3) := by decide +kernel
theorem dL_467 : decode code 467 = .ok (.pop, 1) := by decide +kernel
theorem dL_468 : decode code 468 = .ok (.aload_n 2, 1) := by decide +kernel
theorem dL_469 : decode code 469 = .ok (.aload_n 0, 1) := by decide +kernel
theorem dL_470 : decode code 470 = .ok (.iload_n 3, 1) := by decide +kernel
theorem dL_471 : decode code 471 = .ok (.iconst 1, 1) := by decide +kernel
theorem dL_472 : decode code 472 = .ok (.iadd, 1) := by decide +kernel
theorem dL_473 : decode code 473 = .ok (.iaload, 1) := by decide +kernel
theorem dL_474 : decode code 474 = .ok (.invokevirtual 35, 3) := by decide +kernel
theorem dL_477 : decode code 477 = .ok (.pop, 1) := by decide +kernel
theorem dL_478 : decode code 478 = .ok (.goto 1874, 3) := by decide +kernel
theorem dL_481 : decode code 481 = .ok (.aload_n 1, 1) := by decide +kernel
theorem dL_482 : decode code 482 = .ok (.aload_n 0, 1) := by decide +kernel
theorem dL_483 : decode code 483 = .ok (.iload_n 3, 1) := by decide +kernel
theorem dL_484 : decode code 484 = .ok (.iconst 1, 1) := by decide +kernel
theorem dL_485 : decode code 485 = .ok (.iadd, 1) := by decide +kernel
theorem dL_486 : decode code 486 = .ok (.iaload, 1) := by decide +kernel
theorem dL_487 : decode code 487 = .ok (.aload_n 0, 1) := by decide +kernel
theorem dL_488 : decode code 488 = .ok (.iload_n 3, 1) := by decide +kernel
theorem dL_489 : decode code 489 = .ok (.iconst 2, 1) := by decide +kernel
theorem dL_490 : decode code 490 = .ok (.iadd, 1) := by decide +kernel
theorem dL_491 : decode code 491 = .ok (.iaload, 1) := by decide +kernel
theorem dL_492 : decode code 492 = .ok (.invokevirtual 36, 3) := by decide +kernel
theorem dL_495 : decode code 495 = .ok (.pop, 1) := by decide +kernel
theorem dL_496 : decode code 496 = .ok (.aload_n 2, 1) := by decide +kernel
theorem dL_497 : decode code 497 = .ok (.aload_n 0, 1) := by decide +kernel
theorem dL_498 : decode code 498 = .ok (.iload_n 3, 1) := by decide +kernel
theorem dL_499 : decode code 499 = .ok (.iconst 1, 1) := by decide +kernel
theorem dL_500 : decode code 500 = .ok (.iadd, 1) := by decide +kernel
theorem dL_501 : decode code 501 = .ok (.iaload, 1) := by decide +kernel
theorem dL_502 : decode code 502 = .ok (.aload_n 0, 1) := by decide +kernel
theorem dL_503 : decode code 503 = .ok (.iload_n 3, 1) := by decide +kernel
theorem dL_504 : decode code 504 = .ok (.iconst 2, 1) := by decide +kernel
theorem dL_505 : decode code 505 = .ok (.iadd, 1) := by decide +kernel
theorem dL_506 : decode code 506 = .ok (.iaload, 1) := by decide +kernel
theorem dL_507 : decode code 507 = .ok (.invokevirtual 40, 3) := by decide +kernel
theorem dL_510 : decode code 510 = .ok (.pop, 1) := by decide +kernel
theorem dL_511 : decode code 511 = .ok (.goto 1841, 3) := by decide +kernel
theorem dL_514 : decode code 514 = .ok (.aload_n 1, 1) := by decide +kernel
theorem dL_515 : decode code 515 = .ok (.aload_n 0, 1) := by decide +kernel
theorem dL_516 : decode code 516 = .ok (.iload_n 3, 1) := by decide +kernel
theorem dL_517 : decode code 517 = .ok (.iconst 1, 1) := by decide +kernel
theorem dL_518 : decode code 518 = .ok (.iadd, 1) := by decide +kernel
theorem dL_519 : decode code 519 = .ok (.iaload, 1) := by decide +kernel
theorem dL_520 : decode code 520 = .ok (.invokevirtual 41, 3) := by decide +kernel
theorem dL_523 : decode code 523 = .ok (.pop, 1) := by decide +kernel
theorem dL_524 : decode code 524 = .ok (.aload_n 2, 1) := by decide +kernel
theorem dL_525 : decode code 525 = .ok (.aload_n 0, 1) := by decide +kernel
theorem dL_526 : decode code 526 = .ok (.iload_n 3, 1) := by decide +kernel
theorem dL_527 : decode code 527 = .ok (.iconst 1, 1) := by decide +kernel
theorem dL_528 : decode code 528 = .ok (.iadd, 1) := by decide +kernel
theorem dL_529 : decode code 529 = .ok (.iaload, 1) := by decide +kernel
theorem dL_530 : decode code 530 = .ok (.invokevirtual 44, 3) := by decide +kernel
theorem dL_533 : decode code 533 = .ok (.pop, 1) := by decide +kernel
theorem dL_534 : decode code 534 = .ok (.goto 1818, 3) := by decide +kernel
theorem dL_537 : decode code 537 = .ok (.aload_n 1, 1) := by decide +kernel
theorem dL_538 : decode code 538 = .ok (.aload_n 0, 1) := by decide +kernel
theorem dL_539 : decode code 539 = .ok (.iload_n 3, 1) := by decide +kernel
theorem dL_540 : decode code 540 = .ok (.iconst 1, 1) := by decide +kernel
theorem dL_541 : decode code 541 = .ok (.iadd, 1) := by decide +kernel
theorem dL_542 : decode code 542 = .ok (.iaload, 1) := by decide +kernel
theorem dL_543 : decode code 543 = .ok (.aload_n 0, 1) := by decide +kernel
theorem dL_544 : decode code 544 = .ok (.iload_n 3, 1) := by decide +kernel
theorem dL_545 : decode code 545 = .ok (.iconst 2, 1) := by decide +kernel
theorem dL_546 : decode code 546 = .ok (.iadd, 1) := by decide +kernel
theorem dL_547 : decode code 547 = .ok (.iaload, 1) := by decide +kernel
theorem dL_548 : decode code 548 = .ok (.invokevirtual 45, 3) := by decide +kernel
theorem dL_551 : decode code 551 = .ok (.pop, 1) := by decide +kernel
theorem dL_552 : decode code 552 = .ok (.aload_n 2, 1) := by decide +kernel
theorem dL_553 : decode code 553 = .ok (.aload_n 0, 1) := by decide +kernel
theorem dL_554 : decode code 554 = .ok (.iload_n 3, 1) := by decide +kernel
theorem dL_555 : decode code 555 = .ok (.iconst 1, 1) := by decide +kernel
theorem dL_556 : decode code 556 = .ok (.iadd, 1) := by decide +kernel
theorem dL_557 : decode code 557 = .ok (.iaload, 1) := by decide +kernel
theorem dL_558 : decode code 558 = .ok (.aload_n 0, 1) := by decide +kernel
theorem dL_559 : decode code 559 = .ok (.iload_n 3, 1) := by decide +kernel
theorem dL_560 : decode code 560 = .ok (.iconst 2, 1) := by decide +kernel
theorem dL_561 : decode code 561 = .ok (.iadd, 1) := by decide +kernel
theorem dL_562 : decode code 562 = .ok (.iaload, 1) := by decide +kernel
theorem dL_563 : decode code 563 = .ok (.invokevirtual 48, 3) := by decide +kernel
theorem dL_566 : decode code 566 = .ok (.pop, 1) := by decide +kernel
theorem dL_567 : decode code 567 = .ok (.goto 1785, 3) := by decide +kernel
theorem dL_570 : decode code 570 = .ok (.aload_n 1, 1) := by decide +kernel
theorem dL_571 : decode code 571 = .ok (.aload_n 0, 1) := by decide +kernel
theorem dL_572 : decode code 572 = .ok (.iload_n 3, 1) := by decide +kernel
theorem dL_573 : decode code 573 = .ok (.iconst 1, 1) := by decide +kernel
theorem dL_574 : decode code 574 = .ok (.iadd, 1) := by decide +kernel
theorem dL_575 : decode code 575 = .ok (.iaload, 1) := by decide +kernel
theorem dL_576 : decode code 576 = .ok (.invokevirtual 49, 3) := by decide +kernel
theorem dL_579 : decode code 579 = .ok (.pop, 1) := by decide +kernel
theorem dL_580 : decode code 580 = .ok (.aload_n 2, 1) := by decide +kernel
theorem dL_581 : decode code 581 = .ok (.aload_n 0, 1) := by decide +kernel
theorem dL_582 : decode code 582 = .ok (.iload_n 3, 1) := by decide +kernel
theorem dL_583 : decode code 583 = .ok (.iconst 1, 1) := by decide +kernel
theorem dL_584 : decode code 584 = .ok (.iadd, 1) := by decide +kernel
theorem dL_585 : decode code 585 = .ok (.iaload, 1) := by decide +kernel
theorem dL_586 : decode code 586 = .ok (.invokevirtual 52, 3) := by decide +kernel
theorem dL_589 : decode code 589 = .ok (.pop, 1) := by decide +kernel
theorem dL_590 : decode code 590 = .ok (.goto 1762, 3) := by decide +kernel
theorem dL_593 : decode code 593 = .ok (.aload_n 1, 1) := by decide +kernel
theorem dL_594 : decode code 594 = .ok (.aload_n 0, 1) := by decide +kernel
theorem dL_595 : decode code 595 = .ok (.iload_n 3, 1) := by decide +kernel
theorem dL_596 : decode code 596 = .ok (.iconst 1, 1) := by decide +kernel
theorem dL_597 : decode code 597 = .ok (.iadd, 1) := by decide +kernel
theorem dL_598 : decode code 598 = .ok (.iaload, 1) := by decide +kernel
theorem dL_599 : decode code 599 = .ok (.aload_n 0, 1) := by decide +kernel
theorem dL_600 : decode code 600 = .ok (.iload_n 3, 1) := by decide +kernel
theorem dL_601 : decode code 601 = .ok (.iconst 2, 1) := by decide +kernel
theorem dL_602 : decode code 602 = .ok (.iadd, 1) := by decide +kernel
theorem dL_603 : decode code 603 = .ok (.iaload, 1) := by decide +kernel
theorem dL_604 : decode code 604 = .ok (.invokevirtual 53, 3) := by decide +kernel
theorem dL_607 : decode code 607 = .ok (.pop, 1) := by decide +kernel
theorem dL_608 : decode code 608 = .ok (.aload_n 2, 1) := by decide +kernel
theorem dL_609 : decode code 609 = .ok (.aload_n 0, 1) := by decide +kernel
theorem dL_610 : decode code 610 = .ok (.iload_n 3, 1) := by decide +kernel
theorem dL_611 : decode code 611 = .ok (.iconst 1, 1) := by decide +kernel
theorem dL_612 : decode code 612 = .ok (.iadd, 1) := by decide +kernel
theorem dL_613 : decode code 613 = .ok (.iaload, 1) := by decide +kernel
theorem dL_614 : decode code 614 = .ok (.aload_n 0, 1) := by decide +kernel
theorem dL_615 : decode code 615 = .ok (.iload_n 3, 1) := by decide +kernel
theorem dL_616 : decode code 616 = .ok (.iconst 2, 1) := by decide +kernel
theorem dL_617 : decode code 617 = .ok (.iadd, 1) := by decide +kernel
theorem dL_618 : decode code 618 = .ok (.iaload, 1) := by decide +kernel
theorem dL_619 : decode code 619 = .ok (.invokevirtual 56, 3) := by decide +kernel
theorem dL_622 : decode code 622 = .ok (.pop, 1) := by decide +kernel
theorem dL_623 : decode code 623 = .ok (.goto 1729, 3) := by decide +kernel
theorem dL_626 : decode code 626 = .ok (.aload_n 1, 1) := by decide +kernel
theorem dL_627 : decode code 627 = .ok (.aload_n 0, 1) := by decide +kernel
theorem dL_628 : decode code 628 = .ok (.iload_n 3, 1) := by decide +kernel
theorem dL_629 : decode code 629 = .ok (.iconst 1, 1) := by decide +kernel
theorem dL_630 : decode code 630 = .ok (.iadd, 1) := by decide +kernel
theorem dL_631 : decode code 631 = .ok (.iaload, 1) := by decide +kernel
theorem dL_632 : decode code 632 = .ok (.invokevirtual 57, 3) := by decide +kernel
theorem dL_635 : decode code 635 = .ok (.pop, 1) := by decide +kernel
theorem dL_636 : decode code 636 = .ok (.aload_n 2, 1) := by decide +kernel
theorem dL_637 : decode code 637 = .ok (.aload_n 0, 1) := by decide +kernel
theorem dL_638 : decode code 638 = .ok (.iload_n 3, 1) := by decide +kernel
theorem dL_639 : decode code 639 = .ok (.iconst 1, 1) := by decide +kernel
theorem dL_640 : decode code 640 = .ok (.iadd, 1) := by decide +kernel
theorem dL_641 : decode code 641 = .ok (.iaload, 1) := by decide +kernel
theorem dL_642 : decode code 642 = .ok (.invokevirtual 60, 3) := by decide +kernel
theorem dL_645 : decode code 645 = .ok (.pop, 1) := by decide +kernel
theorem dL_646 : decode code 646 = .ok (.goto 1706, 3) := by decide +kernel
theorem dL_649 : decode code 649 = .ok (.aload_n 1, 1) := by decide +kernel
theorem dL_650 : decode code 650 = .ok (.aload_n 0, 1) := by decide +kernel
theorem dL_651 : decode code 651 = .ok (.iload_n 3, 1) := by decide +kernel
theorem dL_652 : decode code 652 = .ok (.iconst 1, 1) := by decide +kernel
theorem dL_653 : decode code 653 = .ok (.iadd, 1) := by decide +kernel
theorem dL_654 : decode code 654 = .ok (.iaload, 1) := by decide +kernel
theorem dL_655 : decode code 655 = .ok (.invokevirtual 61, 3) := by decide +kernel
theorem dL_658 : decode code 658 = .ok (.pop, 1) := by decide +kernel
theorem dL_659 : decode code 659 = .ok (.aload_n 2, 1) := by decide +kernel
theorem dL_660 : decode code 660 = .ok (.aload_n 0, 1) := by decide +kernel
theorem dL_661 : decode code 661 = .ok (.iload_n 3, 1) := by decide +kernel
theorem dL_662 : decode code 662 = .ok (.iconst 1, 1) := by decide +kernel
theorem dL_663 : decode code 663 = .ok (.iadd, 1) := by decide +kernel
theorem dL_664 : decode code 664 = .ok (.iaload, 1) := by decide +kernel
theorem dL_665 : decode code 665 = .ok (.invokevirtual 64, 3) := by decide +kernel
theorem dL_668 : decode code 668 = .ok (.pop, 1) := by decide +kernel
theorem dL_669 : decode code 669 = .ok (.goto 1683, 3) := by decide +kernel
theorem dL_672 : decode code 672 = .ok (.aload_n 1, 1) := by decide +kernel
theorem dL_673 : decode code 673 = .ok (.aload_n 0, 1) := by decide +kernel
theorem dL_674 : decode code 674 = .ok (.iload_n 3, 1) := by decide +kernel
theorem dL_675 : decode code 675 = .ok (.iconst 1, 1) := by decide +kernel
theorem dL_676 : decode code 676 = .ok (.iadd, 1) := by decide +kernel
theorem dL_677 : decode code 677 = .ok (.iaload, 1) := by decide +kernel
theorem dL_678 : decode code 678 = .ok (.invokevirtual 65, 3) := by decide +kernel
theorem dL_681 : decode code 681 = .ok (.pop, 1) := by decide +kernel
theorem dL_682 : decode code 682 = .ok (.aload_n 2, 1) := by decide +kernel
theorem dL_683 : decode code 683 = .ok (.aload_n 0, 1) := by decide +kernel
theorem dL_684 : decode code 684 = .ok (.iload_n 3, 1) := by decide +kernel
theorem dL_685 : decode code 685 = .ok (.iconst 1, 1) := by decide +kernel
theorem dL_686 : decode code 686 = .ok (.iadd, 1) := by decide +kernel
theorem dL_687 : decode code 687 = .ok (.iaload, 1) := by decide +kernel
theorem dL_688 : decode code 688 = .ok (.invokevirtual 68, 3) := by decide +kernel
theorem dL_691 : decode code 691 = .ok (.pop, 1) := by decide +kernel
theorem dL_692 : decode code 692 = .ok (.goto 1660, 3) := by decide +kernel
theorem dL_695 : decode code 695 = .ok (.aload_n 1, 1) := by decide +kernel
theorem dL_696 : decode code 696 = .ok (.aload_n 0, 1) := by decide +kernel
theorem dL_697 : decode code 697 = .ok (.iload_n 3, 1) := by decide +kernel
theorem dL_698 : decode code 698 = .ok (.iconst 1, 1) := by decide +kernel
theorem dL_699 : decode code 699 = .ok (.iadd, 1) := by decide +kernel
theorem dL_700 : decode code 700 = .ok (.iaload, 1) := by decide +kernel
theorem dL_701 : decode code 701 = .ok (.invokevirtual 69, 3) := by decide +kernel
theorem dL_704 : decode code 704 = .ok (.pop, 1) := by decide +kernel
theorem dL_705 : decode code 705 = .ok (.aload_n 2, 1) := by decide +kernel
theorem dL_706 : decode code 706 = .ok (.aload_n 0, 1) := by decide +kernel
theorem dL_707 : decode code 707 = .ok (.iload_n 3, 1) := by decide +kernel
theorem dL_708 : decode code 708 = .ok (.iconst 1, 1) := by decide +kernel
theorem dL_709 : decode code 709 = .ok (.iadd, 1) := by decide +kernel
theorem dL_710 : decode code 710 = .ok (.iaload, 1) := by decide +kernel
theorem dL_711 : decode code 711 = .ok (.invokevirtual 72, 3) := by decide +kernel
theorem dL_714 : decode code 714 = .ok (.pop, 1) := by decide +kernel
theorem dL_715 : decode code 715 = .ok (.goto 1637, 3) := by decide +kernel
theorem dL_718 : decode code 718 = .ok (.aload_n 1, 1) := by decide +kernel
theorem dL_719 : decode code 719 = .ok (.aload_n 0, 1) := by decide +kernel
theorem dL_720 : decode code 720 = .ok (.iload_n 3, 1) := by decide +kernel
theorem dL_721 : decode code 721 = .ok (.iconst 1, 1) := by decide +kernel
theorem dL_722 : decode code 722 = .ok (.iadd, 1) := by decide +kernel
theorem dL_723 : decode code 723 = .ok (.iaload, 1) := by decide +kernel
theorem dL_724 : decode code 724 = .ok (.invokevirtual 73, 3) := by decide +kernel
theorem dL_727 : decode code 727 = .ok (.pop, 1) := by decide +kernel
theorem dL_728 : decode code 728 = .ok (.aload_n 2, 1) := by decide +kernel
theorem dL_729 : decode code 729 = .ok (.aload_n 0, 1) := by decide +kernel
theorem dL_730 : decode code 730 = .ok (.iload_n 3, 1) := by decide +kernel
theorem dL_731 : decode code 731 = .ok (.iconst 1, 1) := by decide +kernel
theorem dL_732 : decode code 732 = .ok (.iadd, 1) := by decide +kernel
theorem dL_733 : decode code 733 = .ok (.iaload, 1) := by decide +kernel
theorem dL_734 : decode code 734 = .ok (.invokevirtual 76, 3) := by decide +kernel
theorem dL_737 : decode code 737 = .ok (.pop, 1) := by decide +kernel
theorem dL_738 : decode code 738 = .ok (.goto 1614, 3) := by decide +kernel
theorem dL_741 : decode code 741 = .ok (.aload_n 1, 1) := by decide +kernel
theorem dL_742 : decode code 742 = .ok (.invokevirtual 77, 3) := by decide +kernel
theorem dL_745 : decode code 745 = .ok (.pop, 1) := by decide +kernel
theorem dL_746 : decode code 746 = .ok (.aload_n 2, 1) := by decide +kernel
theorem dL_747 : decode code 747 = .ok (.invokevirtual 80, 3) := by decide +kernel
theorem dL_750 : decode code 750 = .ok (.pop, 1) := by decide +kernel
theorem dL_751 : decode code 751 = .ok (.goto 1601, 3) := by decide +kernel
theorem dL_754 : decode code 754 = .ok (.aload_n 1, 1) := by decide +kernel
theorem dL_755 : decode code 755 = .ok (.invokevirtual 81, 3) := by decide +kernel
theorem dL_758 : decode code 758 = .ok (.pop, 1) := by decide +kernel
theorem dL_759 : decode code 759 = .ok (.aload_n 2, 1) := by decide +kernel
theorem dL_760 : decode code 760 = .ok (.invokevirtual 84, 3) := by decide +kernel
theorem dL_763 : decode code 763 = .ok (.pop, 1) := by decide +kernel
theorem dL_764 : decode code 764 = .ok (.goto 1588, 3) := by decide +kernel
theorem dL_767 : decode code 767 = .ok (.aload_n 1, 1) := by decide +kernel
theorem dL_768 : decode code 768 = .ok (.aload_n 0, 1) := by decide +kernel
theorem dL_769 : decode code 769 = .ok (.iload_n 3, 1) := by decide +kernel
theorem dL_770 : decode code 770 = .ok (.iconst 1, 1) := by decide +kernel
theorem dL_771 : decode code 771 = .ok (.iadd, 1) := by decide +kernel
theorem dL_772 : decode code 772 = .ok (.iaload, 1) := by decide +kernel
theorem dL_773 : decode code 773 = .ok (.invokevirtual 85, 3) := by decide +kernel
theorem dL_776 : decode code 776 = .ok (.pop, 1) := by decide +kernel
theorem dL_777 : decode code 777 = .ok (.aload_n 2, 1) := by decide +kernel
theorem dL_778 : decode code 778 = .ok (.aload_n 0, 1) := by decide +kernel
theorem dL_779 : decode code 779 = .ok (.iload_n 3, 1) := by decide +kernel
theorem dL_780 : decode code 780 = .ok (.iconst 1, 1) := by decide +kernel
theorem dL_781 : decode code 781 = .ok (.iadd, 1) := by decide +kernel
theorem dL_782 : decode code 782 = .ok (.iaload, 1) := by decide +kernel
theorem dL_783 : decode code 783 = .ok (.invokevirtual 88, 3) := by decide +kernel
theorem dL_786 : decode code 786 = .ok (.pop, 1) := by decide +kernel
theorem dL_787 : decode code 787 = .ok (.goto 1565, 3) := by decide +kernel
theorem dL_790 : decode code 790 = .ok (.aload_n 1, 1) := by decide +kernel
theorem dL_791 : decode code 791 = .ok (.invokevirtual 89, 3) := by decide +kernel
theorem dL_794 : decode code 794 = .ok (.pop, 1) := by decide +kernel
theorem dL_795 : decode code 795 = .ok (.aload_n 2, 1) := by decide +kernel
theorem dL_796 : decode code 796 = .ok (.invokevirtual 92, 3) := by decide +kernel
theorem dL_799 : decode code 799 = .ok (.pop, 1) := by decide +kernel
theorem dL_800 : decode code 800 = .ok (.goto 1552, 3) := by decide +kernel
theorem dL_803 : decode code 803 = .ok (.aload_n 1, 1) := by decide +kernel
theorem dL_804 : decode code 804 = .ok (.invokevirtual 93, 3) := by decide +kernel
theorem dL_807 : decode code 807 = .ok (.pop, 1) := by decide +kernel
theorem dL_808 : decode code 808 = .ok (.aload_n 2, 1) := by decide +kernel
theorem dL_809 : decode code 809 = .ok (.invokevirtual 96, 3) := by decide +kernel
theorem dL_812 : decode code 812 = .ok (.pop, 1) := by decide +kernel
theorem dL_813 : decode code 813 = .ok (.goto 1539, 3) := by decide +kernel
theorem dL_816 : decode code 816 = .ok (.aload_n 1, 1) := by decide +kernel
theorem dL_817 : decode code 817 = .ok (.aload_n 0, 1) := by decide +kernel
theorem dL_818 : decode code 818 = .ok (.iload_n 3, 1) := by decide +kernel
theorem dL_819 : decode code 819 = .ok (.iconst 1, 1) := by decide +kernel
theorem dL_820 : decode code 820 = .ok (.iadd, 1) := by decide +kernel
theorem dL_821 : decode code 821 = .ok (.iaload, 1) := by decide +kernel
theorem dL_822 : decode code 822 = .ok (.invokevirtual 97, 3) := by decide +kernel
theorem dL_825 : decode code 825 = .ok (.pop, 1) := by decide +kernel
theorem dL_826 : decode code 826 = .ok (.aload_n 2, 1) := by decide +kernel
theorem dL_827 : decode code 827 = .ok (.aload_n 0, 1) := by decide +kernel
theorem dL_828 : decode code 828 = .ok (.iload_n 3, 1) := by decide +kernel
theorem dL_829 : decode code 829 = .ok (.iconst 1, 1) := by decide +kernel
theorem dL_830 : decode code 830 = .ok (.iadd, 1) := by decide +kernel
theorem dL_831 : decode code 831 = .ok (.iaload, 1) := by decide +kernel
theorem dL_832 : decode code 832 = .ok (.invokevirtual 100, 3) := by decide +kernel
theorem dL_835 : decode code 835 = .ok (.pop, 1) := by decide +kernel
theorem dL_836 : decode code 836 = .ok (.goto 1516, 3) := by decide +kernel
theorem dL_839 : decode code 839 = .ok (.aload_n 1, 1) := by decide +kernel
theorem dL_840 : decode code 840 = .ok (.invokevirtual 101, 3) := by decide +kernel
