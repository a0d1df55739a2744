theorem d_La_law_367 : decode code 367 = .ok (.iadd, 1) := by decide +kernel
theorem d_La_law_368 : decode code 368 = .ok (.iaload, 1) := by decide +kernel
theorem d_La_law_369 : decode code 369 = .ok (.invokevirtual 97, 3) := by decide +kernel
theorem d_La_law_372 : decode code 372 = .ok (.istore 6, 2) := by decide +kernel
theorem d_La_law_374 : decode code 374 = .ok (.aload_n 2, 1) := by decide +kernel
theorem d_La_law_375 : decode code 375 = .ok (.invokevirtual 79, 3) := by decide +kernel
theorem d_La_law_378 : decode code 378 = .ok (.iload 5, 2) := by decide +kernel
theorem d_La_law_380 : decode code 380 = .ok (.if_icmp .eq 5, 3) := by decide +kernel
theorem d_La_law_383 : decode code 383 = .ok (.iconst 0, 1) := by decide +kernel
theorem d_La_law_384 : decode code 384 = .ok (.ireturn, 1) := by decide +kernel
theorem d_La_law_385 : decode code 385 = .ok (.iload 5, 2) := by decide +kernel
theorem d_La_law_387 : decode code 387 = .ok (.ifCond .ne 15, 3) := by decide +kernel
theorem d_La_law_390 : decode code 390 = .ok (.aload_n 3, 1) := by decide +kernel
theorem d_La_law_391 : decode code 391 = .ok (.iconst 0, 1) := by decide +kernel
theorem d_La_law_392 : decode code 392 = .ok (.laload, 1) := by decide +kernel
theorem d_La_law_393 : decode code 393 = .ok (.iload 6, 2) := by decide +kernel
theorem d_La_law_395 : decode code 395 = .ok (.i2l, 1) := by decide +kernel
theorem d_La_law_396 : decode code 396 = .ok (.lcmp, 1) := by decide +kernel
theorem d_La_law_397 : decode code 397 = .ok (.ifCond .eq 5, 3) := by decide +kernel
theorem d_La_law_400 : decode code 400 = .ok (.iconst 0, 1) := by decide +kernel
theorem d_La_law_401 : decode code 401 = .ok (.ireturn, 1) := by decide +kernel
theorem d_La_law_402 : decode code 402 = .ok (.goto 787, 3) := by decide +kernel
theorem d_La_law_405 : decode code 405 = .ok (.aload_n 1, 1) := by decide +kernel
theorem d_La_law_406 : decode code 406 = .ok (.aload_n 0, 1) := by decide +kernel
theorem d_La_law_407 : decode code 407 = .ok (.iload 4, 2) := by decide +kernel
theorem d_La_law_409 : decode code 409 = .ok (.iconst 1, 1) := by decide +kernel
theorem d_La_law_410 : decode code 410 = .ok (.iadd, 1) := by decide +kernel
theorem d_La_law_411 : decode code 411 = .ok (.iaload, 1) := by decide +kernel
theorem d_La_law_412 : decode code 412 = .ok (.aload_n 3, 1) := by decide +kernel
theorem d_La_law_413 : decode code 413 = .ok (.invokestatic 98, 3) := by decide +kernel
theorem d_La_law_416 : decode code 416 = .ok (.istore 5, 2) := by decide +kernel
theorem d_La_law_418 : decode code 418 = .ok (.aload_n 2, 1) := by decide +kernel
theorem d_La_law_419 : decode code 419 = .ok (.aload_n 0, 1) := by decide +kernel
theorem d_La_law_420 : decode code 420 = .ok (.iload 4, 2) := by decide +kernel
theorem d_La_law_422 : decode code 422 = .ok (.iconst 1, 1) := by decide +kernel
theorem d_La_law_423 : decode code 423 = .ok (.iadd, 1) := by decide +kernel
theorem d_La_law_424 : decode code 424 = .ok (.iaload, 1) := by decide +kernel
theorem d_La_law_425 : decode code 425 = .ok (.invokevirtual 100, 3) := by decide +kernel
theorem d_La_law_428 : decode code 428 = .ok (.istore 6, 2) := by decide +kernel
theorem d_La_law_430 : decode code 430 = .ok (.aload_n 2, 1) := by decide +kernel
theorem d_La_law_431 : decode code 431 = .ok (.invokevirtual 79, 3) := by decide +kernel
theorem d_La_law_434 : decode code 434 = .ok (.iload 5, 2) := by decide +kernel
theorem d_La_law_436 : decode code 436 = .ok (.if_icmp .eq 5, 3) := by decide +kernel
theorem d_La_law_439 : decode code 439 = .ok (.iconst 0, 1) := by decide +kernel
theorem d_La_law_440 : decode code 440 = .ok (.ireturn, 1) := by decide +kernel
theorem d_La_law_441 : decode code 441 = .ok (.iload 5, 2) := by decide +kernel
theorem d_La_law_443 : decode code 443 = .ok (.ifCond .ne 15, 3) := by decide +kernel
theorem d_La_law_446 : decode code 446 = .ok (.aload_n 3, 1) := by decide +kernel
theorem d_La_law_447 : decode code 447 = .ok (.iconst 0, 1) := by decide +kernel
theorem d_La_law_448 : decode code 448 = .ok (.laload, 1) := by decide +kernel
theorem d_La_law_449 : decode code 449 = .ok (.iload 6, 2) := by decide +kernel
theorem d_La_law_451 : decode code 451 = .ok (.i2l, 1) := by decide +kernel
theorem d_La_law_452 : decode code 452 = .ok (.lcmp, 1) := by decide +kernel
theorem d_La_law_453 : decode code 453 = .ok (.ifCond .eq 5, 3) := by decide +kernel
theorem d_La_law_456 : decode code 456 = .ok (.iconst 0, 1) := by decide +kernel
theorem d_La_law_457 : decode code 457 = .ok (.ireturn, 1) := by decide +kernel
theorem d_La_law_458 : decode code 458 = .ok (.goto 731, 3) := by decide +kernel
theorem d_La_law_461 : decode code 461 = .ok (.aload_n 1, 1) := by decide +kernel
theorem d_La_law_462 : decode code 462 = .ok (.aload_n 0, 1) := by decide +kernel
theorem d_La_law_463 : decode code 463 = .ok (.iload 4, 2) := by decide +kernel
theorem d_La_law_465 : decode code 465 = .ok (.iconst 1, 1) := by decide +kernel
theorem d_La_law_466 : decode code 466 = .ok (.iadd, 1) := by decide +kernel
theorem d_La_law_467 : decode code 467 = .ok (.iaload, 1) := by decide +kernel
theorem d_La_law_468 : decode code 468 = .ok (.aload_n 0, 1) := by decide +kernel
theorem d_La_law_469 : decode code 469 = .ok (.iload 4, 2) := by decide +kernel
theorem d_La_law_471 : decode code 471 = .ok (.iconst 2, 1) := by decide +kernel
theorem d_La_law_472 : decode code 472 = .ok (.iadd, 1) := by decide +kernel
theorem d_La_law_473 : decode code 473 = .ok (.iaload, 1) := by decide +kernel
theorem d_La_law_474 : decode code 474 = .ok (.aload_n 3, 1) := by decide +kernel
theorem d_La_law_475 : decode code 475 = .ok (.invokestatic 101, 3) := by decide +kernel
theorem d_La_law_478 : decode code 478 = .ok (.istore 5, 2) := by decide +kernel
theorem d_La_law_480 : decode code 480 = .ok (.aload_n 2, 1) := by decide +kernel
theorem d_La_law_481 : decode code 481 = .ok (.aload_n 0, 1) := by decide +kernel
theorem d_La_law_482 : decode code 482 = .ok (.iload 4, 2) := by decide +kernel
theorem d_La_law_484 : decode code 484 = .ok (.iconst 1, 1) := by decide +kernel
theorem d_La_law_485 : decode code 485 = .ok (.iadd, 1) := by decide +kernel
theorem d_La_law_486 : decode code 486 = .ok (.iaload, 1) := by decide +kernel
theorem d_La_law_487 : decode code 487 = .ok (.aload_n 0, 1) := by decide +kernel
theorem d_La_law_488 : decode code 488 = .ok (.iload 4, 2) := by decide +kernel
theorem d_La_law_490 : decode code 490 = .ok (.iconst 2, 1) := by decide +kernel
theorem d_La_law_491 : decode code 491 = .ok (.iadd, 1) := by decide +kernel
theorem d_La_law_492 : decode code 492 = .ok (.iaload, 1) := by decide +kernel
theorem d_La_law_493 : decode code 493 = .ok (.invokevirtual 103, 3) := by decide +kernel
theorem d_La_law_496 : decode code 496 = .ok (.istore 6, 2) := by decide +kernel
theorem d_La_law_498 : decode code 498 = .ok (.aload_n 2, 1) := by decide +kernel
theorem d_La_law_499 : decode code 499 = .ok (.invokevirtual 79, 3) := by decide +kernel
theorem d_La_law_502 : decode code 502 = .ok (.iload 5, 2) := by decide +kernel
theorem d_La_law_504 : decode code 504 = .ok (.if_icmp .eq 5, 3) := by decide +kernel
theorem d_La_law_507 : decode code 507 = .ok (.iconst 0, 1) := by decide +kernel
theorem d_La_law_508 : decode code 508 = .ok (.ireturn, 1) := by decide +kernel
theorem d_La_law_509 : decode code 509 = .ok (.iload 5, 2) := by decide +kernel
theorem d_La_law_511 : decode code 511 = .ok (.ifCond .ne 15, 3) := by decide +kernel
theorem d_La_law_514 : decode code 514 = .ok (.aload_n 3, 1) := by decide +kernel
theorem d_La_law_515 : decode code 515 = .ok (.iconst 0, 1) := by decide +kernel
theorem d_La_law_516 : decode code 516 = .ok (.laload, 1) := by decide +kernel
theorem d_La_law_517 : decode code 517 = .ok (.iload 6, 2) := by decide +kernel
theorem d_La_law_519 : decode code 519 = .ok (.i2l, 1) := by decide +kernel
theorem d_La_law_520 : decode code 520 = .ok (.lcmp, 1) := by decide +kernel
theorem d_La_law_521 : decode code 521 = .ok (.ifCond .eq 5, 3) := by decide +kernel
theorem d_La_law_524 : decode code 524 = .ok (.iconst 0, 1) := by decide +kernel
theorem d_La_law_525 : decode code 525 = .ok (.ireturn, 1) := by decide +kernel
theorem d_La_law_526 : decode code 526 = .ok (.goto 663, 3) := by decide +kernel
theorem d_La_law_529 : decode code 529 = .ok (.aload_n 1, 1) := by decide +kernel
theorem d_La_law_530 : decode code 530 = .ok (.aload_n 0, 1) := by decide +kernel
theorem d_La_law_531 : decode code 531 = .ok (.iload 4, 2) := by decide +kernel
theorem d_La_law_533 : decode code 533 = .ok (.iconst 1, 1) := by decide +kernel
theorem d_La_law_534 : decode code 534 = .ok (.iadd, 1) := by decide +kernel
theorem d_La_law_535 : decode code 535 = .ok (.iaload, 1) := by decide +kernel
theorem d_La_law_536 : decode code 536 = .ok (.aload_n 0, 1) := by decide +kernel
theorem d_La_law_537 : decode code 537 = .ok (.iload 4, 2) := by decide +kernel
theorem d_La_law_539 : decode code 539 = .ok (.iconst 2, 1) := by decide +kernel
theorem d_La_law_540 : decode code 540 = .ok (.iadd, 1) := by decide +kernel
theorem d_La_law_541 : decode code 541 = .ok (.iaload, 1) := by decide +kernel
theorem d_La_law_542 : decode code 542 = .ok (.aload_n 0, 1) := by decide +kernel
theorem d_La_law_543 : decode code 543 = .ok (.iload 4, 2) := by decide +kernel
theorem d_La_law_545 : decode code 545 = .ok (.iconst 3, 1) := by decide +kernel
theorem d_La_law_546 : decode code 546 = .ok (.iadd, 1) := by decide +kernel
theorem d_La_law_547 : decode code 547 = .ok (.iaload, 1) := by decide +kernel
theorem d_La_law_548 : decode code 548 = .ok (.aload_n 0, 1) := by decide +kernel
theorem d_La_law_549 : decode code 549 = .ok (.iload 4, 2) := by decide +kernel
theorem d_La_law_551 : decode code 551 = .ok (.iconst 4, 1) := by decide +kernel
theorem d_La_law_552 : decode code 552 = .ok (.iadd, 1) := by decide +kernel
theorem d_La_law_553 : decode code 553 = .ok (.iaload, 1) := by decide +kernel
theorem d_La_law_554 : decode code 554 = .ok (.aload_n 3, 1) := by decide +kernel
theorem d_La_law_555 : decode code 555 = .ok (.invokestatic 104, 3) := by decide +kernel
theorem d_La_law_558 : decode code 558 = .ok (.istore 5, 2) := by decide +kernel
theorem d_La_law_560 : decode code 560 = .ok (.aload_n 2, 1) := by decide +kernel
theorem d_La_law_561 : decode code 561 = .ok (.aload_n 0, 1) := by decide +kernel
theorem d_La_law_562 : decode code 562 = .ok (.iload 4, 2) := by decide +kernel
theorem d_La_law_564 : decode code 564 = .ok (.iconst 1, 1) := by decide +kernel
theorem d_La_law_565 : decode code 565 = .ok (.iadd, 1) := by decide +kernel
theorem d_La_law_566 : decode code 566 = .ok (.iaload, 1) := by decide +kernel
theorem d_La_law_567 : decode code 567 = .ok (.aload_n 0, 1) := by decide +kernel
theorem d_La_law_568 : decode code 568 = .ok (.iload 4, 2) := by decide +kernel
theorem d_La_law_570 : decode code 570 = .ok (.iconst 2, 1) := by decide +kernel
theorem d_La_law_571 : decode code 571 = .ok (.iadd, 1) := by decide +kernel
theorem d_La_law_572 : decode code 572 = .ok (.iaload, 1) := by decide +kernel
theorem d_La_law_573 : decode code 573 = .ok (.aload_n 0, 1) := by decide +kernel
theorem d_La_law_574 : decode code 574 = .ok (.iload 4, 2) := by decide +kernel
theorem d_La_law_576 : decode code 576 = .ok (.iconst 3, 1) := by decide +kernel
theorem d_La_law_577 : decode code 577 = .ok (.iadd, 1) := by decide +kernel
theorem d_La_law_578 : decode code 578 = .ok (.iaload, 1) := by decide +kernel
theorem d_La_law_579 : decode code 579 = .ok (.aload_n 0, 1) := by decide +kernel
theorem d_La_law_580 : decode code 580 = .ok (.iload 4, 2) := by decide +kernel
theorem d_La_law_582 : decode code 582 = .ok (.iconst 4, 1) := by decide +kernel
theorem d_La_law_583 : decode code 583 = .ok (.iadd, 1) := by decide +kernel
theorem d_La_law_584 : decode code 584 = .ok (.iaload, 1) := by decide +kernel
theorem d_La_law_585 : decode code 585 = .ok (.invokevirtual 107, 3) := by decide +kernel
theorem d_La_law_588 : decode code 588 = .ok (.istore 6, 2) := by decide +kernel
theorem d_La_law_590 : decode code 590 = .ok (.aload_n 2, 1) := by decide +kernel
theorem d_La_law_591 : decode code 591 = .ok (.invokevirtual 79, 3) := by decide +kernel
theorem d_La_law_594 : decode code 594 = .ok (.iload 5, 2) := by decide +kernel
theorem d_La_law_596 : decode code 596 = .ok (.if_icmp .eq 5, 3) := by decide +kernel
theorem d_La_law_599 : decode code 599 = .ok (.iconst 0, 1) := by decide +kernel
theorem d_La_law_600 : decode code 600 = .ok (.ireturn, 1) := by decide +kernel
theorem d_La_law_601 : decode code 601 = .ok (.iload 5, 2) := by decide +kernel
theorem d_La_law_603 : decode code 603 = .ok (.ifCond .ne 15, 3) := by decide +kernel
theorem d_La_law_606 : decode code 606 = .ok (.aload_n 3, 1) := by decide +kernel
theorem d_La_law_607 : decode code 607 = .ok (.iconst 0, 1) := by decide +kernel
theorem d_La_law_608 : decode code 608 = .ok (.laload, 1) := by decide +kernel
theorem d_La_law_609 : decode code 609 = .ok (.iload 6, 2) := by decide +kernel
theorem d_La_law_611 : decode code 611 = .ok (.i2l, 1) := by decide +kernel
theorem d_La_law_612 : decode code 612 = .ok (.lcmp, 1) := by decide +kernel
theorem d_La_law_613 : decode code 613 = .ok (.ifCond .eq 5, 3) := by decide +kernel
theorem d_La_law_616 : decode code 616 = .ok (.iconst 0, 1) := by decide +kernel
theorem d_La_law_617 : decode code 617 = .ok (.ireturn, 1) := by decide +kernel
theorem d_La_law_618 : decode code 618 = .ok (.goto 571, 3) := by decide +kernel
theorem d_La_law_621 : decode code 621 = .ok (.aload_n 1, 1) := by decide +kernel
theorem d_La_law_622 : decode code 622 = .ok (.aload_n 0, 1) := by decide +kernel
theorem d_La_law_623 : decode code 623 = .ok (.iload 4, 2) := by decide +kernel
theorem d_La_law_625 : decode code 625 = .ok (.iconst 1, 1) := by decide +kernel
theorem d_La_law_626 : decode code 626 = .ok (.iadd, 1) := by decide +kernel
theorem d_La_law_627 : decode code 627 = .ok (.iaload, 1) := by decide +kernel
theorem d_La_law_628 : decode code 628 = .ok (.aload_n 0, 1) := by decide +kernel
theorem d_La_law_629 : decode code 629 = .ok (.iload 4, 2) := by decide +kernel
theorem d_La_law_631 : decode code 631 = .ok (.iconst 2, 1) := by decide +kernel
theorem d_La_law_632 : decode code 632 = .ok (.iadd, 1) := by decide +kernel
theorem d_La_law_633 : decode code 633 = .ok (.iaload, 1) := by decide +kernel
theorem d_La_law_634 : decode code 634 = .ok (.aload_n 3, 1) := by decide +kernel
theorem d_La_law_635 : decode code 635 = .ok (.invokestatic 108, 3) := by decide +kernel
theorem d_La_law_638 : decode code 638 = .ok (.istore 5, 2) := by decide +kernel
theorem d_La_law_640 : decode code 640 = .ok (.aload_n 2, 1) := by decide +kernel
theorem d_La_law_641 : decode code 641 = .ok (.aload_n 0, 1) := by decide +kernel
theorem d_La_law_642 : decode code 642 = .ok (.iload 4, 2) := by decide +kernel
theorem d_La_law_644 : decode code 644 = .ok (.iconst 1, 1) := by decide +kernel
theorem d_La_law_645 : decode code 645 = .ok (.iadd, 1) := by decide +kernel
theorem d_La_law_646 : decode code 646 = .ok (.iaload, 1) := by decide +kernel
theorem d_La_law_647 : decode code 647 = .ok (.aload_n 0, 1) := by decide +kernel
theorem d_La_law_648 : decode code 648 = .ok (.iload 4, 2) := by decide +kernel
theorem d_La_law_650 : decode code 650 = .ok (.iconst 2, 1) := by decide +kernel
