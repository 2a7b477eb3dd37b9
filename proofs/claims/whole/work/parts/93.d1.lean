/-! THE LAW: its instructions -/
theorem dl_400 : decode code 400 = .ok (.invokevirtual 34, 3) := by decide +kernel
theorem dl_403 : decode code 403 = .ok (.lcmp, 1) := by decide +kernel
theorem dl_404 : decode code 404 = .ok (.ifCond .eq 965, 3) := by decide +kernel
theorem dl_407 : decode code 407 = .ok (.iconst 0, 1) := by decide +kernel
theorem dl_408 : decode code 408 = .ok (.ireturn, 1) := by decide +kernel
theorem dl_409 : decode code 409 = .ok (.aload_n 1, 1) := by decide +kernel
theorem dl_410 : decode code 410 = .ok (.aload_n 0, 1) := by decide +kernel
theorem dl_411 : decode code 411 = .ok (.iload_n 3, 1) := by decide +kernel
theorem dl_412 : decode code 412 = .ok (.iconst 1, 1) := by decide +kernel
theorem dl_413 : decode code 413 = .ok (.iadd, 1) := by decide +kernel
theorem dl_414 : decode code 414 = .ok (.iaload, 1) := by decide +kernel
theorem dl_415 : decode code 415 = .ok (.aload_n 0, 1) := by decide +kernel
theorem dl_416 : decode code 416 = .ok (.iload_n 3, 1) := by decide +kernel
theorem dl_417 : decode code 417 = .ok (.iconst 2, 1) := by decide +kernel
theorem dl_418 : decode code 418 = .ok (.iadd, 1) := by decide +kernel
theorem dl_419 : decode code 419 = .ok (.iaload, 1) := by decide +kernel
theorem dl_420 : decode code 420 = .ok (.invokevirtual 35, 3) := by decide +kernel
theorem dl_423 : decode code 423 = .ok (.aload_n 2, 1) := by decide +kernel
theorem dl_424 : decode code 424 = .ok (.aload_n 0, 1) := by decide +kernel
theorem dl_425 : decode code 425 = .ok (.iload_n 3, 1) := by decide +kernel
theorem dl_426 : decode code 426 = .ok (.iconst 1, 1) := by decide +kernel
theorem dl_427 : decode code 427 = .ok (.iadd, 1) := by decide +kernel
theorem dl_428 : decode code 428 = .ok (.iaload, 1) := by decide +kernel
theorem dl_429 : decode code 429 = .ok (.aload_n 0, 1) := by decide +kernel
theorem dl_430 : decode code 430 = .ok (.iload_n 3, 1) := by decide +kernel
theorem dl_431 : decode code 431 = .ok (.iconst 2, 1) := by decide +kernel
theorem dl_432 : decode code 432 = .ok (.iadd, 1) := by decide +kernel
theorem dl_433 : decode code 433 = .ok (.iaload, 1) := by decide +kernel
theorem dl_434 : decode code 434 = .ok (.invokevirtual 39, 3) := by decide +kernel
theorem dl_437 : decode code 437 = .ok (.if_icmp .eq 932, 3) := by decide +kernel
theorem dl_440 : decode code 440 = .ok (.iconst 0, 1) := by decide +kernel
theorem dl_441 : decode code 441 = .ok (.ireturn, 1) := by decide +kernel
theorem dl_442 : decode code 442 = .ok (.aload_n 1, 1) := by decide +kernel
theorem dl_443 : decode code 443 = .ok (.aload_n 0, 1) := by decide +kernel
theorem dl_444 : decode code 444 = .ok (.iload_n 3, 1) := by decide +kernel
theorem dl_445 : decode code 445 = .ok (.iconst 1, 1) := by decide +kernel
theorem dl_446 : decode code 446 = .ok (.iadd, 1) := by decide +kernel
theorem dl_447 : decode code 447 = .ok (.iaload, 1) := by decide +kernel
theorem dl_448 : decode code 448 = .ok (.invokevirtual 40, 3) := by decide +kernel
theorem dl_451 : decode code 451 = .ok (.aload_n 2, 1) := by decide +kernel
theorem dl_452 : decode code 452 = .ok (.aload_n 0, 1) := by decide +kernel
theorem dl_453 : decode code 453 = .ok (.iload_n 3, 1) := by decide +kernel
theorem dl_454 : decode code 454 = .ok (.iconst 1, 1) := by decide +kernel
theorem dl_455 : decode code 455 = .ok (.iadd, 1) := by decide +kernel
theorem dl_456 : decode code 456 = .ok (.iaload, 1) := by decide +kernel
theorem dl_457 : decode code 457 = .ok (.invokevirtual 44, 3) := by decide +kernel
theorem dl_460 : decode code 460 = .ok (.if_icmp .eq 909, 3) := by decide +kernel
theorem dl_463 : decode code 463 = .ok (.iconst 0, 1) := by decide +kernel
theorem dl_464 : decode code 464 = .ok (.ireturn, 1) := by decide +kernel
theorem dl_465 : decode code 465 = .ok (.aload_n 1, 1) := by decide +kernel
theorem dl_466 : decode code 466 = .ok (.aload_n 0, 1) := by decide +kernel
theorem dl_467 : decode code 467 = .ok (.iload_n 3, 1) := by decide +kernel
theorem dl_468 : decode code 468 = .ok (.iconst 1, 1) := by decide +kernel
theorem dl_469 : decode code 469 = .ok (.iadd, 1) := by decide +kernel
theorem dl_470 : decode code 470 = .ok (.iaload, 1) := by decide +kernel
theorem dl_471 : decode code 471 = .ok (.aload_n 0, 1) := by decide +kernel
theorem dl_472 : decode code 472 = .ok (.iload_n 3, 1) := by decide +kernel
theorem dl_473 : decode code 473 = .ok (.iconst 2, 1) := by decide +kernel
theorem dl_474 : decode code 474 = .ok (.iadd, 1) := by decide +kernel
theorem dl_475 : decode code 475 = .ok (.iaload, 1) := by decide +kernel
theorem dl_476 : decode code 476 = .ok (.invokevirtual 45, 3) := by decide +kernel
theorem dl_479 : decode code 479 = .ok (.aload_n 2, 1) := by decide +kernel
theorem dl_480 : decode code 480 = .ok (.aload_n 0, 1) := by decide +kernel
theorem dl_481 : decode code 481 = .ok (.iload_n 3, 1) := by decide +kernel
theorem dl_482 : decode code 482 = .ok (.iconst 1, 1) := by decide +kernel
theorem dl_483 : decode code 483 = .ok (.iadd, 1) := by decide +kernel
theorem dl_484 : decode code 484 = .ok (.iaload, 1) := by decide +kernel
theorem dl_485 : decode code 485 = .ok (.aload_n 0, 1) := by decide +kernel
theorem dl_486 : decode code 486 = .ok (.iload_n 3, 1) := by decide +kernel
theorem dl_487 : decode code 487 = .ok (.iconst 2, 1) := by decide +kernel
theorem dl_488 : decode code 488 = .ok (.iadd, 1) := by decide +kernel
theorem dl_489 : decode code 489 = .ok (.iaload, 1) := by decide +kernel
theorem dl_490 : decode code 490 = .ok (.invokevirtual 48, 3) := by decide +kernel
theorem dl_493 : decode code 493 = .ok (.if_icmp .eq 876, 3) := by decide +kernel
theorem dl_496 : decode code 496 = .ok (.iconst 0, 1) := by decide +kernel
theorem dl_497 : decode code 497 = .ok (.ireturn, 1) := by decide +kernel
theorem dl_498 : decode code 498 = .ok (.aload_n 1, 1) := by decide +kernel
theorem dl_499 : decode code 499 = .ok (.aload_n 0, 1) := by decide +kernel
theorem dl_500 : decode code 500 = .ok (.iload_n 3, 1) := by decide +kernel
theorem dl_501 : decode code 501 = .ok (.iconst 1, 1) := by decide +kernel
theorem dl_502 : decode code 502 = .ok (.iadd, 1) := by decide +kernel
theorem dl_503 : decode code 503 = .ok (.iaload, 1) := by decide +kernel
theorem dl_504 : decode code 504 = .ok (.aload_n 0, 1) := by decide +kernel
theorem dl_505 : decode code 505 = .ok (.iload_n 3, 1) := by decide +kernel
theorem dl_506 : decode code 506 = .ok (.iconst 2, 1) := by decide +kernel
theorem dl_507 : decode code 507 = .ok (.iadd, 1) := by decide +kernel
theorem dl_508 : decode code 508 = .ok (.iaload, 1) := by decide +kernel
theorem dl_509 : decode code 509 = .ok (.aload_n 0, 1) := by decide +kernel
theorem dl_510 : decode code 510 = .ok (.iload_n 3, 1) := by decide +kernel
theorem dl_511 : decode code 511 = .ok (.iconst 3, 1) := by decide +kernel
theorem dl_512 : decode code 512 = .ok (.iadd, 1) := by decide +kernel
theorem dl_513 : decode code 513 = .ok (.iaload, 1) := by decide +kernel
theorem dl_514 : decode code 514 = .ok (.aload_n 0, 1) := by decide +kernel
theorem dl_515 : decode code 515 = .ok (.iload_n 3, 1) := by decide +kernel
theorem dl_516 : decode code 516 = .ok (.iconst 4, 1) := by decide +kernel
theorem dl_517 : decode code 517 = .ok (.iadd, 1) := by decide +kernel
theorem dl_518 : decode code 518 = .ok (.iaload, 1) := by decide +kernel
theorem dl_519 : decode code 519 = .ok (.invokevirtual 49, 3) := by decide +kernel
theorem dl_522 : decode code 522 = .ok (.aload_n 2, 1) := by decide +kernel
theorem dl_523 : decode code 523 = .ok (.aload_n 0, 1) := by decide +kernel
theorem dl_524 : decode code 524 = .ok (.iload_n 3, 1) := by decide +kernel
theorem dl_525 : decode code 525 = .ok (.iconst 1, 1) := by decide +kernel
theorem dl_526 : decode code 526 = .ok (.iadd, 1) := by decide +kernel
theorem dl_527 : decode code 527 = .ok (.iaload, 1) := by decide +kernel
theorem dl_528 : decode code 528 = .ok (.aload_n 0, 1) := by decide +kernel
theorem dl_529 : decode code 529 = .ok (.iload_n 3, 1) := by decide +kernel
theorem dl_530 : decode code 530 = .ok (.iconst 2, 1) := by decide +kernel
theorem dl_531 : decode code 531 = .ok (.iadd, 1) := by decide +kernel
theorem dl_532 : decode code 532 = .ok (.iaload, 1) := by decide +kernel
theorem dl_533 : decode code 533 = .ok (.aload_n 0, 1) := by decide +kernel
theorem dl_534 : decode code 534 = .ok (.iload_n 3, 1) := by decide +kernel
theorem dl_535 : decode code 535 = .ok (.iconst 3, 1) := by decide +kernel
theorem dl_536 : decode code 536 = .ok (.iadd, 1) := by decide +kernel
theorem dl_537 : decode code 537 = .ok (.iaload, 1) := by decide +kernel
theorem dl_538 : decode code 538 = .ok (.aload_n 0, 1) := by decide +kernel
theorem dl_539 : decode code 539 = .ok (.iload_n 3, 1) := by decide +kernel
theorem dl_540 : decode code 540 = .ok (.iconst 4, 1) := by decide +kernel
theorem dl_541 : decode code 541 = .ok (.iadd, 1) := by decide +kernel
theorem dl_542 : decode code 542 = .ok (.iaload, 1) := by decide +kernel
theorem dl_543 : decode code 543 = .ok (.invokevirtual 53, 3) := by decide +kernel
theorem dl_546 : decode code 546 = .ok (.if_icmp .eq 823, 3) := by decide +kernel
theorem dl_549 : decode code 549 = .ok (.iconst 0, 1) := by decide +kernel
theorem dl_550 : decode code 550 = .ok (.ireturn, 1) := by decide +kernel
theorem dl_551 : decode code 551 = .ok (.aload_n 1, 1) := by decide +kernel
theorem dl_552 : decode code 552 = .ok (.aload_n 0, 1) := by decide +kernel
theorem dl_553 : decode code 553 = .ok (.iload_n 3, 1) := by decide +kernel
theorem dl_554 : decode code 554 = .ok (.iconst 1, 1) := by decide +kernel
theorem dl_555 : decode code 555 = .ok (.iadd, 1) := by decide +kernel
theorem dl_556 : decode code 556 = .ok (.iaload, 1) := by decide +kernel
theorem dl_557 : decode code 557 = .ok (.invokevirtual 54, 3) := by decide +kernel
theorem dl_560 : decode code 560 = .ok (.aload_n 2, 1) := by decide +kernel
theorem dl_561 : decode code 561 = .ok (.aload_n 0, 1) := by decide +kernel
theorem dl_562 : decode code 562 = .ok (.iload_n 3, 1) := by decide +kernel
theorem dl_563 : decode code 563 = .ok (.iconst 1, 1) := by decide +kernel
theorem dl_564 : decode code 564 = .ok (.iadd, 1) := by decide +kernel
theorem dl_565 : decode code 565 = .ok (.iaload, 1) := by decide +kernel
theorem dl_566 : decode code 566 = .ok (.invokevirtual 57, 3) := by decide +kernel
theorem dl_569 : decode code 569 = .ok (.if_icmp .eq 800, 3) := by decide +kernel
theorem dl_572 : decode code 572 = .ok (.iconst 0, 1) := by decide +kernel
theorem dl_573 : decode code 573 = .ok (.ireturn, 1) := by decide +kernel
theorem dl_574 : decode code 574 = .ok (.aload_n 1, 1) := by decide +kernel
theorem dl_575 : decode code 575 = .ok (.invokevirtual 58, 3) := by decide +kernel
theorem dl_578 : decode code 578 = .ok (.aload_n 2, 1) := by decide +kernel
theorem dl_579 : decode code 579 = .ok (.invokevirtual 62, 3) := by decide +kernel
theorem dl_582 : decode code 582 = .ok (.if_icmp .eq 787, 3) := by decide +kernel
theorem dl_585 : decode code 585 = .ok (.iconst 0, 1) := by decide +kernel
theorem dl_586 : decode code 586 = .ok (.ireturn, 1) := by decide +kernel
theorem dl_587 : decode code 587 = .ok (.aload_n 1, 1) := by decide +kernel
theorem dl_588 : decode code 588 = .ok (.aload_n 0, 1) := by decide +kernel
theorem dl_589 : decode code 589 = .ok (.iload_n 3, 1) := by decide +kernel
theorem dl_590 : decode code 590 = .ok (.iconst 1, 1) := by decide +kernel
theorem dl_591 : decode code 591 = .ok (.iadd, 1) := by decide +kernel
theorem dl_592 : decode code 592 = .ok (.iaload, 1) := by decide +kernel
theorem dl_593 : decode code 593 = .ok (.invokevirtual 63, 3) := by decide +kernel
theorem dl_596 : decode code 596 = .ok (.aload_n 2, 1) := by decide +kernel
theorem dl_597 : decode code 597 = .ok (.aload_n 0, 1) := by decide +kernel
theorem dl_598 : decode code 598 = .ok (.iload_n 3, 1) := by decide +kernel
theorem dl_599 : decode code 599 = .ok (.iconst 1, 1) := by decide +kernel
theorem dl_600 : decode code 600 = .ok (.iadd, 1) := by decide +kernel
theorem dl_601 : decode code 601 = .ok (.iaload, 1) := by decide +kernel
theorem dl_602 : decode code 602 = .ok (.invokevirtual 66, 3) := by decide +kernel
theorem dl_605 : decode code 605 = .ok (.if_icmp .eq 764, 3) := by decide +kernel
theorem dl_608 : decode code 608 = .ok (.iconst 0, 1) := by decide +kernel
theorem dl_609 : decode code 609 = .ok (.ireturn, 1) := by decide +kernel
theorem dl_610 : decode code 610 = .ok (.aload_n 1, 1) := by decide +kernel
theorem dl_611 : decode code 611 = .ok (.aload_n 0, 1) := by decide +kernel
theorem dl_612 : decode code 612 = .ok (.iload_n 3, 1) := by decide +kernel
theorem dl_613 : decode code 613 = .ok (.iconst 1, 1) := by decide +kernel
theorem dl_614 : decode code 614 = .ok (.iadd, 1) := by decide +kernel
theorem dl_615 : decode code 615 = .ok (.iaload, 1) := by decide +kernel
theorem dl_616 : decode code 616 = .ok (.aload_n 0, 1) := by decide +kernel
theorem dl_617 : decode code 617 = .ok (.iload_n 3, 1) := by decide +kernel
theorem dl_618 : decode code 618 = .ok (.iconst 2, 1) := by decide +kernel
theorem dl_619 : decode code 619 = .ok (.iadd, 1) := by decide +kernel
theorem dl_620 : decode code 620 = .ok (.iaload, 1) := by decide +kernel
theorem dl_621 : decode code 621 = .ok (.aload_n 0, 1) := by decide +kernel
theorem dl_622 : decode code 622 = .ok (.iload_n 3, 1) := by decide +kernel
theorem dl_623 : decode code 623 = .ok (.iconst 3, 1) := by decide +kernel
theorem dl_624 : decode code 624 = .ok (.iadd, 1) := by decide +kernel
theorem dl_625 : decode code 625 = .ok (.iaload, 1) := by decide +kernel
theorem dl_626 : decode code 626 = .ok (.invokevirtual 67, 3) := by decide +kernel
theorem dl_629 : decode code 629 = .ok (.aload_n 2, 1) := by decide +kernel
theorem dl_630 : decode code 630 = .ok (.aload_n 0, 1) := by decide +kernel
theorem dl_631 : decode code 631 = .ok (.iload_n 3, 1) := by decide +kernel
theorem dl_632 : decode code 632 = .ok (.iconst 1, 1) := by decide +kernel
theorem dl_633 : decode code 633 = .ok (.iadd, 1) := by decide +kernel
theorem dl_634 : decode code 634 = .ok (.iaload, 1) := by decide +kernel
theorem dl_635 : decode code 635 = .ok (.aload_n 0, 1) := by decide +kernel
theorem dl_636 : decode code 636 = .ok (.iload_n 3, 1) := by decide +kernel
theorem dl_637 : decode code 637 = .ok (.iconst 2, 1) := by decide +kernel
theorem dl_638 : decode code 638 = .ok (.iadd, 1) := by decide +kernel
theorem dl_639 : decode code 639 = .ok (.iaload, 1) := by decide +kernel
theorem dl_640 : decode code 640 = .ok (.aload_n 0, 1) := by decide +kernel
theorem dl_641 : decode code 641 = .ok (.iload_n 3, 1) := by decide +kernel
theorem dl_642 : decode code 642 = .ok (.iconst 3, 1) := by decide +kernel
theorem dl_643 : decode code 643 = .ok (.iadd, 1) := by decide +kernel
theorem dl_644 : decode code 644 = .ok (.iaload, 1) := by decide +kernel
theorem dl_645 : decode code 645 = .ok (.invokevirtual 70, 3) := by decide +kernel
theorem dl_648 : decode code 648 = .ok (.if_icmp .eq 721, 3) := by decide +kernel
theorem dl_651 : decode code 651 = .ok (.iconst 0, 1) := by decide +kernel
