theorem d_Field_multiply_376 : decode prog_3_method_8_code 376 = .ok (.lstore 73, 2) := by decide +kernel
theorem d_Field_multiply_378 : decode prog_3_method_8_code 378 = .ok (.lload 77, 2) := by decide +kernel
theorem d_Field_multiply_380 : decode prog_3_method_8_code 380 = .ok (.lload 88, 2) := by decide +kernel
theorem d_Field_multiply_382 : decode prog_3_method_8_code 382 = .ok (.lload 20, 2) := by decide +kernel
theorem d_Field_multiply_384 : decode prog_3_method_8_code 384 = .ok (.lmul, 1) := by decide +kernel
theorem d_Field_multiply_385 : decode prog_3_method_8_code 385 = .ok (.ladd, 1) := by decide +kernel
theorem d_Field_multiply_386 : decode prog_3_method_8_code 386 = .ok (.lload 90, 2) := by decide +kernel
theorem d_Field_multiply_388 : decode prog_3_method_8_code 388 = .ok (.lload 49, 2) := by decide +kernel
theorem d_Field_multiply_390 : decode prog_3_method_8_code 390 = .ok (.lmul, 1) := by decide +kernel
theorem d_Field_multiply_391 : decode prog_3_method_8_code 391 = .ok (.ladd, 1) := by decide +kernel
theorem d_Field_multiply_392 : decode prog_3_method_8_code 392 = .ok (.lstore 75, 2) := by decide +kernel
theorem d_Field_multiply_394 : decode prog_3_method_8_code 394 = .ok (.lload 79, 2) := by decide +kernel
theorem d_Field_multiply_396 : decode prog_3_method_8_code 396 = .ok (.lload 88, 2) := by decide +kernel
theorem d_Field_multiply_398 : decode prog_3_method_8_code 398 = .ok (.lload 22, 2) := by decide +kernel
theorem d_Field_multiply_400 : decode prog_3_method_8_code 400 = .ok (.lmul, 1) := by decide +kernel
theorem d_Field_multiply_401 : decode prog_3_method_8_code 401 = .ok (.ladd, 1) := by decide +kernel
theorem d_Field_multiply_402 : decode prog_3_method_8_code 402 = .ok (.lload 90, 2) := by decide +kernel
theorem d_Field_multiply_404 : decode prog_3_method_8_code 404 = .ok (.lload 51, 2) := by decide +kernel
theorem d_Field_multiply_406 : decode prog_3_method_8_code 406 = .ok (.lmul, 1) := by decide +kernel
theorem d_Field_multiply_407 : decode prog_3_method_8_code 407 = .ok (.ladd, 1) := by decide +kernel
theorem d_Field_multiply_408 : decode prog_3_method_8_code 408 = .ok (.lstore 77, 2) := by decide +kernel
theorem d_Field_multiply_410 : decode prog_3_method_8_code 410 = .ok (.lload 81, 2) := by decide +kernel
theorem d_Field_multiply_412 : decode prog_3_method_8_code 412 = .ok (.lload 88, 2) := by decide +kernel
theorem d_Field_multiply_414 : decode prog_3_method_8_code 414 = .ok (.lload 24, 2) := by decide +kernel
theorem d_Field_multiply_416 : decode prog_3_method_8_code 416 = .ok (.lmul, 1) := by decide +kernel
theorem d_Field_multiply_417 : decode prog_3_method_8_code 417 = .ok (.ladd, 1) := by decide +kernel
theorem d_Field_multiply_418 : decode prog_3_method_8_code 418 = .ok (.lload 90, 2) := by decide +kernel
theorem d_Field_multiply_420 : decode prog_3_method_8_code 420 = .ok (.lload 53, 2) := by decide +kernel
theorem d_Field_multiply_422 : decode prog_3_method_8_code 422 = .ok (.lmul, 1) := by decide +kernel
theorem d_Field_multiply_423 : decode prog_3_method_8_code 423 = .ok (.ladd, 1) := by decide +kernel
theorem d_Field_multiply_424 : decode prog_3_method_8_code 424 = .ok (.lstore 79, 2) := by decide +kernel
theorem d_Field_multiply_426 : decode prog_3_method_8_code 426 = .ok (.lload 83, 2) := by decide +kernel
theorem d_Field_multiply_428 : decode prog_3_method_8_code 428 = .ok (.lload 88, 2) := by decide +kernel
theorem d_Field_multiply_430 : decode prog_3_method_8_code 430 = .ok (.lload 26, 2) := by decide +kernel
theorem d_Field_multiply_432 : decode prog_3_method_8_code 432 = .ok (.lmul, 1) := by decide +kernel
theorem d_Field_multiply_433 : decode prog_3_method_8_code 433 = .ok (.ladd, 1) := by decide +kernel
theorem d_Field_multiply_434 : decode prog_3_method_8_code 434 = .ok (.lload 90, 2) := by decide +kernel
theorem d_Field_multiply_436 : decode prog_3_method_8_code 436 = .ok (.lload 55, 2) := by decide +kernel
theorem d_Field_multiply_438 : decode prog_3_method_8_code 438 = .ok (.lmul, 1) := by decide +kernel
theorem d_Field_multiply_439 : decode prog_3_method_8_code 439 = .ok (.ladd, 1) := by decide +kernel
theorem d_Field_multiply_440 : decode prog_3_method_8_code 440 = .ok (.lstore 81, 2) := by decide +kernel
theorem d_Field_multiply_442 : decode prog_3_method_8_code 442 = .ok (.lload 85, 2) := by decide +kernel
theorem d_Field_multiply_444 : decode prog_3_method_8_code 444 = .ok (.lload 88, 2) := by decide +kernel
theorem d_Field_multiply_446 : decode prog_3_method_8_code 446 = .ok (.lload 28, 2) := by decide +kernel
theorem d_Field_multiply_448 : decode prog_3_method_8_code 448 = .ok (.lmul, 1) := by decide +kernel
theorem d_Field_multiply_449 : decode prog_3_method_8_code 449 = .ok (.ladd, 1) := by decide +kernel
theorem d_Field_multiply_450 : decode prog_3_method_8_code 450 = .ok (.lload 90, 2) := by decide +kernel
theorem d_Field_multiply_452 : decode prog_3_method_8_code 452 = .ok (.lload 57, 2) := by decide +kernel
theorem d_Field_multiply_454 : decode prog_3_method_8_code 454 = .ok (.lmul, 1) := by decide +kernel
theorem d_Field_multiply_455 : decode prog_3_method_8_code 455 = .ok (.ladd, 1) := by decide +kernel
theorem d_Field_multiply_456 : decode prog_3_method_8_code 456 = .ok (.lstore 83, 2) := by decide +kernel
theorem d_Field_multiply_458 : decode prog_3_method_8_code 458 = .ok (.lload 88, 2) := by decide +kernel
theorem d_Field_multiply_460 : decode prog_3_method_8_code 460 = .ok (.lload 30, 2) := by decide +kernel
theorem d_Field_multiply_462 : decode prog_3_method_8_code 462 = .ok (.lmul, 1) := by decide +kernel
theorem d_Field_multiply_463 : decode prog_3_method_8_code 463 = .ok (.lload 90, 2) := by decide +kernel
theorem d_Field_multiply_465 : decode prog_3_method_8_code 465 = .ok (.lload 59, 2) := by decide +kernel
theorem d_Field_multiply_467 : decode prog_3_method_8_code 467 = .ok (.lmul, 1) := by decide +kernel
theorem d_Field_multiply_468 : decode prog_3_method_8_code 468 = .ok (.ladd, 1) := by decide +kernel
theorem d_Field_multiply_469 : decode prog_3_method_8_code 469 = .ok (.lstore 85, 2) := by decide +kernel
theorem d_Field_multiply_471 : decode prog_3_method_8_code 471 = .ok (.iinc 87 1, 3) := by decide +kernel
theorem d_Field_multiply_474 : decode prog_3_method_8_code 474 = .ok (.goto (-256), 3) := by decide +kernel
theorem d_Field_multiply_477 : decode prog_3_method_8_code 477 = .ok (.aload_n 1, 1) := by decide +kernel
theorem d_Field_multiply_478 : decode prog_3_method_8_code 478 = .ok (.iconst 0, 1) := by decide +kernel
theorem d_Field_multiply_479 : decode prog_3_method_8_code 479 = .ok (.lload 61, 2) := by decide +kernel
theorem d_Field_multiply_481 : decode prog_3_method_8_code 481 = .ok (.ldc2_w 59, 3) := by decide +kernel
theorem d_Field_multiply_484 : decode prog_3_method_8_code 484 = .ok (.land, 1) := by decide +kernel
theorem d_Field_multiply_485 : decode prog_3_method_8_code 485 = .ok (.lastore, 1) := by decide +kernel
theorem d_Field_multiply_486 : decode prog_3_method_8_code 486 = .ok (.aload_n 1, 1) := by decide +kernel
theorem d_Field_multiply_487 : decode prog_3_method_8_code 487 = .ok (.iconst 1, 1) := by decide +kernel
theorem d_Field_multiply_488 : decode prog_3_method_8_code 488 = .ok (.lload 63, 2) := by decide +kernel
theorem d_Field_multiply_490 : decode prog_3_method_8_code 490 = .ok (.lload 61, 2) := by decide +kernel
theorem d_Field_multiply_492 : decode prog_3_method_8_code 492 = .ok (.bipush 28, 2) := by decide +kernel
theorem d_Field_multiply_494 : decode prog_3_method_8_code 494 = .ok (.lshr, 1) := by decide +kernel
theorem d_Field_multiply_495 : decode prog_3_method_8_code 495 = .ok (.ladd, 1) := by decide +kernel
theorem d_Field_multiply_496 : decode prog_3_method_8_code 496 = .ok (.dup2, 1) := by decide +kernel
theorem d_Field_multiply_497 : decode prog_3_method_8_code 497 = .ok (.lstore 63, 2) := by decide +kernel
theorem d_Field_multiply_499 : decode prog_3_method_8_code 499 = .ok (.ldc2_w 59, 3) := by decide +kernel
theorem d_Field_multiply_502 : decode prog_3_method_8_code 502 = .ok (.land, 1) := by decide +kernel
theorem d_Field_multiply_503 : decode prog_3_method_8_code 503 = .ok (.lastore, 1) := by decide +kernel
theorem d_Field_multiply_504 : decode prog_3_method_8_code 504 = .ok (.aload_n 1, 1) := by decide +kernel
theorem d_Field_multiply_505 : decode prog_3_method_8_code 505 = .ok (.iconst 2, 1) := by decide +kernel
theorem d_Field_multiply_506 : decode prog_3_method_8_code 506 = .ok (.lload 65, 2) := by decide +kernel
theorem d_Field_multiply_508 : decode prog_3_method_8_code 508 = .ok (.lload 63, 2) := by decide +kernel
theorem d_Field_multiply_510 : decode prog_3_method_8_code 510 = .ok (.bipush 28, 2) := by decide +kernel
theorem d_Field_multiply_512 : decode prog_3_method_8_code 512 = .ok (.lshr, 1) := by decide +kernel
theorem d_Field_multiply_513 : decode prog_3_method_8_code 513 = .ok (.ladd, 1) := by decide +kernel
theorem d_Field_multiply_514 : decode prog_3_method_8_code 514 = .ok (.dup2, 1) := by decide +kernel
theorem d_Field_multiply_515 : decode prog_3_method_8_code 515 = .ok (.lstore 65, 2) := by decide +kernel
theorem d_Field_multiply_517 : decode prog_3_method_8_code 517 = .ok (.ldc2_w 59, 3) := by decide +kernel
theorem d_Field_multiply_520 : decode prog_3_method_8_code 520 = .ok (.land, 1) := by decide +kernel
theorem d_Field_multiply_521 : decode prog_3_method_8_code 521 = .ok (.lastore, 1) := by decide +kernel
theorem d_Field_multiply_522 : decode prog_3_method_8_code 522 = .ok (.aload_n 1, 1) := by decide +kernel
theorem d_Field_multiply_523 : decode prog_3_method_8_code 523 = .ok (.iconst 3, 1) := by decide +kernel
theorem d_Field_multiply_524 : decode prog_3_method_8_code 524 = .ok (.lload 67, 2) := by decide +kernel
theorem d_Field_multiply_526 : decode prog_3_method_8_code 526 = .ok (.lload 65, 2) := by decide +kernel
theorem d_Field_multiply_528 : decode prog_3_method_8_code 528 = .ok (.bipush 28, 2) := by decide +kernel
theorem d_Field_multiply_530 : decode prog_3_method_8_code 530 = .ok (.lshr, 1) := by decide +kernel
theorem d_Field_multiply_531 : decode prog_3_method_8_code 531 = .ok (.ladd, 1) := by decide +kernel
theorem d_Field_multiply_532 : decode prog_3_method_8_code 532 = .ok (.dup2, 1) := by decide +kernel
theorem d_Field_multiply_533 : decode prog_3_method_8_code 533 = .ok (.lstore 67, 2) := by decide +kernel
theorem d_Field_multiply_535 : decode prog_3_method_8_code 535 = .ok (.ldc2_w 59, 3) := by decide +kernel
theorem d_Field_multiply_538 : decode prog_3_method_8_code 538 = .ok (.land, 1) := by decide +kernel
theorem d_Field_multiply_539 : decode prog_3_method_8_code 539 = .ok (.lastore, 1) := by decide +kernel
theorem d_Field_multiply_540 : decode prog_3_method_8_code 540 = .ok (.aload_n 1, 1) := by decide +kernel
theorem d_Field_multiply_541 : decode prog_3_method_8_code 541 = .ok (.iconst 4, 1) := by decide +kernel
theorem d_Field_multiply_542 : decode prog_3_method_8_code 542 = .ok (.lload 69, 2) := by decide +kernel
theorem d_Field_multiply_544 : decode prog_3_method_8_code 544 = .ok (.lload 67, 2) := by decide +kernel
theorem d_Field_multiply_546 : decode prog_3_method_8_code 546 = .ok (.bipush 28, 2) := by decide +kernel
theorem d_Field_multiply_548 : decode prog_3_method_8_code 548 = .ok (.lshr, 1) := by decide +kernel
theorem d_Field_multiply_549 : decode prog_3_method_8_code 549 = .ok (.ladd, 1) := by decide +kernel
theorem d_Field_multiply_550 : decode prog_3_method_8_code 550 = .ok (.dup2, 1) := by decide +kernel
theorem d_Field_multiply_551 : decode prog_3_method_8_code 551 = .ok (.lstore 69, 2) := by decide +kernel
theorem d_Field_multiply_553 : decode prog_3_method_8_code 553 = .ok (.ldc2_w 59, 3) := by decide +kernel
theorem d_Field_multiply_556 : decode prog_3_method_8_code 556 = .ok (.land, 1) := by decide +kernel
theorem d_Field_multiply_557 : decode prog_3_method_8_code 557 = .ok (.lastore, 1) := by decide +kernel
theorem d_Field_multiply_558 : decode prog_3_method_8_code 558 = .ok (.aload_n 1, 1) := by decide +kernel
theorem d_Field_multiply_559 : decode prog_3_method_8_code 559 = .ok (.iconst 5, 1) := by decide +kernel
theorem d_Field_multiply_560 : decode prog_3_method_8_code 560 = .ok (.lload 71, 2) := by decide +kernel
theorem d_Field_multiply_562 : decode prog_3_method_8_code 562 = .ok (.lload 69, 2) := by decide +kernel
theorem d_Field_multiply_564 : decode prog_3_method_8_code 564 = .ok (.bipush 28, 2) := by decide +kernel
theorem d_Field_multiply_566 : decode prog_3_method_8_code 566 = .ok (.lshr, 1) := by decide +kernel
theorem d_Field_multiply_567 : decode prog_3_method_8_code 567 = .ok (.ladd, 1) := by decide +kernel
theorem d_Field_multiply_568 : decode prog_3_method_8_code 568 = .ok (.dup2, 1) := by decide +kernel
theorem d_Field_multiply_569 : decode prog_3_method_8_code 569 = .ok (.lstore 71, 2) := by decide +kernel
theorem d_Field_multiply_571 : decode prog_3_method_8_code 571 = .ok (.ldc2_w 59, 3) := by decide +kernel
theorem d_Field_multiply_574 : decode prog_3_method_8_code 574 = .ok (.land, 1) := by decide +kernel
theorem d_Field_multiply_575 : decode prog_3_method_8_code 575 = .ok (.lastore, 1) := by decide +kernel
theorem d_Field_multiply_576 : decode prog_3_method_8_code 576 = .ok (.aload_n 1, 1) := by decide +kernel
theorem d_Field_multiply_577 : decode prog_3_method_8_code 577 = .ok (.bipush 6, 2) := by decide +kernel
theorem d_Field_multiply_579 : decode prog_3_method_8_code 579 = .ok (.lload 73, 2) := by decide +kernel
theorem d_Field_multiply_581 : decode prog_3_method_8_code 581 = .ok (.lload 71, 2) := by decide +kernel
theorem d_Field_multiply_583 : decode prog_3_method_8_code 583 = .ok (.bipush 28, 2) := by decide +kernel
theorem d_Field_multiply_585 : decode prog_3_method_8_code 585 = .ok (.lshr, 1) := by decide +kernel
theorem d_Field_multiply_586 : decode prog_3_method_8_code 586 = .ok (.ladd, 1) := by decide +kernel
theorem d_Field_multiply_587 : decode prog_3_method_8_code 587 = .ok (.dup2, 1) := by decide +kernel
theorem d_Field_multiply_588 : decode prog_3_method_8_code 588 = .ok (.lstore 73, 2) := by decide +kernel
theorem d_Field_multiply_590 : decode prog_3_method_8_code 590 = .ok (.ldc2_w 59, 3) := by decide +kernel
theorem d_Field_multiply_593 : decode prog_3_method_8_code 593 = .ok (.land, 1) := by decide +kernel
theorem d_Field_multiply_594 : decode prog_3_method_8_code 594 = .ok (.lastore, 1) := by decide +kernel
theorem d_Field_multiply_595 : decode prog_3_method_8_code 595 = .ok (.aload_n 1, 1) := by decide +kernel
theorem d_Field_multiply_596 : decode prog_3_method_8_code 596 = .ok (.bipush 7, 2) := by decide +kernel
theorem d_Field_multiply_598 : decode prog_3_method_8_code 598 = .ok (.lload 75, 2) := by decide +kernel
theorem d_Field_multiply_600 : decode prog_3_method_8_code 600 = .ok (.lload 73, 2) := by decide +kernel
theorem d_Field_multiply_602 : decode prog_3_method_8_code 602 = .ok (.bipush 28, 2) := by decide +kernel
theorem d_Field_multiply_604 : decode prog_3_method_8_code 604 = .ok (.lshr, 1) := by decide +kernel
theorem d_Field_multiply_605 : decode prog_3_method_8_code 605 = .ok (.ladd, 1) := by decide +kernel
theorem d_Field_multiply_606 : decode prog_3_method_8_code 606 = .ok (.dup2, 1) := by decide +kernel
theorem d_Field_multiply_607 : decode prog_3_method_8_code 607 = .ok (.lstore 75, 2) := by decide +kernel
theorem d_Field_multiply_609 : decode prog_3_method_8_code 609 = .ok (.ldc2_w 59, 3) := by decide +kernel
theorem d_Field_multiply_612 : decode prog_3_method_8_code 612 = .ok (.land, 1) := by decide +kernel
theorem d_Field_multiply_613 : decode prog_3_method_8_code 613 = .ok (.lastore, 1) := by decide +kernel
theorem d_Field_multiply_614 : decode prog_3_method_8_code 614 = .ok (.aload_n 1, 1) := by decide +kernel
theorem d_Field_multiply_615 : decode prog_3_method_8_code 615 = .ok (.bipush 8, 2) := by decide +kernel
theorem d_Field_multiply_617 : decode prog_3_method_8_code 617 = .ok (.lload 77, 2) := by decide +kernel
theorem d_Field_multiply_619 : decode prog_3_method_8_code 619 = .ok (.lload 75, 2) := by decide +kernel
theorem d_Field_multiply_621 : decode prog_3_method_8_code 621 = .ok (.bipush 28, 2) := by decide +kernel
theorem d_Field_multiply_623 : decode prog_3_method_8_code 623 = .ok (.lshr, 1) := by decide +kernel
theorem d_Field_multiply_624 : decode prog_3_method_8_code 624 = .ok (.ladd, 1) := by decide +kernel
theorem d_Field_multiply_625 : decode prog_3_method_8_code 625 = .ok (.dup2, 1) := by decide +kernel
theorem d_Field_multiply_626 : decode prog_3_method_8_code 626 = .ok (.lstore 77, 2) := by decide +kernel
theorem d_Field_multiply_628 : decode prog_3_method_8_code 628 = .ok (.ldc2_w 59, 3) := by decide +kernel
theorem d_Field_multiply_631 : decode prog_3_method_8_code 631 = .ok (.land, 1) := by decide +kernel
theorem d_Field_multiply_632 : decode prog_3_method_8_code 632 = .ok (.lastore, 1) := by decide +kernel
theorem d_Field_multiply_633 : decode prog_3_method_8_code 633 = .ok (.aload_n 1, 1) := by decide +kernel
theorem d_Field_multiply_634 : decode prog_3_method_8_code 634 = .ok (.bipush 9, 2) := by decide +kernel
theorem d_Field_multiply_636 : decode prog_3_method_8_code 636 = .ok (.lload 79, 2) := by decide +kernel
theorem d_Field_multiply_638 : decode prog_3_method_8_code 638 = .ok (.lload 77, 2) := by decide +kernel
theorem d_Field_multiply_640 : decode prog_3_method_8_code 640 = .ok (.bipush 28, 2) := by decide +kernel
theorem d_Field_multiply_642 : decode prog_3_method_8_code 642 = .ok (.lshr, 1) := by decide +kernel
theorem d_Field_multiply_643 : decode prog_3_method_8_code 643 = .ok (.ladd, 1) := by decide +kernel
theorem d_Field_multiply_644 : decode prog_3_method_8_code 644 = .ok (.dup2, 1) := by decide +kernel
theorem d_Field_multiply_645 : decode prog_3_method_8_code 645 = .ok (.lstore 79, 2) := by decide +kernel
theorem d_Field_multiply_647 : decode prog_3_method_8_code 647 = .ok (.ldc2_w 59, 3) := by decide +kernel
theorem d_Field_multiply_650 : decode prog_3_method_8_code 650 = .ok (.land, 1) := by decide +kernel
theorem d_Field_multiply_651 : decode prog_3_method_8_code 651 = .ok (.lastore, 1) := by decide +kernel
theorem d_Field_multiply_652 : decode prog_3_method_8_code 652 = .ok (.aload_n 1, 1) := by decide +kernel
theorem d_Field_multiply_653 : decode prog_3_method_8_code 653 = .ok (.bipush 10, 2) := by decide +kernel
theorem d_Field_multiply_655 : decode prog_3_method_8_code 655 = .ok (.lload 81, 2) := by decide +kernel
theorem d_Field_multiply_657 : decode prog_3_method_8_code 657 = .ok (.lload 79, 2) := by decide +kernel
theorem d_Field_multiply_659 : decode prog_3_method_8_code 659 = .ok (.bipush 28, 2) := by decide +kernel
theorem d_Field_multiply_661 : decode prog_3_method_8_code 661 = .ok (.lshr, 1) := by decide +kernel
theorem d_Field_multiply_662 : decode prog_3_method_8_code 662 = .ok (.ladd, 1) := by decide +kernel
theorem d_Field_multiply_663 : decode prog_3_method_8_code 663 = .ok (.dup2, 1) := by decide +kernel
theorem d_Field_multiply_664 : decode prog_3_method_8_code 664 = .ok (.lstore 81, 2) := by decide +kernel
theorem d_Field_multiply_666 : decode prog_3_method_8_code 666 = .ok (.ldc2_w 59, 3) := by decide +kernel
theorem d_Field_multiply_669 : decode prog_3_method_8_code 669 = .ok (.land, 1) := by decide +kernel
theorem d_Field_multiply_670 : decode prog_3_method_8_code 670 = .ok (.lastore, 1) := by decide +kernel
theorem d_Field_multiply_671 : decode prog_3_method_8_code 671 = .ok (.aload_n 1, 1) := by decide +kernel
theorem d_Field_multiply_672 : decode prog_3_method_8_code 672 = .ok (.bipush 11, 2) := by decide +kernel
theorem d_Field_multiply_674 : decode prog_3_method_8_code 674 = .ok (.lload 83, 2) := by decide +kernel
theorem d_Field_multiply_676 : decode prog_3_method_8_code 676 = .ok (.lload 81, 2) := by decide +kernel
theorem d_Field_multiply_678 : decode prog_3_method_8_code 678 = .ok (.bipush 28, 2) := by decide +kernel
theorem d_Field_multiply_680 : decode prog_3_method_8_code 680 = .ok (.lshr, 1) := by decide +kernel
theorem d_Field_multiply_681 : decode prog_3_method_8_code 681 = .ok (.ladd, 1) := by decide +kernel
theorem d_Field_multiply_682 : decode prog_3_method_8_code 682 = .ok (.dup2, 1) := by decide +kernel
theorem d_Field_multiply_683 : decode prog_3_method_8_code 683 = .ok (.lstore 83, 2) := by decide +kernel
theorem d_Field_multiply_685 : decode prog_3_method_8_code 685 = .ok (.ldc2_w 59, 3) := by decide +kernel
theorem d_Field_multiply_688 : decode prog_3_method_8_code 688 = .ok (.land, 1) := by decide +kernel
theorem d_Field_multiply_689 : decode prog_3_method_8_code 689 = .ok (.lastore, 1) := by decide +kernel
theorem d_Field_multiply_690 : decode prog_3_method_8_code 690 = .ok (.aload_n 1, 1) := by decide +kernel
theorem d_Field_multiply_691 : decode prog_3_method_8_code 691 = .ok (.bipush 12, 2) := by decide +kernel
theorem d_Field_multiply_693 : decode prog_3_method_8_code 693 = .ok (.lload 85, 2) := by decide +kernel
theorem d_Field_multiply_695 : decode prog_3_method_8_code 695 = .ok (.lload 83, 2) := by decide +kernel
theorem d_Field_multiply_697 : decode prog_3_method_8_code 697 = .ok (.bipush 28, 2) := by decide +kernel
theorem d_Field_multiply_699 : decode prog_3_method_8_code 699 = .ok (.lshr, 1) := by decide +kernel
theorem d_Field_multiply_700 : decode prog_3_method_8_code 700 = .ok (.ladd, 1) := by decide +kernel
theorem d_Field_multiply_701 : decode prog_3_method_8_code 701 = .ok (.dup2, 1) := by decide +kernel
theorem d_Field_multiply_702 : decode prog_3_method_8_code 702 = .ok (.lstore 85, 2) := by decide +kernel
theorem d_Field_multiply_704 : decode prog_3_method_8_code 704 = .ok (.ldc2_w 59, 3) := by decide +kernel
theorem d_Field_multiply_707 : decode prog_3_method_8_code 707 = .ok (.land, 1) := by decide +kernel
theorem d_Field_multiply_708 : decode prog_3_method_8_code 708 = .ok (.lastore, 1) := by decide +kernel
theorem d_Field_multiply_709 : decode prog_3_method_8_code 709 = .ok (.aload_n 1, 1) := by decide +kernel
theorem d_Field_multiply_710 : decode prog_3_method_8_code 710 = .ok (.bipush 13, 2) := by decide +kernel
theorem d_Field_multiply_712 : decode prog_3_method_8_code 712 = .ok (.lload 85, 2) := by decide +kernel
theorem d_Field_multiply_714 : decode prog_3_method_8_code 714 = .ok (.bipush 28, 2) := by decide +kernel
theorem d_Field_multiply_716 : decode prog_3_method_8_code 716 = .ok (.lshr, 1) := by decide +kernel
theorem d_Field_multiply_717 : decode prog_3_method_8_code 717 = .ok (.lastore, 1) := by decide +kernel
theorem d_Field_multiply_718 : decode prog_3_method_8_code 718 = .ok (.aload_n 0, 1) := by decide +kernel
theorem d_Field_multiply_719 : decode prog_3_method_8_code 719 = .ok (.aload_n 1, 1) := by decide +kernel
theorem d_Field_multiply_720 : decode prog_3_method_8_code 720 = .ok (.invokevirtual 64, 3) := by decide +kernel
theorem d_Field_multiply_723 : decode prog_3_method_8_code 723 = .ok (.return_, 1) := by decide +kernel
