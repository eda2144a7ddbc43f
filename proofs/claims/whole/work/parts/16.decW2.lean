/-! decode rows, printed by wip/gen/names.py -/
theorem d_W_law_387 : decode c_W_law 387 = .ok (.iconst 0, 1) := by decide +kernel
theorem d_W_law_388 : decode c_W_law 388 = .ok (.ireturn, 1) := by decide +kernel
theorem d_W_law_389 : decode c_W_law 389 = .ok (.goto 647, 3) := by decide +kernel
theorem d_W_law_392 : decode c_W_law 392 = .ok (.aload_n 1, 1) := by decide +kernel
theorem d_W_law_393 : decode c_W_law 393 = .ok (.aload_n 0, 1) := by decide +kernel
theorem d_W_law_394 : decode c_W_law 394 = .ok (.iload 4, 2) := by decide +kernel
theorem d_W_law_396 : decode c_W_law 396 = .ok (.iconst 1, 1) := by decide +kernel
theorem d_W_law_397 : decode c_W_law 397 = .ok (.iadd, 1) := by decide +kernel
theorem d_W_law_398 : decode c_W_law 398 = .ok (.iaload, 1) := by decide +kernel
theorem d_W_law_399 : decode c_W_law 399 = .ok (.aload_n 0, 1) := by decide +kernel
theorem d_W_law_400 : decode c_W_law 400 = .ok (.iload 4, 2) := by decide +kernel
theorem d_W_law_402 : decode c_W_law 402 = .ok (.iconst 2, 1) := by decide +kernel
theorem d_W_law_403 : decode c_W_law 403 = .ok (.iadd, 1) := by decide +kernel
theorem d_W_law_404 : decode c_W_law 404 = .ok (.iaload, 1) := by decide +kernel
theorem d_W_law_405 : decode c_W_law 405 = .ok (.aload_n 0, 1) := by decide +kernel
theorem d_W_law_406 : decode c_W_law 406 = .ok (.iload 4, 2) := by decide +kernel
theorem d_W_law_408 : decode c_W_law 408 = .ok (.iconst 3, 1) := by decide +kernel
theorem d_W_law_409 : decode c_W_law 409 = .ok (.iadd, 1) := by decide +kernel
theorem d_W_law_410 : decode c_W_law 410 = .ok (.iaload, 1) := by decide +kernel
theorem d_W_law_411 : decode c_W_law 411 = .ok (.aload_n 0, 1) := by decide +kernel
theorem d_W_law_412 : decode c_W_law 412 = .ok (.iload 4, 2) := by decide +kernel
theorem d_W_law_414 : decode c_W_law 414 = .ok (.iconst 4, 1) := by decide +kernel
theorem d_W_law_415 : decode c_W_law 415 = .ok (.iadd, 1) := by decide +kernel
theorem d_W_law_416 : decode c_W_law 416 = .ok (.iaload, 1) := by decide +kernel
theorem d_W_law_417 : decode c_W_law 417 = .ok (.aload_n 0, 1) := by decide +kernel
theorem d_W_law_418 : decode c_W_law 418 = .ok (.iload 4, 2) := by decide +kernel
theorem d_W_law_420 : decode c_W_law 420 = .ok (.iconst 5, 1) := by decide +kernel
theorem d_W_law_421 : decode c_W_law 421 = .ok (.iadd, 1) := by decide +kernel
theorem d_W_law_422 : decode c_W_law 422 = .ok (.iaload, 1) := by decide +kernel
theorem d_W_law_423 : decode c_W_law 423 = .ok (.aload_n 3, 1) := by decide +kernel
theorem d_W_law_424 : decode c_W_law 424 = .ok (.invokestatic 89, 3) := by decide +kernel
theorem d_W_law_427 : decode c_W_law 427 = .ok (.istore 5, 2) := by decide +kernel
theorem d_W_law_429 : decode c_W_law 429 = .ok (.aload_n 2, 1) := by decide +kernel
theorem d_W_law_430 : decode c_W_law 430 = .ok (.aload_n 0, 1) := by decide +kernel
theorem d_W_law_431 : decode c_W_law 431 = .ok (.iload 4, 2) := by decide +kernel
theorem d_W_law_433 : decode c_W_law 433 = .ok (.iconst 1, 1) := by decide +kernel
theorem d_W_law_434 : decode c_W_law 434 = .ok (.iadd, 1) := by decide +kernel
theorem d_W_law_435 : decode c_W_law 435 = .ok (.iaload, 1) := by decide +kernel
theorem d_W_law_436 : decode c_W_law 436 = .ok (.aload_n 0, 1) := by decide +kernel
theorem d_W_law_437 : decode c_W_law 437 = .ok (.iload 4, 2) := by decide +kernel
theorem d_W_law_439 : decode c_W_law 439 = .ok (.iconst 2, 1) := by decide +kernel
theorem d_W_law_440 : decode c_W_law 440 = .ok (.iadd, 1) := by decide +kernel
theorem d_W_law_441 : decode c_W_law 441 = .ok (.iaload, 1) := by decide +kernel
theorem d_W_law_442 : decode c_W_law 442 = .ok (.aload_n 0, 1) := by decide +kernel
theorem d_W_law_443 : decode c_W_law 443 = .ok (.iload 4, 2) := by decide +kernel
theorem d_W_law_445 : decode c_W_law 445 = .ok (.iconst 3, 1) := by decide +kernel
theorem d_W_law_446 : decode c_W_law 446 = .ok (.iadd, 1) := by decide +kernel
theorem d_W_law_447 : decode c_W_law 447 = .ok (.iaload, 1) := by decide +kernel
theorem d_W_law_448 : decode c_W_law 448 = .ok (.aload_n 0, 1) := by decide +kernel
theorem d_W_law_449 : decode c_W_law 449 = .ok (.iload 4, 2) := by decide +kernel
theorem d_W_law_451 : decode c_W_law 451 = .ok (.iconst 4, 1) := by decide +kernel
theorem d_W_law_452 : decode c_W_law 452 = .ok (.iadd, 1) := by decide +kernel
theorem d_W_law_453 : decode c_W_law 453 = .ok (.iaload, 1) := by decide +kernel
theorem d_W_law_454 : decode c_W_law 454 = .ok (.aload_n 0, 1) := by decide +kernel
theorem d_W_law_455 : decode c_W_law 455 = .ok (.iload 4, 2) := by decide +kernel
theorem d_W_law_457 : decode c_W_law 457 = .ok (.iconst 5, 1) := by decide +kernel
theorem d_W_law_458 : decode c_W_law 458 = .ok (.iadd, 1) := by decide +kernel
theorem d_W_law_459 : decode c_W_law 459 = .ok (.iaload, 1) := by decide +kernel
theorem d_W_law_460 : decode c_W_law 460 = .ok (.invokevirtual 91, 3) := by decide +kernel
theorem d_W_law_463 : decode c_W_law 463 = .ok (.istore 6, 2) := by decide +kernel
theorem d_W_law_465 : decode c_W_law 465 = .ok (.aload_n 2, 1) := by decide +kernel
theorem d_W_law_466 : decode c_W_law 466 = .ok (.invokevirtual 74, 3) := by decide +kernel
theorem d_W_law_469 : decode c_W_law 469 = .ok (.iload 5, 2) := by decide +kernel
theorem d_W_law_471 : decode c_W_law 471 = .ok (.if_icmp .eq 5, 3) := by decide +kernel
theorem d_W_law_474 : decode c_W_law 474 = .ok (.iconst 0, 1) := by decide +kernel
theorem d_W_law_475 : decode c_W_law 475 = .ok (.ireturn, 1) := by decide +kernel
theorem d_W_law_476 : decode c_W_law 476 = .ok (.iload 5, 2) := by decide +kernel
theorem d_W_law_478 : decode c_W_law 478 = .ok (.ifCond .ne 15, 3) := by decide +kernel
theorem d_W_law_481 : decode c_W_law 481 = .ok (.aload_n 3, 1) := by decide +kernel
theorem d_W_law_482 : decode c_W_law 482 = .ok (.iconst 0, 1) := by decide +kernel
theorem d_W_law_483 : decode c_W_law 483 = .ok (.laload, 1) := by decide +kernel
theorem d_W_law_484 : decode c_W_law 484 = .ok (.iload 6, 2) := by decide +kernel
theorem d_W_law_486 : decode c_W_law 486 = .ok (.i2l, 1) := by decide +kernel
theorem d_W_law_487 : decode c_W_law 487 = .ok (.lcmp, 1) := by decide +kernel
theorem d_W_law_488 : decode c_W_law 488 = .ok (.ifCond .eq 5, 3) := by decide +kernel
theorem d_W_law_491 : decode c_W_law 491 = .ok (.iconst 0, 1) := by decide +kernel
theorem d_W_law_492 : decode c_W_law 492 = .ok (.ireturn, 1) := by decide +kernel
theorem d_W_law_493 : decode c_W_law 493 = .ok (.goto 543, 3) := by decide +kernel
theorem d_W_law_496 : decode c_W_law 496 = .ok (.aload_n 1, 1) := by decide +kernel
theorem d_W_law_497 : decode c_W_law 497 = .ok (.aload_n 0, 1) := by decide +kernel
theorem d_W_law_498 : decode c_W_law 498 = .ok (.iload 4, 2) := by decide +kernel
theorem d_W_law_500 : decode c_W_law 500 = .ok (.iconst 1, 1) := by decide +kernel
theorem d_W_law_501 : decode c_W_law 501 = .ok (.iadd, 1) := by decide +kernel
theorem d_W_law_502 : decode c_W_law 502 = .ok (.iaload, 1) := by decide +kernel
theorem d_W_law_503 : decode c_W_law 503 = .ok (.aload_n 0, 1) := by decide +kernel
theorem d_W_law_504 : decode c_W_law 504 = .ok (.iload 4, 2) := by decide +kernel
theorem d_W_law_506 : decode c_W_law 506 = .ok (.iconst 2, 1) := by decide +kernel
theorem d_W_law_507 : decode c_W_law 507 = .ok (.iadd, 1) := by decide +kernel
theorem d_W_law_508 : decode c_W_law 508 = .ok (.iaload, 1) := by decide +kernel
theorem d_W_law_509 : decode c_W_law 509 = .ok (.aload_n 3, 1) := by decide +kernel
theorem d_W_law_510 : decode c_W_law 510 = .ok (.invokestatic 92, 3) := by decide +kernel
theorem d_W_law_513 : decode c_W_law 513 = .ok (.istore 5, 2) := by decide +kernel
theorem d_W_law_515 : decode c_W_law 515 = .ok (.aload_n 2, 1) := by decide +kernel
theorem d_W_law_516 : decode c_W_law 516 = .ok (.aload_n 0, 1) := by decide +kernel
theorem d_W_law_517 : decode c_W_law 517 = .ok (.iload 4, 2) := by decide +kernel
theorem d_W_law_519 : decode c_W_law 519 = .ok (.iconst 1, 1) := by decide +kernel
theorem d_W_law_520 : decode c_W_law 520 = .ok (.iadd, 1) := by decide +kernel
theorem d_W_law_521 : decode c_W_law 521 = .ok (.iaload, 1) := by decide +kernel
theorem d_W_law_522 : decode c_W_law 522 = .ok (.aload_n 0, 1) := by decide +kernel
theorem d_W_law_523 : decode c_W_law 523 = .ok (.iload 4, 2) := by decide +kernel
theorem d_W_law_525 : decode c_W_law 525 = .ok (.iconst 2, 1) := by decide +kernel
theorem d_W_law_526 : decode c_W_law 526 = .ok (.iadd, 1) := by decide +kernel
theorem d_W_law_527 : decode c_W_law 527 = .ok (.iaload, 1) := by decide +kernel
theorem d_W_law_528 : decode c_W_law 528 = .ok (.invokevirtual 94, 3) := by decide +kernel
theorem d_W_law_531 : decode c_W_law 531 = .ok (.istore 6, 2) := by decide +kernel
theorem d_W_law_533 : decode c_W_law 533 = .ok (.aload_n 2, 1) := by decide +kernel
theorem d_W_law_534 : decode c_W_law 534 = .ok (.invokevirtual 74, 3) := by decide +kernel
theorem d_W_law_537 : decode c_W_law 537 = .ok (.iload 5, 2) := by decide +kernel
theorem d_W_law_539 : decode c_W_law 539 = .ok (.if_icmp .eq 5, 3) := by decide +kernel
theorem d_W_law_542 : decode c_W_law 542 = .ok (.iconst 0, 1) := by decide +kernel
theorem d_W_law_543 : decode c_W_law 543 = .ok (.ireturn, 1) := by decide +kernel
theorem d_W_law_544 : decode c_W_law 544 = .ok (.iload 5, 2) := by decide +kernel
theorem d_W_law_546 : decode c_W_law 546 = .ok (.ifCond .ne 15, 3) := by decide +kernel
theorem d_W_law_549 : decode c_W_law 549 = .ok (.aload_n 3, 1) := by decide +kernel
theorem d_W_law_550 : decode c_W_law 550 = .ok (.iconst 0, 1) := by decide +kernel
theorem d_W_law_551 : decode c_W_law 551 = .ok (.laload, 1) := by decide +kernel
theorem d_W_law_552 : decode c_W_law 552 = .ok (.iload 6, 2) := by decide +kernel
theorem d_W_law_554 : decode c_W_law 554 = .ok (.i2l, 1) := by decide +kernel
theorem d_W_law_555 : decode c_W_law 555 = .ok (.lcmp, 1) := by decide +kernel
theorem d_W_law_556 : decode c_W_law 556 = .ok (.ifCond .eq 5, 3) := by decide +kernel
theorem d_W_law_559 : decode c_W_law 559 = .ok (.iconst 0, 1) := by decide +kernel
theorem d_W_law_560 : decode c_W_law 560 = .ok (.ireturn, 1) := by decide +kernel
theorem d_W_law_561 : decode c_W_law 561 = .ok (.goto 475, 3) := by decide +kernel
theorem d_W_law_564 : decode c_W_law 564 = .ok (.aload_n 1, 1) := by decide +kernel
theorem d_W_law_565 : decode c_W_law 565 = .ok (.aload_n 0, 1) := by decide +kernel
theorem d_W_law_566 : decode c_W_law 566 = .ok (.iload 4, 2) := by decide +kernel
theorem d_W_law_568 : decode c_W_law 568 = .ok (.iconst 1, 1) := by decide +kernel
theorem d_W_law_569 : decode c_W_law 569 = .ok (.iadd, 1) := by decide +kernel
theorem d_W_law_570 : decode c_W_law 570 = .ok (.iaload, 1) := by decide +kernel
theorem d_W_law_571 : decode c_W_law 571 = .ok (.aload_n 0, 1) := by decide +kernel
theorem d_W_law_572 : decode c_W_law 572 = .ok (.iload 4, 2) := by decide +kernel
theorem d_W_law_574 : decode c_W_law 574 = .ok (.iconst 2, 1) := by decide +kernel
theorem d_W_law_575 : decode c_W_law 575 = .ok (.iadd, 1) := by decide +kernel
theorem d_W_law_576 : decode c_W_law 576 = .ok (.iaload, 1) := by decide +kernel
theorem d_W_law_577 : decode c_W_law 577 = .ok (.aload_n 3, 1) := by decide +kernel
theorem d_W_law_578 : decode c_W_law 578 = .ok (.invokestatic 95, 3) := by decide +kernel
theorem d_W_law_581 : decode c_W_law 581 = .ok (.istore 5, 2) := by decide +kernel
theorem d_W_law_583 : decode c_W_law 583 = .ok (.aload_n 2, 1) := by decide +kernel
theorem d_W_law_584 : decode c_W_law 584 = .ok (.aload_n 0, 1) := by decide +kernel
theorem d_W_law_585 : decode c_W_law 585 = .ok (.iload 4, 2) := by decide +kernel
theorem d_W_law_587 : decode c_W_law 587 = .ok (.iconst 1, 1) := by decide +kernel
theorem d_W_law_588 : decode c_W_law 588 = .ok (.iadd, 1) := by decide +kernel
theorem d_W_law_589 : decode c_W_law 589 = .ok (.iaload, 1) := by decide +kernel
theorem d_W_law_590 : decode c_W_law 590 = .ok (.aload_n 0, 1) := by decide +kernel
theorem d_W_law_591 : decode c_W_law 591 = .ok (.iload 4, 2) := by decide +kernel
theorem d_W_law_593 : decode c_W_law 593 = .ok (.iconst 2, 1) := by decide +kernel
theorem d_W_law_594 : decode c_W_law 594 = .ok (.iadd, 1) := by decide +kernel
theorem d_W_law_595 : decode c_W_law 595 = .ok (.iaload, 1) := by decide +kernel
theorem d_W_law_596 : decode c_W_law 596 = .ok (.invokevirtual 97, 3) := by decide +kernel
theorem d_W_law_599 : decode c_W_law 599 = .ok (.istore 6, 2) := by decide +kernel
theorem d_W_law_601 : decode c_W_law 601 = .ok (.aload_n 2, 1) := by decide +kernel
theorem d_W_law_602 : decode c_W_law 602 = .ok (.invokevirtual 74, 3) := by decide +kernel
theorem d_W_law_605 : decode c_W_law 605 = .ok (.iload 5, 2) := by decide +kernel
theorem d_W_law_607 : decode c_W_law 607 = .ok (.if_icmp .eq 5, 3) := by decide +kernel
theorem d_W_law_610 : decode c_W_law 610 = .ok (.iconst 0, 1) := by decide +kernel
theorem d_W_law_611 : decode c_W_law 611 = .ok (.ireturn, 1) := by decide +kernel
theorem d_W_law_612 : decode c_W_law 612 = .ok (.iload 5, 2) := by decide +kernel
theorem d_W_law_614 : decode c_W_law 614 = .ok (.ifCond .ne 15, 3) := by decide +kernel
theorem d_W_law_617 : decode c_W_law 617 = .ok (.aload_n 3, 1) := by decide +kernel
theorem d_W_law_618 : decode c_W_law 618 = .ok (.iconst 0, 1) := by decide +kernel
theorem d_W_law_619 : decode c_W_law 619 = .ok (.laload, 1) := by decide +kernel
theorem d_W_law_620 : decode c_W_law 620 = .ok (.iload 6, 2) := by decide +kernel
theorem d_W_law_622 : decode c_W_law 622 = .ok (.i2l, 1) := by decide +kernel
theorem d_W_law_623 : decode c_W_law 623 = .ok (.lcmp, 1) := by decide +kernel
theorem d_W_law_624 : decode c_W_law 624 = .ok (.ifCond .eq 5, 3) := by decide +kernel
theorem d_W_law_627 : decode c_W_law 627 = .ok (.iconst 0, 1) := by decide +kernel
theorem d_W_law_628 : decode c_W_law 628 = .ok (.ireturn, 1) := by decide +kernel
theorem d_W_law_629 : decode c_W_law 629 = .ok (.goto 407, 3) := by decide +kernel
theorem d_W_law_632 : decode c_W_law 632 = .ok (.aload_n 1, 1) := by decide +kernel
theorem d_W_law_633 : decode c_W_law 633 = .ok (.aload_n 0, 1) := by decide +kernel
theorem d_W_law_634 : decode c_W_law 634 = .ok (.iload 4, 2) := by decide +kernel
theorem d_W_law_636 : decode c_W_law 636 = .ok (.iconst 1, 1) := by decide +kernel
theorem d_W_law_637 : decode c_W_law 637 = .ok (.iadd, 1) := by decide +kernel
theorem d_W_law_638 : decode c_W_law 638 = .ok (.iaload, 1) := by decide +kernel
theorem d_W_law_639 : decode c_W_law 639 = .ok (.aload_n 0, 1) := by decide +kernel
theorem d_W_law_640 : decode c_W_law 640 = .ok (.iload 4, 2) := by decide +kernel
theorem d_W_law_642 : decode c_W_law 642 = .ok (.iconst 2, 1) := by decide +kernel
theorem d_W_law_643 : decode c_W_law 643 = .ok (.iadd, 1) := by decide +kernel
theorem d_W_law_644 : decode c_W_law 644 = .ok (.iaload, 1) := by decide +kernel
theorem d_W_law_645 : decode c_W_law 645 = .ok (.aload_n 3, 1) := by decide +kernel
theorem d_W_law_646 : decode c_W_law 646 = .ok (.invokestatic 98, 3) := by decide +kernel
theorem d_W_law_649 : decode c_W_law 649 = .ok (.istore 5, 2) := by decide +kernel
theorem d_W_law_651 : decode c_W_law 651 = .ok (.aload_n 2, 1) := by decide +kernel
theorem d_W_law_652 : decode c_W_law 652 = .ok (.aload_n 0, 1) := by decide +kernel
theorem d_W_law_653 : decode c_W_law 653 = .ok (.iload 4, 2) := by decide +kernel
theorem d_W_law_655 : decode c_W_law 655 = .ok (.iconst 1, 1) := by decide +kernel
theorem d_W_law_656 : decode c_W_law 656 = .ok (.iadd, 1) := by decide +kernel
theorem d_W_law_657 : decode c_W_law 657 = .ok (.iaload, 1) := by decide +kernel
theorem d_W_law_658 : decode c_W_law 658 = .ok (.aload_n 0, 1) := by decide +kernel
theorem d_W_law_659 : decode c_W_law 659 = .ok (.iload 4, 2) := by decide +kernel
theorem d_W_law_661 : decode c_W_law 661 = .ok (.iconst 2, 1) := by decide +kernel
theorem d_W_law_662 : decode c_W_law 662 = .ok (.iadd, 1) := by decide +kernel
theorem d_W_law_663 : decode c_W_law 663 = .ok (.iaload, 1) := by decide +kernel
theorem d_W_law_664 : decode c_W_law 664 = .ok (.invokevirtual 100, 3) := by decide +kernel
theorem d_W_law_667 : decode c_W_law 667 = .ok (.istore 6, 2) := by decide +kernel
theorem d_W_law_669 : decode c_W_law 669 = .ok (.aload_n 2, 1) := by decide +kernel
theorem d_W_law_670 : decode c_W_law 670 = .ok (.invokevirtual 74, 3) := by decide +kernel
theorem d_W_law_673 : decode c_W_law 673 = .ok (.iload 5, 2) := by decide +kernel
theorem d_W_law_675 : decode c_W_law 675 = .ok (.if_icmp .eq 5, 3) := by decide +kernel
theorem d_W_law_678 : decode c_W_law 678 = .ok (.iconst 0, 1) := by decide +kernel
theorem d_W_law_679 : decode c_W_law 679 = .ok (.ireturn, 1) := by decide +kernel
theorem d_W_law_680 : decode c_W_law 680 = .ok (.iload 5, 2) := by decide +kernel
theorem d_W_law_682 : decode c_W_law 682 = .ok (.ifCond .ne 15, 3) := by decide +kernel
theorem d_W_law_685 : decode c_W_law 685 = .ok (.aload_n 3, 1) := by decide +kernel
theorem d_W_law_686 : decode c_W_law 686 = .ok (.iconst 0, 1) := by decide +kernel
theorem d_W_law_687 : decode c_W_law 687 = .ok (.laload, 1) := by decide +kernel
theorem d_W_law_688 : decode c_W_law 688 = .ok (.iload 6, 2) := by decide +kernel
theorem d_W_law_690 : decode c_W_law 690 = .ok (.i2l, 1) := by decide +kernel
theorem d_W_law_691 : decode c_W_law 691 = .ok (.lcmp, 1) := by decide +kernel
theorem d_W_law_692 : decode c_W_law 692 = .ok (.ifCond .eq 5, 3) := by decide +kernel
theorem d_W_law_695 : decode c_W_law 695 = .ok (.iconst 0, 1) := by decide +kernel
theorem d_W_law_696 : decode c_W_law 696 = .ok (.ireturn, 1) := by decide +kernel
theorem d_W_law_697 : decode c_W_law 697 = .ok (.goto 339, 3) := by decide +kernel
theorem d_W_law_700 : decode c_W_law 700 = .ok (.aload_n 1, 1) := by decide +kernel
theorem d_W_law_701 : decode c_W_law 701 = .ok (.aload_n 0, 1) := by decide +kernel
theorem d_W_law_702 : decode c_W_law 702 = .ok (.iload 4, 2) := by decide +kernel
theorem d_W_law_704 : decode c_W_law 704 = .ok (.iconst 1, 1) := by decide +kernel
theorem d_W_law_705 : decode c_W_law 705 = .ok (.iadd, 1) := by decide +kernel
theorem d_W_law_706 : decode c_W_law 706 = .ok (.iaload, 1) := by decide +kernel
theorem d_W_law_707 : decode c_W_law 707 = .ok (.aload_n 3, 1) := by decide +kernel
theorem d_W_law_708 : decode c_W_law 708 = .ok (.invokestatic 101, 3) := by decide +kernel
theorem d_W_law_711 : decode c_W_law 711 = .ok (.istore 5, 2) := by decide +kernel
theorem d_W_law_713 : decode c_W_law 713 = .ok (.aload_n 2, 1) := by decide +kernel
theorem d_W_law_714 : decode c_W_law 714 = .ok (.aload_n 0, 1) := by decide +kernel
theorem d_W_law_715 : decode c_W_law 715 = .ok (.iload 4, 2) := by decide +kernel
theorem d_W_law_717 : decode c_W_law 717 = .ok (.iconst 1, 1) := by decide +kernel
theorem d_W_law_718 : decode c_W_law 718 = .ok (.iadd, 1) := by decide +kernel
theorem d_W_law_719 : decode c_W_law 719 = .ok (.iaload, 1) := by decide +kernel
theorem d_W_law_720 : decode c_W_law 720 = .ok (.invokevirtual 104, 3) := by decide +kernel
theorem d_W_law_723 : decode c_W_law 723 = .ok (.istore 6, 2) := by decide +kernel
theorem d_W_law_725 : decode c_W_law 725 = .ok (.aload_n 2, 1) := by decide +kernel
theorem d_W_law_726 : decode c_W_law 726 = .ok (.invokevirtual 74, 3) := by decide +kernel
theorem d_W_law_729 : decode c_W_law 729 = .ok (.iload 5, 2) := by decide +kernel
theorem d_W_law_731 : decode c_W_law 731 = .ok (.if_icmp .eq 5, 3) := by decide +kernel
theorem d_W_law_734 : decode c_W_law 734 = .ok (.iconst 0, 1) := by decide +kernel
theorem d_W_law_735 : decode c_W_law 735 = .ok (.ireturn, 1) := by decide +kernel
theorem d_W_law_736 : decode c_W_law 736 = .ok (.iload 5, 2) := by decide +kernel
theorem d_W_law_738 : decode c_W_law 738 = .ok (.ifCond .ne 15, 3) := by decide +kernel
theorem d_W_law_741 : decode c_W_law 741 = .ok (.aload_n 3, 1) := by decide +kernel
theorem d_W_law_742 : decode c_W_law 742 = .ok (.iconst 0, 1) := by decide +kernel
theorem d_W_law_743 : decode c_W_law 743 = .ok (.laload, 1) := by decide +kernel
theorem d_W_law_744 : decode c_W_law 744 = .ok (.iload 6, 2) := by decide +kernel
theorem d_W_law_746 : decode c_W_law 746 = .ok (.i2l, 1) := by decide +kernel
theorem d_W_law_747 : decode c_W_law 747 = .ok (.lcmp, 1) := by decide +kernel
theorem d_W_law_748 : decode c_W_law 748 = .ok (.ifCond .eq 5, 3) := by decide +kernel
theorem d_W_law_751 : decode c_W_law 751 = .ok (.iconst 0, 1) := by decide +kernel
theorem d_W_law_752 : decode c_W_law 752 = .ok (.ireturn, 1) := by decide +kernel
theorem d_W_law_753 : decode c_W_law 753 = .ok (.goto 283, 3) := by decide +kernel
theorem d_W_law_756 : decode c_W_law 756 = .ok (.aload_n 1, 1) := by decide +kernel
theorem d_W_law_757 : decode c_W_law 757 = .ok (.aload_n 0, 1) := by decide +kernel
theorem d_W_law_758 : decode c_W_law 758 = .ok (.iload 4, 2) := by decide +kernel
theorem d_W_law_760 : decode c_W_law 760 = .ok (.iconst 1, 1) := by decide +kernel
theorem d_W_law_761 : decode c_W_law 761 = .ok (.iadd, 1) := by decide +kernel
theorem d_W_law_762 : decode c_W_law 762 = .ok (.iaload, 1) := by decide +kernel
theorem d_W_law_763 : decode c_W_law 763 = .ok (.aload_n 0, 1) := by decide +kernel
theorem d_W_law_764 : decode c_W_law 764 = .ok (.iload 4, 2) := by decide +kernel
theorem d_W_law_766 : decode c_W_law 766 = .ok (.iconst 2, 1) := by decide +kernel
theorem d_W_law_767 : decode c_W_law 767 = .ok (.iadd, 1) := by decide +kernel
theorem d_W_law_768 : decode c_W_law 768 = .ok (.iaload, 1) := by decide +kernel
theorem d_W_law_769 : decode c_W_law 769 = .ok (.aload_n 3, 1) := by decide +kernel
theorem d_W_law_770 : decode c_W_law 770 = .ok (.invokestatic 105, 3) := by decide +kernel
theorem d_W_law_773 : decode c_W_law 773 = .ok (.istore 5, 2) := by decide +kernel
theorem d_W_law_775 : decode c_W_law 775 = .ok (.aload_n 2, 1) := by decide +kernel
theorem d_W_law_776 : decode c_W_law 776 = .ok (.aload_n 0, 1) := by decide +kernel
theorem d_W_law_777 : decode c_W_law 777 = .ok (.iload 4, 2) := by decide +kernel
theorem d_W_law_779 : decode c_W_law 779 = .ok (.iconst 1, 1) := by decide +kernel
theorem d_W_law_780 : decode c_W_law 780 = .ok (.iadd, 1) := by decide +kernel
theorem d_W_law_781 : decode c_W_law 781 = .ok (.iaload, 1) := by decide +kernel
theorem d_W_law_782 : decode c_W_law 782 = .ok (.aload_n 0, 1) := by decide +kernel
theorem d_W_law_783 : decode c_W_law 783 = .ok (.iload 4, 2) := by decide +kernel
theorem d_W_law_785 : decode c_W_law 785 = .ok (.iconst 2, 1) := by decide +kernel
theorem d_W_law_786 : decode c_W_law 786 = .ok (.iadd, 1) := by decide +kernel
theorem d_W_law_787 : decode c_W_law 787 = .ok (.iaload, 1) := by decide +kernel
theorem d_W_law_788 : decode c_W_law 788 = .ok (.invokevirtual 107, 3) := by decide +kernel
theorem d_W_law_791 : decode c_W_law 791 = .ok (.istore 6, 2) := by decide +kernel
theorem d_W_law_793 : decode c_W_law 793 = .ok (.aload_n 2, 1) := by decide +kernel
theorem d_W_law_794 : decode c_W_law 794 = .ok (.invokevirtual 74, 3) := by decide +kernel
theorem d_W_law_797 : decode c_W_law 797 = .ok (.iload 5, 2) := by decide +kernel
theorem d_W_law_799 : decode c_W_law 799 = .ok (.if_icmp .eq 5, 3) := by decide +kernel
theorem d_W_law_802 : decode c_W_law 802 = .ok (.iconst 0, 1) := by decide +kernel
theorem d_W_law_803 : decode c_W_law 803 = .ok (.ireturn, 1) := by decide +kernel
theorem d_W_law_804 : decode c_W_law 804 = .ok (.iload 5, 2) := by decide +kernel
theorem d_W_law_806 : decode c_W_law 806 = .ok (.ifCond .ne 15, 3) := by decide +kernel
theorem d_W_law_809 : decode c_W_law 809 = .ok (.aload_n 3, 1) := by decide +kernel
theorem d_W_law_810 : decode c_W_law 810 = .ok (.iconst 0, 1) := by decide +kernel
theorem d_W_law_811 : decode c_W_law 811 = .ok (.laload, 1) := by decide +kernel
theorem d_W_law_812 : decode c_W_law 812 = .ok (.iload 6, 2) := by decide +kernel
theorem d_W_law_814 : decode c_W_law 814 = .ok (.i2l, 1) := by decide +kernel
theorem d_W_law_815 : decode c_W_law 815 = .ok (.lcmp, 1) := by decide +kernel
theorem d_W_law_816 : decode c_W_law 816 = .ok (.ifCond .eq 5, 3) := by decide +kernel
theorem d_W_law_819 : decode c_W_law 819 = .ok (.iconst 0, 1) := by decide +kernel
theorem d_W_law_820 : decode c_W_law 820 = .ok (.ireturn, 1) := by decide +kernel
theorem d_W_law_821 : decode c_W_law 821 = .ok (.goto 215, 3) := by decide +kernel
theorem d_W_law_824 : decode c_W_law 824 = .ok (.aload_n 1, 1) := by decide +kernel
theorem d_W_law_825 : decode c_W_law 825 = .ok (.aload_n 3, 1) := by decide +kernel
theorem d_W_law_826 : decode c_W_law 826 = .ok (.invokestatic 108, 3) := by decide +kernel
theorem d_W_law_829 : decode c_W_law 829 = .ok (.istore 5, 2) := by decide +kernel
theorem d_W_law_831 : decode c_W_law 831 = .ok (.aload_n 2, 1) := by decide +kernel
theorem d_W_law_832 : decode c_W_law 832 = .ok (.invokevirtual 110, 3) := by decide +kernel
theorem d_W_law_835 : decode c_W_law 835 = .ok (.istore 6, 2) := by decide +kernel
theorem d_W_law_837 : decode c_W_law 837 = .ok (.aload_n 2, 1) := by decide +kernel
theorem d_W_law_838 : decode c_W_law 838 = .ok (.invokevirtual 74, 3) := by decide +kernel
theorem d_W_law_841 : decode c_W_law 841 = .ok (.iload 5, 2) := by decide +kernel
theorem d_W_law_843 : decode c_W_law 843 = .ok (.if_icmp .eq 5, 3) := by decide +kernel
theorem d_W_law_846 : decode c_W_law 846 = .ok (.iconst 0, 1) := by decide +kernel
theorem d_W_law_847 : decode c_W_law 847 = .ok (.ireturn, 1) := by decide +kernel
theorem d_W_law_848 : decode c_W_law 848 = .ok (.iload 5, 2) := by decide +kernel
theorem d_W_law_850 : decode c_W_law 850 = .ok (.ifCond .ne 15, 3) := by decide +kernel
theorem d_W_law_853 : decode c_W_law 853 = .ok (.aload_n 3, 1) := by decide +kernel
theorem d_W_law_854 : decode c_W_law 854 = .ok (.iconst 0, 1) := by decide +kernel
theorem d_W_law_855 : decode c_W_law 855 = .ok (.laload, 1) := by decide +kernel
theorem d_W_law_856 : decode c_W_law 856 = .ok (.iload 6, 2) := by decide +kernel
theorem d_W_law_858 : decode c_W_law 858 = .ok (.i2l, 1) := by decide +kernel
theorem d_W_law_859 : decode c_W_law 859 = .ok (.lcmp, 1) := by decide +kernel
theorem d_W_law_860 : decode c_W_law 860 = .ok (.ifCond .eq 5, 3) := by decide +kernel
theorem d_W_law_863 : decode c_W_law 863 = .ok (.iconst 0, 1) := by decide +kernel
theorem d_W_law_864 : decode c_W_law 864 = .ok (.ireturn, 1) := by decide +kernel
theorem d_W_law_865 : decode c_W_law 865 = .ok (.goto 171, 3) := by decide +kernel
theorem d_W_law_868 : decode c_W_law 868 = .ok (.aload_n 1, 1) := by decide +kernel
theorem d_W_law_869 : decode c_W_law 869 = .ok (.aload_n 0, 1) := by decide +kernel
theorem d_W_law_870 : decode c_W_law 870 = .ok (.iload 4, 2) := by decide +kernel
theorem d_W_law_872 : decode c_W_law 872 = .ok (.iconst 1, 1) := by decide +kernel
theorem d_W_law_873 : decode c_W_law 873 = .ok (.iadd, 1) := by decide +kernel
theorem d_W_law_874 : decode c_W_law 874 = .ok (.iaload, 1) := by decide +kernel
theorem d_W_law_875 : decode c_W_law 875 = .ok (.aload_n 3, 1) := by decide +kernel
theorem d_W_law_876 : decode c_W_law 876 = .ok (.invokestatic 111, 3) := by decide +kernel
theorem d_W_law_879 : decode c_W_law 879 = .ok (.istore 5, 2) := by decide +kernel
theorem d_W_law_881 : decode c_W_law 881 = .ok (.aload_n 2, 1) := by decide +kernel
theorem d_W_law_882 : decode c_W_law 882 = .ok (.aload_n 0, 1) := by decide +kernel
theorem d_W_law_883 : decode c_W_law 883 = .ok (.iload 4, 2) := by decide +kernel
theorem d_W_law_885 : decode c_W_law 885 = .ok (.iconst 1, 1) := by decide +kernel
theorem d_W_law_886 : decode c_W_law 886 = .ok (.iadd, 1) := by decide +kernel
theorem d_W_law_887 : decode c_W_law 887 = .ok (.iaload, 1) := by decide +kernel
theorem d_W_law_888 : decode c_W_law 888 = .ok (.invokevirtual 113, 3) := by decide +kernel
theorem d_W_law_891 : decode c_W_law 891 = .ok (.istore 6, 2) := by decide +kernel
theorem d_W_law_893 : decode c_W_law 893 = .ok (.aload_n 2, 1) := by decide +kernel
theorem d_W_law_894 : decode c_W_law 894 = .ok (.invokevirtual 74, 3) := by decide +kernel
theorem d_W_law_897 : decode c_W_law 897 = .ok (.iload 5, 2) := by decide +kernel
theorem d_W_law_899 : decode c_W_law 899 = .ok (.if_icmp .eq 5, 3) := by decide +kernel
theorem d_W_law_902 : decode c_W_law 902 = .ok (.iconst 0, 1) := by decide +kernel
theorem d_W_law_903 : decode c_W_law 903 = .ok (.ireturn, 1) := by decide +kernel
theorem d_W_law_904 : decode c_W_law 904 = .ok (.iload 5, 2) := by decide +kernel
theorem d_W_law_906 : decode c_W_law 906 = .ok (.ifCond .ne 15, 3) := by decide +kernel
theorem d_W_law_909 : decode c_W_law 909 = .ok (.aload_n 3, 1) := by decide +kernel
theorem d_W_law_910 : decode c_W_law 910 = .ok (.iconst 0, 1) := by decide +kernel
theorem d_W_law_911 : decode c_W_law 911 = .ok (.laload, 1) := by decide +kernel
theorem d_W_law_912 : decode c_W_law 912 = .ok (.iload 6, 2) := by decide +kernel
theorem d_W_law_914 : decode c_W_law 914 = .ok (.i2l, 1) := by decide +kernel
theorem d_W_law_915 : decode c_W_law 915 = .ok (.lcmp, 1) := by decide +kernel
theorem d_W_law_916 : decode c_W_law 916 = .ok (.ifCond .eq 5, 3) := by decide +kernel
theorem d_W_law_919 : decode c_W_law 919 = .ok (.iconst 0, 1) := by decide +kernel
theorem d_W_law_920 : decode c_W_law 920 = .ok (.ireturn, 1) := by decide +kernel
theorem d_W_law_921 : decode c_W_law 921 = .ok (.goto 115, 3) := by decide +kernel
theorem d_W_law_924 : decode c_W_law 924 = .ok (.aload_n 1, 1) := by decide +kernel
theorem d_W_law_925 : decode c_W_law 925 = .ok (.aload_n 0, 1) := by decide +kernel
theorem d_W_law_926 : decode c_W_law 926 = .ok (.iload 4, 2) := by decide +kernel
theorem d_W_law_928 : decode c_W_law 928 = .ok (.iconst 1, 1) := by decide +kernel
theorem d_W_law_929 : decode c_W_law 929 = .ok (.iadd, 1) := by decide +kernel
theorem d_W_law_930 : decode c_W_law 930 = .ok (.iaload, 1) := by decide +kernel
theorem d_W_law_931 : decode c_W_law 931 = .ok (.aload_n 3, 1) := by decide +kernel
theorem d_W_law_932 : decode c_W_law 932 = .ok (.invokestatic 114, 3) := by decide +kernel
theorem d_W_law_935 : decode c_W_law 935 = .ok (.istore 5, 2) := by decide +kernel
theorem d_W_law_937 : decode c_W_law 937 = .ok (.aload_n 2, 1) := by decide +kernel
theorem d_W_law_938 : decode c_W_law 938 = .ok (.aload_n 0, 1) := by decide +kernel
theorem d_W_law_939 : decode c_W_law 939 = .ok (.iload 4, 2) := by decide +kernel
theorem d_W_law_941 : decode c_W_law 941 = .ok (.iconst 1, 1) := by decide +kernel
theorem d_W_law_942 : decode c_W_law 942 = .ok (.iadd, 1) := by decide +kernel
theorem d_W_law_943 : decode c_W_law 943 = .ok (.iaload, 1) := by decide +kernel
theorem d_W_law_944 : decode c_W_law 944 = .ok (.invokevirtual 116, 3) := by decide +kernel
theorem d_W_law_947 : decode c_W_law 947 = .ok (.istore 6, 2) := by decide +kernel
theorem d_W_law_949 : decode c_W_law 949 = .ok (.aload_n 2, 1) := by decide +kernel
theorem d_W_law_950 : decode c_W_law 950 = .ok (.invokevirtual 74, 3) := by decide +kernel
theorem d_W_law_953 : decode c_W_law 953 = .ok (.iload 5, 2) := by decide +kernel
theorem d_W_law_955 : decode c_W_law 955 = .ok (.if_icmp .eq 5, 3) := by decide +kernel
theorem d_W_law_958 : decode c_W_law 958 = .ok (.iconst 0, 1) := by decide +kernel
theorem d_W_law_959 : decode c_W_law 959 = .ok (.ireturn, 1) := by decide +kernel
theorem d_W_law_960 : decode c_W_law 960 = .ok (.iload 5, 2) := by decide +kernel
theorem d_W_law_962 : decode c_W_law 962 = .ok (.ifCond .ne 15, 3) := by decide +kernel
theorem d_W_law_965 : decode c_W_law 965 = .ok (.aload_n 3, 1) := by decide +kernel
theorem d_W_law_966 : decode c_W_law 966 = .ok (.iconst 0, 1) := by decide +kernel
theorem d_W_law_967 : decode c_W_law 967 = .ok (.laload, 1) := by decide +kernel
theorem d_W_law_968 : decode c_W_law 968 = .ok (.iload 6, 2) := by decide +kernel
theorem d_W_law_970 : decode c_W_law 970 = .ok (.i2l, 1) := by decide +kernel
theorem d_W_law_971 : decode c_W_law 971 = .ok (.lcmp, 1) := by decide +kernel
theorem d_W_law_972 : decode c_W_law 972 = .ok (.ifCond .eq 5, 3) := by decide +kernel
theorem d_W_law_975 : decode c_W_law 975 = .ok (.iconst 0, 1) := by decide +kernel
theorem d_W_law_976 : decode c_W_law 976 = .ok (.ireturn, 1) := by decide +kernel
theorem d_W_law_977 : decode c_W_law 977 = .ok (.goto 59, 3) := by decide +kernel
theorem d_W_law_980 : decode c_W_law 980 = .ok (.aload_n 1, 1) := by decide +kernel
theorem d_W_law_981 : decode c_W_law 981 = .ok (.aload_n 0, 1) := by decide +kernel
theorem d_W_law_982 : decode c_W_law 982 = .ok (.iload 4, 2) := by decide +kernel
theorem d_W_law_984 : decode c_W_law 984 = .ok (.iconst 1, 1) := by decide +kernel
theorem d_W_law_985 : decode c_W_law 985 = .ok (.iadd, 1) := by decide +kernel
theorem d_W_law_986 : decode c_W_law 986 = .ok (.iaload, 1) := by decide +kernel
theorem d_W_law_987 : decode c_W_law 987 = .ok (.aload_n 3, 1) := by decide +kernel
theorem d_W_law_988 : decode c_W_law 988 = .ok (.invokestatic 117, 3) := by decide +kernel
theorem d_W_law_991 : decode c_W_law 991 = .ok (.istore 5, 2) := by decide +kernel
theorem d_W_law_993 : decode c_W_law 993 = .ok (.aload_n 2, 1) := by decide +kernel
theorem d_W_law_994 : decode c_W_law 994 = .ok (.aload_n 0, 1) := by decide +kernel
theorem d_W_law_995 : decode c_W_law 995 = .ok (.iload 4, 2) := by decide +kernel
theorem d_W_law_997 : decode c_W_law 997 = .ok (.iconst 1, 1) := by decide +kernel
theorem d_W_law_998 : decode c_W_law 998 = .ok (.iadd, 1) := by decide +kernel
theorem d_W_law_999 : decode c_W_law 999 = .ok (.iaload, 1) := by decide +kernel
theorem d_W_law_1000 : decode c_W_law 1000 = .ok (.invokevirtual 119, 3) := by decide +kernel
theorem d_W_law_1003 : decode c_W_law 1003 = .ok (.istore 6, 2) := by decide +kernel
theorem d_W_law_1005 : decode c_W_law 1005 = .ok (.aload_n 2, 1) := by decide +kernel
theorem d_W_law_1006 : decode c_W_law 1006 = .ok (.invokevirtual 74, 3) := by decide +kernel
theorem d_W_law_1009 : decode c_W_law 1009 = .ok (.iload 5, 2) := by decide +kernel
theorem d_W_law_1011 : decode c_W_law 1011 = .ok (.if_icmp .eq 5, 3) := by decide +kernel
theorem d_W_law_1014 : decode c_W_law 1014 = .ok (.iconst 0, 1) := by decide +kernel
theorem d_W_law_1015 : decode c_W_law 1015 = .ok (.ireturn, 1) := by decide +kernel
theorem d_W_law_1016 : decode c_W_law 1016 = .ok (.iload 5, 2) := by decide +kernel
theorem d_W_law_1018 : decode c_W_law 1018 = .ok (.ifCond .ne 15, 3) := by decide +kernel
theorem d_W_law_1021 : decode c_W_law 1021 = .ok (.aload_n 3, 1) := by decide +kernel
theorem d_W_law_1022 : decode c_W_law 1022 = .ok (.iconst 0, 1) := by decide +kernel
theorem d_W_law_1023 : decode c_W_law 1023 = .ok (.laload, 1) := by decide +kernel
theorem d_W_law_1024 : decode c_W_law 1024 = .ok (.iload 6, 2) := by decide +kernel
theorem d_W_law_1026 : decode c_W_law 1026 = .ok (.i2l, 1) := by decide +kernel
theorem d_W_law_1027 : decode c_W_law 1027 = .ok (.lcmp, 1) := by decide +kernel
theorem d_W_law_1028 : decode c_W_law 1028 = .ok (.ifCond .eq 5, 3) := by decide +kernel
theorem d_W_law_1031 : decode c_W_law 1031 = .ok (.iconst 0, 1) := by decide +kernel
theorem d_W_law_1032 : decode c_W_law 1032 = .ok (.ireturn, 1) := by decide +kernel
theorem d_W_law_1033 : decode c_W_law 1033 = .ok (.goto 3, 3) := by decide +kernel
theorem d_W_law_1036 : decode c_W_law 1036 = .ok (.iinc 4 6, 3) := by decide +kernel
theorem d_W_law_1039 : decode c_W_law 1039 = .ok (.goto (-1016), 3) := by decide +kernel
theorem d_W_law_1042 : decode c_W_law 1042 = .ok (.iconst 1, 1) := by decide +kernel
theorem d_W_law_1043 : decode c_W_law 1043 = .ok (.ireturn, 1) := by decide +kernel
