theorem dL_law_466 {nm : String} : pm_dec (mL_law nm) 466 (.aload_n 1, 1) 467 := ⟨(by decide +kernel : decode code 466 = .ok (.aload_n 1, 1)), rfl⟩
theorem dL_law_467 {nm : String} : pm_dec (mL_law nm) 467 (.aload_n 0, 1) 468 := ⟨(by decide +kernel : decode code 467 = .ok (.aload_n 0, 1)), rfl⟩
theorem dL_law_468 {nm : String} : pm_dec (mL_law nm) 468 (.iload_n 3, 1) 469 := ⟨(by decide +kernel : decode code 468 = .ok (.iload_n 3, 1)), rfl⟩
theorem dL_law_469 {nm : String} : pm_dec (mL_law nm) 469 (.iconst 1, 1) 470 := ⟨(by decide +kernel : decode code 469 = .ok (.iconst 1, 1)), rfl⟩
theorem dL_law_470 {nm : String} : pm_dec (mL_law nm) 470 (.iadd, 1) 471 := ⟨(by decide +kernel : decode code 470 = .ok (.iadd, 1)), rfl⟩
theorem dL_law_471 {nm : String} : pm_dec (mL_law nm) 471 (.iaload, 1) 472 := ⟨(by decide +kernel : decode code 471 = .ok (.iaload, 1)), rfl⟩
theorem dL_law_472 {nm : String} : pm_dec (mL_law nm) 472 (.aload_n 0, 1) 473 := ⟨(by decide +kernel : decode code 472 = .ok (.aload_n 0, 1)), rfl⟩
theorem dL_law_473 {nm : String} : pm_dec (mL_law nm) 473 (.iload_n 3, 1) 474 := ⟨(by decide +kernel : decode code 473 = .ok (.iload_n 3, 1)), rfl⟩
theorem dL_law_474 {nm : String} : pm_dec (mL_law nm) 474 (.iconst 2, 1) 475 := ⟨(by decide +kernel : decode code 474 = .ok (.iconst 2, 1)), rfl⟩
theorem dL_law_475 {nm : String} : pm_dec (mL_law nm) 475 (.iadd, 1) 476 := ⟨(by decide +kernel : decode code 475 = .ok (.iadd, 1)), rfl⟩
theorem dL_law_476 {nm : String} : pm_dec (mL_law nm) 476 (.iaload, 1) 477 := ⟨(by decide +kernel : decode code 476 = .ok (.iaload, 1)), rfl⟩
theorem dL_law_477 {nm : String} : pm_dec (mL_law nm) 477 (.invokevirtual 42, 3) 480 := ⟨(by decide +kernel : decode code 477 = .ok (.invokevirtual 42, 3)), rfl⟩
theorem dL_law_480 {nm : String} : pm_dec (mL_law nm) 480 (.aload_n 2, 1) 481 := ⟨(by decide +kernel : decode code 480 = .ok (.aload_n 2, 1)), rfl⟩
theorem dL_law_481 {nm : String} : pm_dec (mL_law nm) 481 (.aload_n 0, 1) 482 := ⟨(by decide +kernel : decode code 481 = .ok (.aload_n 0, 1)), rfl⟩
theorem dL_law_482 {nm : String} : pm_dec (mL_law nm) 482 (.iload_n 3, 1) 483 := ⟨(by decide +kernel : decode code 482 = .ok (.iload_n 3, 1)), rfl⟩
theorem dL_law_483 {nm : String} : pm_dec (mL_law nm) 483 (.iconst 1, 1) 484 := ⟨(by decide +kernel : decode code 483 = .ok (.iconst 1, 1)), rfl⟩
theorem dL_law_484 {nm : String} : pm_dec (mL_law nm) 484 (.iadd, 1) 485 := ⟨(by decide +kernel : decode code 484 = .ok (.iadd, 1)), rfl⟩
theorem dL_law_485 {nm : String} : pm_dec (mL_law nm) 485 (.iaload, 1) 486 := ⟨(by decide +kernel : decode code 485 = .ok (.iaload, 1)), rfl⟩
theorem dL_law_486 {nm : String} : pm_dec (mL_law nm) 486 (.aload_n 0, 1) 487 := ⟨(by decide +kernel : decode code 486 = .ok (.aload_n 0, 1)), rfl⟩
theorem dL_law_487 {nm : String} : pm_dec (mL_law nm) 487 (.iload_n 3, 1) 488 := ⟨(by decide +kernel : decode code 487 = .ok (.iload_n 3, 1)), rfl⟩
theorem dL_law_488 {nm : String} : pm_dec (mL_law nm) 488 (.iconst 2, 1) 489 := ⟨(by decide +kernel : decode code 488 = .ok (.iconst 2, 1)), rfl⟩
theorem dL_law_489 {nm : String} : pm_dec (mL_law nm) 489 (.iadd, 1) 490 := ⟨(by decide +kernel : decode code 489 = .ok (.iadd, 1)), rfl⟩
theorem dL_law_490 {nm : String} : pm_dec (mL_law nm) 490 (.iaload, 1) 491 := ⟨(by decide +kernel : decode code 490 = .ok (.iaload, 1)), rfl⟩
theorem dL_law_491 {nm : String} : pm_dec (mL_law nm) 491 (.invokevirtual 45, 3) 494 := ⟨(by decide +kernel : decode code 491 = .ok (.invokevirtual 45, 3)), rfl⟩
theorem dL_law_494 {nm : String} : pm_dec (mL_law nm) 494 (.if_icmp .eq 1611, 3) 497 := ⟨(by decide +kernel : decode code 494 = .ok (.if_icmp .eq 1611, 3)), rfl⟩
theorem dL_law_499 {nm : String} : pm_dec (mL_law nm) 499 (.aload_n 1, 1) 500 := ⟨(by decide +kernel : decode code 499 = .ok (.aload_n 1, 1)), rfl⟩
theorem dL_law_500 {nm : String} : pm_dec (mL_law nm) 500 (.aload_n 0, 1) 501 := ⟨(by decide +kernel : decode code 500 = .ok (.aload_n 0, 1)), rfl⟩
theorem dL_law_501 {nm : String} : pm_dec (mL_law nm) 501 (.iload_n 3, 1) 502 := ⟨(by decide +kernel : decode code 501 = .ok (.iload_n 3, 1)), rfl⟩
theorem dL_law_502 {nm : String} : pm_dec (mL_law nm) 502 (.iconst 1, 1) 503 := ⟨(by decide +kernel : decode code 502 = .ok (.iconst 1, 1)), rfl⟩
theorem dL_law_503 {nm : String} : pm_dec (mL_law nm) 503 (.iadd, 1) 504 := ⟨(by decide +kernel : decode code 503 = .ok (.iadd, 1)), rfl⟩
theorem dL_law_504 {nm : String} : pm_dec (mL_law nm) 504 (.iaload, 1) 505 := ⟨(by decide +kernel : decode code 504 = .ok (.iaload, 1)), rfl⟩
theorem dL_law_505 {nm : String} : pm_dec (mL_law nm) 505 (.aload_n 0, 1) 506 := ⟨(by decide +kernel : decode code 505 = .ok (.aload_n 0, 1)), rfl⟩
theorem dL_law_506 {nm : String} : pm_dec (mL_law nm) 506 (.iload_n 3, 1) 507 := ⟨(by decide +kernel : decode code 506 = .ok (.iload_n 3, 1)), rfl⟩
theorem dL_law_507 {nm : String} : pm_dec (mL_law nm) 507 (.iconst 2, 1) 508 := ⟨(by decide +kernel : decode code 507 = .ok (.iconst 2, 1)), rfl⟩
theorem dL_law_508 {nm : String} : pm_dec (mL_law nm) 508 (.iadd, 1) 509 := ⟨(by decide +kernel : decode code 508 = .ok (.iadd, 1)), rfl⟩
theorem dL_law_509 {nm : String} : pm_dec (mL_law nm) 509 (.iaload, 1) 510 := ⟨(by decide +kernel : decode code 509 = .ok (.iaload, 1)), rfl⟩
theorem dL_law_510 {nm : String} : pm_dec (mL_law nm) 510 (.invokevirtual 46, 3) 513 := ⟨(by decide +kernel : decode code 510 = .ok (.invokevirtual 46, 3)), rfl⟩
theorem dL_law_513 {nm : String} : pm_dec (mL_law nm) 513 (.aload_n 2, 1) 514 := ⟨(by decide +kernel : decode code 513 = .ok (.aload_n 2, 1)), rfl⟩
theorem dL_law_514 {nm : String} : pm_dec (mL_law nm) 514 (.aload_n 0, 1) 515 := ⟨(by decide +kernel : decode code 514 = .ok (.aload_n 0, 1)), rfl⟩
theorem dL_law_515 {nm : String} : pm_dec (mL_law nm) 515 (.iload_n 3, 1) 516 := ⟨(by decide +kernel : decode code 515 = .ok (.iload_n 3, 1)), rfl⟩
theorem dL_law_516 {nm : String} : pm_dec (mL_law nm) 516 (.iconst 1, 1) 517 := ⟨(by decide +kernel : decode code 516 = .ok (.iconst 1, 1)), rfl⟩
theorem dL_law_517 {nm : String} : pm_dec (mL_law nm) 517 (.iadd, 1) 518 := ⟨(by decide +kernel : decode code 517 = .ok (.iadd, 1)), rfl⟩
theorem dL_law_518 {nm : String} : pm_dec (mL_law nm) 518 (.iaload, 1) 519 := ⟨(by decide +kernel : decode code 518 = .ok (.iaload, 1)), rfl⟩
theorem dL_law_519 {nm : String} : pm_dec (mL_law nm) 519 (.aload_n 0, 1) 520 := ⟨(by decide +kernel : decode code 519 = .ok (.aload_n 0, 1)), rfl⟩
theorem dL_law_520 {nm : String} : pm_dec (mL_law nm) 520 (.iload_n 3, 1) 521 := ⟨(by decide +kernel : decode code 520 = .ok (.iload_n 3, 1)), rfl⟩
theorem dL_law_521 {nm : String} : pm_dec (mL_law nm) 521 (.iconst 2, 1) 522 := ⟨(by decide +kernel : decode code 521 = .ok (.iconst 2, 1)), rfl⟩
theorem dL_law_522 {nm : String} : pm_dec (mL_law nm) 522 (.iadd, 1) 523 := ⟨(by decide +kernel : decode code 522 = .ok (.iadd, 1)), rfl⟩
theorem dL_law_523 {nm : String} : pm_dec (mL_law nm) 523 (.iaload, 1) 524 := ⟨(by decide +kernel : decode code 523 = .ok (.iaload, 1)), rfl⟩
theorem dL_law_524 {nm : String} : pm_dec (mL_law nm) 524 (.invokevirtual 49, 3) 527 := ⟨(by decide +kernel : decode code 524 = .ok (.invokevirtual 49, 3)), rfl⟩
theorem dL_law_527 {nm : String} : pm_dec (mL_law nm) 527 (.if_icmp .eq 1578, 3) 530 := ⟨(by decide +kernel : decode code 527 = .ok (.if_icmp .eq 1578, 3)), rfl⟩
theorem dL_law_532 {nm : String} : pm_dec (mL_law nm) 532 (.aload_n 1, 1) 533 := ⟨(by decide +kernel : decode code 532 = .ok (.aload_n 1, 1)), rfl⟩
theorem dL_law_533 {nm : String} : pm_dec (mL_law nm) 533 (.aload_n 0, 1) 534 := ⟨(by decide +kernel : decode code 533 = .ok (.aload_n 0, 1)), rfl⟩
theorem dL_law_534 {nm : String} : pm_dec (mL_law nm) 534 (.iload_n 3, 1) 535 := ⟨(by decide +kernel : decode code 534 = .ok (.iload_n 3, 1)), rfl⟩
theorem dL_law_535 {nm : String} : pm_dec (mL_law nm) 535 (.iconst 1, 1) 536 := ⟨(by decide +kernel : decode code 535 = .ok (.iconst 1, 1)), rfl⟩
theorem dL_law_536 {nm : String} : pm_dec (mL_law nm) 536 (.iadd, 1) 537 := ⟨(by decide +kernel : decode code 536 = .ok (.iadd, 1)), rfl⟩
theorem dL_law_537 {nm : String} : pm_dec (mL_law nm) 537 (.iaload, 1) 538 := ⟨(by decide +kernel : decode code 537 = .ok (.iaload, 1)), rfl⟩
theorem dL_law_538 {nm : String} : pm_dec (mL_law nm) 538 (.aload_n 0, 1) 539 := ⟨(by decide +kernel : decode code 538 = .ok (.aload_n 0, 1)), rfl⟩
theorem dL_law_539 {nm : String} : pm_dec (mL_law nm) 539 (.iload_n 3, 1) 540 := ⟨(by decide +kernel : decode code 539 = .ok (.iload_n 3, 1)), rfl⟩
theorem dL_law_540 {nm : String} : pm_dec (mL_law nm) 540 (.iconst 2, 1) 541 := ⟨(by decide +kernel : decode code 540 = .ok (.iconst 2, 1)), rfl⟩
theorem dL_law_541 {nm : String} : pm_dec (mL_law nm) 541 (.iadd, 1) 542 := ⟨(by decide +kernel : decode code 541 = .ok (.iadd, 1)), rfl⟩
theorem dL_law_542 {nm : String} : pm_dec (mL_law nm) 542 (.iaload, 1) 543 := ⟨(by decide +kernel : decode code 542 = .ok (.iaload, 1)), rfl⟩
theorem dL_law_543 {nm : String} : pm_dec (mL_law nm) 543 (.invokevirtual 50, 3) 546 := ⟨(by decide +kernel : decode code 543 = .ok (.invokevirtual 50, 3)), rfl⟩
theorem dL_law_546 {nm : String} : pm_dec (mL_law nm) 546 (.aload_n 2, 1) 547 := ⟨(by decide +kernel : decode code 546 = .ok (.aload_n 2, 1)), rfl⟩
theorem dL_law_547 {nm : String} : pm_dec (mL_law nm) 547 (.aload_n 0, 1) 548 := ⟨(by decide +kernel : decode code 547 = .ok (.aload_n 0, 1)), rfl⟩
theorem dL_law_548 {nm : String} : pm_dec (mL_law nm) 548 (.iload_n 3, 1) 549 := ⟨(by decide +kernel : decode code 548 = .ok (.iload_n 3, 1)), rfl⟩
theorem dL_law_549 {nm : String} : pm_dec (mL_law nm) 549 (.iconst 1, 1) 550 := ⟨(by decide +kernel : decode code 549 = .ok (.iconst 1, 1)), rfl⟩
theorem dL_law_550 {nm : String} : pm_dec (mL_law nm) 550 (.iadd, 1) 551 := ⟨(by decide +kernel : decode code 550 = .ok (.iadd, 1)), rfl⟩
theorem dL_law_551 {nm : String} : pm_dec (mL_law nm) 551 (.iaload, 1) 552 := ⟨(by decide +kernel : decode code 551 = .ok (.iaload, 1)), rfl⟩
theorem dL_law_552 {nm : String} : pm_dec (mL_law nm) 552 (.aload_n 0, 1) 553 := ⟨(by decide +kernel : decode code 552 = .ok (.aload_n 0, 1)), rfl⟩
theorem dL_law_553 {nm : String} : pm_dec (mL_law nm) 553 (.iload_n 3, 1) 554 := ⟨(by decide +kernel : decode code 553 = .ok (.iload_n 3, 1)), rfl⟩
theorem dL_law_554 {nm : String} : pm_dec (mL_law nm) 554 (.iconst 2, 1) 555 := ⟨(by decide +kernel : decode code 554 = .ok (.iconst 2, 1)), rfl⟩
theorem dL_law_555 {nm : String} : pm_dec (mL_law nm) 555 (.iadd, 1) 556 := ⟨(by decide +kernel : decode code 555 = .ok (.iadd, 1)), rfl⟩
theorem dL_law_556 {nm : String} : pm_dec (mL_law nm) 556 (.iaload, 1) 557 := ⟨(by decide +kernel : decode code 556 = .ok (.iaload, 1)), rfl⟩
theorem dL_law_557 {nm : String} : pm_dec (mL_law nm) 557 (.invokevirtual 53, 3) 560 := ⟨(by decide +kernel : decode code 557 = .ok (.invokevirtual 53, 3)), rfl⟩
theorem dL_law_560 {nm : String} : pm_dec (mL_law nm) 560 (.if_icmp .eq 1545, 3) 563 := ⟨(by decide +kernel : decode code 560 = .ok (.if_icmp .eq 1545, 3)), rfl⟩
theorem dL_law_565 {nm : String} : pm_dec (mL_law nm) 565 (.aload_n 1, 1) 566 := ⟨(by decide +kernel : decode code 565 = .ok (.aload_n 1, 1)), rfl⟩
theorem dL_law_566 {nm : String} : pm_dec (mL_law nm) 566 (.aload_n 0, 1) 567 := ⟨(by decide +kernel : decode code 566 = .ok (.aload_n 0, 1)), rfl⟩
theorem dL_law_567 {nm : String} : pm_dec (mL_law nm) 567 (.iload_n 3, 1) 568 := ⟨(by decide +kernel : decode code 567 = .ok (.iload_n 3, 1)), rfl⟩
theorem dL_law_568 {nm : String} : pm_dec (mL_law nm) 568 (.iconst 1, 1) 569 := ⟨(by decide +kernel : decode code 568 = .ok (.iconst 1, 1)), rfl⟩
theorem dL_law_569 {nm : String} : pm_dec (mL_law nm) 569 (.iadd, 1) 570 := ⟨(by decide +kernel : decode code 569 = .ok (.iadd, 1)), rfl⟩
theorem dL_law_570 {nm : String} : pm_dec (mL_law nm) 570 (.iaload, 1) 571 := ⟨(by decide +kernel : decode code 570 = .ok (.iaload, 1)), rfl⟩
theorem dL_law_571 {nm : String} : pm_dec (mL_law nm) 571 (.aload_n 0, 1) 572 := ⟨(by decide +kernel : decode code 571 = .ok (.aload_n 0, 1)), rfl⟩
theorem dL_law_572 {nm : String} : pm_dec (mL_law nm) 572 (.iload_n 3, 1) 573 := ⟨(by decide +kernel : decode code 572 = .ok (.iload_n 3, 1)), rfl⟩
theorem dL_law_573 {nm : String} : pm_dec (mL_law nm) 573 (.iconst 2, 1) 574 := ⟨(by decide +kernel : decode code 573 = .ok (.iconst 2, 1)), rfl⟩
theorem dL_law_574 {nm : String} : pm_dec (mL_law nm) 574 (.iadd, 1) 575 := ⟨(by decide +kernel : decode code 574 = .ok (.iadd, 1)), rfl⟩
theorem dL_law_575 {nm : String} : pm_dec (mL_law nm) 575 (.iaload, 1) 576 := ⟨(by decide +kernel : decode code 575 = .ok (.iaload, 1)), rfl⟩
theorem dL_law_576 {nm : String} : pm_dec (mL_law nm) 576 (.aload_n 0, 1) 577 := ⟨(by decide +kernel : decode code 576 = .ok (.aload_n 0, 1)), rfl⟩
theorem dL_law_577 {nm : String} : pm_dec (mL_law nm) 577 (.iload_n 3, 1) 578 := ⟨(by decide +kernel : decode code 577 = .ok (.iload_n 3, 1)), rfl⟩
theorem dL_law_578 {nm : String} : pm_dec (mL_law nm) 578 (.iconst 3, 1) 579 := ⟨(by decide +kernel : decode code 578 = .ok (.iconst 3, 1)), rfl⟩
theorem dL_law_579 {nm : String} : pm_dec (mL_law nm) 579 (.iadd, 1) 580 := ⟨(by decide +kernel : decode code 579 = .ok (.iadd, 1)), rfl⟩
theorem dL_law_580 {nm : String} : pm_dec (mL_law nm) 580 (.iaload, 1) 581 := ⟨(by decide +kernel : decode code 580 = .ok (.iaload, 1)), rfl⟩
theorem dL_law_581 {nm : String} : pm_dec (mL_law nm) 581 (.invokevirtual 54, 3) 584 := ⟨(by decide +kernel : decode code 581 = .ok (.invokevirtual 54, 3)), rfl⟩
theorem dL_law_584 {nm : String} : pm_dec (mL_law nm) 584 (.aload_n 2, 1) 585 := ⟨(by decide +kernel : decode code 584 = .ok (.aload_n 2, 1)), rfl⟩
theorem dL_law_585 {nm : String} : pm_dec (mL_law nm) 585 (.aload_n 0, 1) 586 := ⟨(by decide +kernel : decode code 585 = .ok (.aload_n 0, 1)), rfl⟩
theorem dL_law_586 {nm : String} : pm_dec (mL_law nm) 586 (.iload_n 3, 1) 587 := ⟨(by decide +kernel : decode code 586 = .ok (.iload_n 3, 1)), rfl⟩
theorem dL_law_587 {nm : String} : pm_dec (mL_law nm) 587 (.iconst 1, 1) 588 := ⟨(by decide +kernel : decode code 587 = .ok (.iconst 1, 1)), rfl⟩
theorem dL_law_588 {nm : String} : pm_dec (mL_law nm) 588 (.iadd, 1) 589 := ⟨(by decide +kernel : decode code 588 = .ok (.iadd, 1)), rfl⟩
theorem dL_law_589 {nm : String} : pm_dec (mL_law nm) 589 (.iaload, 1) 590 := ⟨(by decide +kernel : decode code 589 = .ok (.iaload, 1)), rfl⟩
theorem dL_law_590 {nm : String} : pm_dec (mL_law nm) 590 (.aload_n 0, 1) 591 := ⟨(by decide +kernel : decode code 590 = .ok (.aload_n 0, 1)), rfl⟩
theorem dL_law_591 {nm : String} : pm_dec (mL_law nm) 591 (.iload_n 3, 1) 592 := ⟨(by decide +kernel : decode code 591 = .ok (.iload_n 3, 1)), rfl⟩
theorem dL_law_592 {nm : String} : pm_dec (mL_law nm) 592 (.iconst 2, 1) 593 := ⟨(by decide +kernel : decode code 592 = .ok (.iconst 2, 1)), rfl⟩
theorem dL_law_593 {nm : String} : pm_dec (mL_law nm) 593 (.iadd, 1) 594 := ⟨(by decide +kernel : decode code 593 = .ok (.iadd, 1)), rfl⟩
theorem dL_law_594 {nm : String} : pm_dec (mL_law nm) 594 (.iaload, 1) 595 := ⟨(by decide +kernel : decode code 594 = .ok (.iaload, 1)), rfl⟩
theorem dL_law_595 {nm : String} : pm_dec (mL_law nm) 595 (.aload_n 0, 1) 596 := ⟨(by decide +kernel : decode code 595 = .ok (.aload_n 0, 1)), rfl⟩
theorem dL_law_596 {nm : String} : pm_dec (mL_law nm) 596 (.iload_n 3, 1) 597 := ⟨(by decide +kernel : decode code 596 = .ok (.iload_n 3, 1)), rfl⟩
theorem dL_law_597 {nm : String} : pm_dec (mL_law nm) 597 (.iconst 3, 1) 598 := ⟨(by decide +kernel : decode code 597 = .ok (.iconst 3, 1)), rfl⟩
theorem dL_law_598 {nm : String} : pm_dec (mL_law nm) 598 (.iadd, 1) 599 := ⟨(by decide +kernel : decode code 598 = .ok (.iadd, 1)), rfl⟩
theorem dL_law_599 {nm : String} : pm_dec (mL_law nm) 599 (.iaload, 1) 600 := ⟨(by decide +kernel : decode code 599 = .ok (.iaload, 1)), rfl⟩
theorem dL_law_600 {nm : String} : pm_dec (mL_law nm) 600 (.invokevirtual 57, 3) 603 := ⟨(by decide +kernel : decode code 600 = .ok (.invokevirtual 57, 3)), rfl⟩
theorem dL_law_603 {nm : String} : pm_dec (mL_law nm) 603 (.if_icmp .eq 1502, 3) 606 := ⟨(by decide +kernel : decode code 603 = .ok (.if_icmp .eq 1502, 3)), rfl⟩
theorem dL_law_608 {nm : String} : pm_dec (mL_law nm) 608 (.aload_n 1, 1) 609 := ⟨(by decide +kernel : decode code 608 = .ok (.aload_n 1, 1)), rfl⟩
theorem dL_law_609 {nm : String} : pm_dec (mL_law nm) 609 (.aload_n 0, 1) 610 := ⟨(by decide +kernel : decode code 609 = .ok (.aload_n 0, 1)), rfl⟩
theorem dL_law_610 {nm : String} : pm_dec (mL_law nm) 610 (.iload_n 3, 1) 611 := ⟨(by decide +kernel : decode code 610 = .ok (.iload_n 3, 1)), rfl⟩
theorem dL_law_611 {nm : String} : pm_dec (mL_law nm) 611 (.iconst 1, 1) 612 := ⟨(by decide +kernel : decode code 611 = .ok (.iconst 1, 1)), rfl⟩
theorem dL_law_612 {nm : String} : pm_dec (mL_law nm) 612 (.iadd, 1) 613 := ⟨(by decide +kernel : decode code 612 = .ok (.iadd, 1)), rfl⟩
theorem dL_law_613 {nm : String} : pm_dec (mL_law nm) 613 (.iaload, 1) 614 := ⟨(by decide +kernel : decode code 613 = .ok (.iaload, 1)), rfl⟩
theorem dL_law_614 {nm : String} : pm_dec (mL_law nm) 614 (.aload_n 0, 1) 615 := ⟨(by decide +kernel : decode code 614 = .ok (.aload_n 0, 1)), rfl⟩
theorem dL_law_615 {nm : String} : pm_dec (mL_law nm) 615 (.iload_n 3, 1) 616 := ⟨(by decide +kernel : decode code 615 = .ok (.iload_n 3, 1)), rfl⟩
theorem dL_law_616 {nm : String} : pm_dec (mL_law nm) 616 (.iconst 2, 1) 617 := ⟨(by decide +kernel : decode code 616 = .ok (.iconst 2, 1)), rfl⟩
theorem dL_law_617 {nm : String} : pm_dec (mL_law nm) 617 (.iadd, 1) 618 := ⟨(by decide +kernel : decode code 617 = .ok (.iadd, 1)), rfl⟩
theorem dL_law_618 {nm : String} : pm_dec (mL_law nm) 618 (.iaload, 1) 619 := ⟨(by decide +kernel : decode code 618 = .ok (.iaload, 1)), rfl⟩
theorem dL_law_619 {nm : String} : pm_dec (mL_law nm) 619 (.invokevirtual 58, 3) 622 := ⟨(by decide +kernel : decode code 619 = .ok (.invokevirtual 58, 3)), rfl⟩
theorem dL_law_622 {nm : String} : pm_dec (mL_law nm) 622 (.aload_n 2, 1) 623 := ⟨(by decide +kernel : decode code 622 = .ok (.aload_n 2, 1)), rfl⟩
theorem dL_law_623 {nm : String} : pm_dec (mL_law nm) 623 (.aload_n 0, 1) 624 := ⟨(by decide +kernel : decode code 623 = .ok (.aload_n 0, 1)), rfl⟩
theorem dL_law_624 {nm : String} : pm_dec (mL_law nm) 624 (.iload_n 3, 1) 625 := ⟨(by decide +kernel : decode code 624 = .ok (.iload_n 3, 1)), rfl⟩
theorem dL_law_625 {nm : String} : pm_dec (mL_law nm) 625 (.iconst 1, 1) 626 := ⟨(by decide +kernel : decode code 625 = .ok (.iconst 1, 1)), rfl⟩
theorem dL_law_626 {nm : String} : pm_dec (mL_law nm) 626 (.iadd, 1) 627 := ⟨(by decide +kernel : decode code 626 = .ok (.iadd, 1)), rfl⟩
theorem dL_law_627 {nm : String} : pm_dec (mL_law nm) 627 (.iaload, 1) 628 := ⟨(by decide +kernel : decode code 627 = .ok (.iaload, 1)), rfl⟩
theorem dL_law_628 {nm : String} : pm_dec (mL_law nm) 628 (.aload_n 0, 1) 629 := ⟨(by decide +kernel : decode code 628 = .ok (.aload_n 0, 1)), rfl⟩
theorem dL_law_629 {nm : String} : pm_dec (mL_law nm) 629 (.iload_n 3, 1) 630 := ⟨(by decide +kernel : decode code 629 = .ok (.iload_n 3, 1)), rfl⟩
theorem dL_law_630 {nm : String} : pm_dec (mL_law nm) 630 (.iconst 2, 1) 631 := ⟨(by decide +kernel : decode code 630 = .ok (.iconst 2, 1)), rfl⟩
theorem dL_law_631 {nm : String} : pm_dec (mL_law nm) 631 (.iadd, 1) 632 := ⟨(by decide +kernel : decode code 631 = .ok (.iadd, 1)), rfl⟩
theorem dL_law_632 {nm : String} : pm_dec (mL_law nm) 632 (.iaload, 1) 633 := ⟨(by decide +kernel : decode code 632 = .ok (.iaload, 1)), rfl⟩
theorem dL_law_633 {nm : String} : pm_dec (mL_law nm) 633 (.invokevirtual 61, 3) 636 := ⟨(by decide +kernel : decode code 633 = .ok (.invokevirtual 61, 3)), rfl⟩
theorem dL_law_636 {nm : String} : pm_dec (mL_law nm) 636 (.if_icmp .eq 1469, 3) 639 := ⟨(by decide +kernel : decode code 636 = .ok (.if_icmp .eq 1469, 3)), rfl⟩
theorem dL_law_641 {nm : String} : pm_dec (mL_law nm) 641 (.aload_n 1, 1) 642 := ⟨(by decide +kernel : decode code 641 = .ok (.aload_n 1, 1)), rfl⟩
theorem dL_law_642 {nm : String} : pm_dec (mL_law nm) 642 (.aload_n 0, 1) 643 := ⟨(by decide +kernel : decode code 642 = .ok (.aload_n 0, 1)), rfl⟩
theorem dL_law_643 {nm : String} : pm_dec (mL_law nm) 643 (.iload_n 3, 1) 644 := ⟨(by decide +kernel : decode code 643 = .ok (.iload_n 3, 1)), rfl⟩
theorem dL_law_644 {nm : String} : pm_dec (mL_law nm) 644 (.iconst 1, 1) 645 := ⟨(by decide +kernel : decode code 644 = .ok (.iconst 1, 1)), rfl⟩
theorem dL_law_645 {nm : String} : pm_dec (mL_law nm) 645 (.iadd, 1) 646 := ⟨(by decide +kernel : decode code 645 = .ok (.iadd, 1)), rfl⟩
theorem dL_law_646 {nm : String} : pm_dec (mL_law nm) 646 (.iaload, 1) 647 := ⟨(by decide +kernel : decode code 646 = .ok (.iaload, 1)), rfl⟩
theorem dL_law_647 {nm : String} : pm_dec (mL_law nm) 647 (.aload_n 0, 1) 648 := ⟨(by decide +kernel : decode code 647 = .ok (.aload_n 0, 1)), rfl⟩
theorem dL_law_648 {nm : String} : pm_dec (mL_law nm) 648 (.iload_n 3, 1) 649 := ⟨(by decide +kernel : decode code 648 = .ok (.iload_n 3, 1)), rfl⟩
theorem dL_law_649 {nm : String} : pm_dec (mL_law nm) 649 (.iconst 2, 1) 650 := ⟨(by decide +kernel : decode code 649 = .ok (.iconst 2, 1)), rfl⟩
theorem dL_law_650 {nm : String} : pm_dec (mL_law nm) 650 (.iadd, 1) 651 := ⟨(by decide +kernel : decode code 650 = .ok (.iadd, 1)), rfl⟩
theorem dL_law_651 {nm : String} : pm_dec (mL_law nm) 651 (.iaload, 1) 652 := ⟨(by decide +kernel : decode code 651 = .ok (.iaload, 1)), rfl⟩
theorem dL_law_652 {nm : String} : pm_dec (mL_law nm) 652 (.invokevirtual 62, 3) 655 := ⟨(by decide +kernel : decode code 652 = .ok (.invokevirtual 62, 3)), rfl⟩
theorem dL_law_655 {nm : String} : pm_dec (mL_law nm) 655 (.aload_n 2, 1) 656 := ⟨(by decide +kernel : decode code 655 = .ok (.aload_n 2, 1)), rfl⟩
theorem dL_law_656 {nm : String} : pm_dec (mL_law nm) 656 (.aload_n 0, 1) 657 := ⟨(by decide +kernel : decode code 656 = .ok (.aload_n 0, 1)), rfl⟩
theorem dL_law_657 {nm : String} : pm_dec (mL_law nm) 657 (.iload_n 3, 1) 658 := ⟨(by decide +kernel : decode code 657 = .ok (.iload_n 3, 1)), rfl⟩
