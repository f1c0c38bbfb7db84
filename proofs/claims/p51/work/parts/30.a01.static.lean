theorem dL_law_424 {nm : String} : pm_dec (mL_law nm) 424 (.iadd, 1) 425 := ⟨(by decide +kernel : decode code 424 = .ok (.iadd, 1)), rfl⟩
theorem dL_law_425 {nm : String} : pm_dec (mL_law nm) 425 (.iaload, 1) 426 := ⟨(by decide +kernel : decode code 425 = .ok (.iaload, 1)), rfl⟩
theorem dL_law_426 {nm : String} : pm_dec (mL_law nm) 426 (.invokevirtual 37, 3) 429 := ⟨(by decide +kernel : decode code 426 = .ok (.invokevirtual 37, 3)), rfl⟩
theorem dL_law_429 {nm : String} : pm_dec (mL_law nm) 429 (.pop, 1) 430 := ⟨(by decide +kernel : decode code 429 = .ok (.pop, 1)), rfl⟩
theorem dL_law_430 {nm : String} : pm_dec (mL_law nm) 430 (.goto 1675, 3) 433 := ⟨(by decide +kernel : decode code 430 = .ok (.goto 1675, 3)), rfl⟩
theorem dL_law_433 {nm : String} : pm_dec (mL_law nm) 433 (.aload_n 1, 1) 434 := ⟨(by decide +kernel : decode code 433 = .ok (.aload_n 1, 1)), rfl⟩
theorem dL_law_434 {nm : String} : pm_dec (mL_law nm) 434 (.aload_n 0, 1) 435 := ⟨(by decide +kernel : decode code 434 = .ok (.aload_n 0, 1)), rfl⟩
theorem dL_law_435 {nm : String} : pm_dec (mL_law nm) 435 (.iload_n 3, 1) 436 := ⟨(by decide +kernel : decode code 435 = .ok (.iload_n 3, 1)), rfl⟩
theorem dL_law_436 {nm : String} : pm_dec (mL_law nm) 436 (.iconst 1, 1) 437 := ⟨(by decide +kernel : decode code 436 = .ok (.iconst 1, 1)), rfl⟩
theorem dL_law_437 {nm : String} : pm_dec (mL_law nm) 437 (.iadd, 1) 438 := ⟨(by decide +kernel : decode code 437 = .ok (.iadd, 1)), rfl⟩
theorem dL_law_438 {nm : String} : pm_dec (mL_law nm) 438 (.iaload, 1) 439 := ⟨(by decide +kernel : decode code 438 = .ok (.iaload, 1)), rfl⟩
theorem dL_law_439 {nm : String} : pm_dec (mL_law nm) 439 (.aload_n 0, 1) 440 := ⟨(by decide +kernel : decode code 439 = .ok (.aload_n 0, 1)), rfl⟩
theorem dL_law_440 {nm : String} : pm_dec (mL_law nm) 440 (.iload_n 3, 1) 441 := ⟨(by decide +kernel : decode code 440 = .ok (.iload_n 3, 1)), rfl⟩
theorem dL_law_441 {nm : String} : pm_dec (mL_law nm) 441 (.iconst 2, 1) 442 := ⟨(by decide +kernel : decode code 441 = .ok (.iconst 2, 1)), rfl⟩
theorem dL_law_442 {nm : String} : pm_dec (mL_law nm) 442 (.iadd, 1) 443 := ⟨(by decide +kernel : decode code 442 = .ok (.iadd, 1)), rfl⟩
theorem dL_law_443 {nm : String} : pm_dec (mL_law nm) 443 (.iaload, 1) 444 := ⟨(by decide +kernel : decode code 443 = .ok (.iaload, 1)), rfl⟩
theorem dL_law_444 {nm : String} : pm_dec (mL_law nm) 444 (.invokevirtual 38, 3) 447 := ⟨(by decide +kernel : decode code 444 = .ok (.invokevirtual 38, 3)), rfl⟩
theorem dL_law_447 {nm : String} : pm_dec (mL_law nm) 447 (.pop, 1) 448 := ⟨(by decide +kernel : decode code 447 = .ok (.pop, 1)), rfl⟩
theorem dL_law_448 {nm : String} : pm_dec (mL_law nm) 448 (.aload_n 2, 1) 449 := ⟨(by decide +kernel : decode code 448 = .ok (.aload_n 2, 1)), rfl⟩
theorem dL_law_449 {nm : String} : pm_dec (mL_law nm) 449 (.aload_n 0, 1) 450 := ⟨(by decide +kernel : decode code 449 = .ok (.aload_n 0, 1)), rfl⟩
theorem dL_law_450 {nm : String} : pm_dec (mL_law nm) 450 (.iload_n 3, 1) 451 := ⟨(by decide +kernel : decode code 450 = .ok (.iload_n 3, 1)), rfl⟩
theorem dL_law_451 {nm : String} : pm_dec (mL_law nm) 451 (.iconst 1, 1) 452 := ⟨(by decide +kernel : decode code 451 = .ok (.iconst 1, 1)), rfl⟩
theorem dL_law_452 {nm : String} : pm_dec (mL_law nm) 452 (.iadd, 1) 453 := ⟨(by decide +kernel : decode code 452 = .ok (.iadd, 1)), rfl⟩
theorem dL_law_453 {nm : String} : pm_dec (mL_law nm) 453 (.iaload, 1) 454 := ⟨(by decide +kernel : decode code 453 = .ok (.iaload, 1)), rfl⟩
theorem dL_law_454 {nm : String} : pm_dec (mL_law nm) 454 (.aload_n 0, 1) 455 := ⟨(by decide +kernel : decode code 454 = .ok (.aload_n 0, 1)), rfl⟩
theorem dL_law_455 {nm : String} : pm_dec (mL_law nm) 455 (.iload_n 3, 1) 456 := ⟨(by decide +kernel : decode code 455 = .ok (.iload_n 3, 1)), rfl⟩
theorem dL_law_456 {nm : String} : pm_dec (mL_law nm) 456 (.iconst 2, 1) 457 := ⟨(by decide +kernel : decode code 456 = .ok (.iconst 2, 1)), rfl⟩
theorem dL_law_457 {nm : String} : pm_dec (mL_law nm) 457 (.iadd, 1) 458 := ⟨(by decide +kernel : decode code 457 = .ok (.iadd, 1)), rfl⟩
theorem dL_law_458 {nm : String} : pm_dec (mL_law nm) 458 (.iaload, 1) 459 := ⟨(by decide +kernel : decode code 458 = .ok (.iaload, 1)), rfl⟩
theorem dL_law_459 {nm : String} : pm_dec (mL_law nm) 459 (.invokevirtual 41, 3) 462 := ⟨(by decide +kernel : decode code 459 = .ok (.invokevirtual 41, 3)), rfl⟩
theorem dL_law_462 {nm : String} : pm_dec (mL_law nm) 462 (.pop, 1) 463 := ⟨(by decide +kernel : decode code 462 = .ok (.pop, 1)), rfl⟩
theorem dL_law_463 {nm : String} : pm_dec (mL_law nm) 463 (.goto 1642, 3) 466 := ⟨(by decide +kernel : decode code 463 = .ok (.goto 1642, 3)), rfl⟩
theorem dL_law_466 {nm : String} : pm_dec (mL_law nm) 466 (.aload_n 1, 1) 467 := ⟨(by decide +kernel : decode code 466 = .ok (.aload_n 1, 1)), rfl⟩
theorem dL_law_467 {nm : String} : pm_dec (mL_law nm) 467 (.aload_n 0, 1) 468 := ⟨(by decide +kernel : decode code 467 = .ok (.aload_n 0, 1)), rfl⟩
theorem dL_law_468 {nm : String} : pm_dec (mL_law nm) 468 (.iload_n 3, 1) 469 := ⟨(by decide +kernel : decode code 468 = .ok (.iload_n 3, 1)), rfl⟩
theorem dL_law_469 {nm : String} : pm_dec (mL_law nm) 469 (.iconst 1, 1) 470 := ⟨(by decide +kernel : decode code 469 = .ok (.iconst 1, 1)), rfl⟩
theorem dL_law_470 {nm : String} : pm_dec (mL_law nm) 470 (.iadd, 1) 471 := ⟨(by decide +kernel : decode code 470 = .ok (.iadd, 1)), rfl⟩
theorem dL_law_471 {nm : String} : pm_dec (mL_law nm) 471 (.iaload, 1) 472 := ⟨(by decide +kernel : decode code 471 = .ok (.iaload, 1)), rfl⟩
theorem dL_law_472 {nm : String} : pm_dec (mL_law nm) 472 (.aload_n 0, 1) 473 := ⟨(by decide +kernel : decode code 472 = .ok (.aload_n 0, 1)), rfl⟩
theorem dL_law_473 {nm : String} : pm_dec (mL_law nm) 473 (.iload_n 3, 1) 474 := ⟨(by decide +kernel : decode code 473 = .ok (.iload_n 3, 1)), rfl⟩
theorem dL_law_474 {nm : String} : pm_dec (mL_law nm) 474 (.iconst 2, 1) 475 := ⟨(by decide +kernel : decode code 474 = .ok (.iconst 2, 1)), rfl⟩
theorem dL_law_475 {nm : String} : pm_dec (mL_law nm) 475 (.iadd, 1) 476 := ⟨(by decide +kernel : decode code 475 = .ok (.iadd, 1)), rfl⟩
theorem dL_law_476 {nm : String} : pm_dec (mL_law nm) 476 (.iaload, 1) 477 := ⟨(by decide +kernel : decode code 476 = .ok (.iaload, 1)), rfl⟩
theorem dL_law_477 {nm : String} : pm_dec (mL_law nm) 477 (.invokevirtual 42, 3) 480 := ⟨(by decide +kernel : decode code 477 = .ok (.invokevirtual 42, 3)), rfl⟩
theorem dL_law_480 {nm : String} : pm_dec (mL_law nm) 480 (.pop, 1) 481 := ⟨(by decide +kernel : decode code 480 = .ok (.pop, 1)), rfl⟩
theorem dL_law_481 {nm : String} : pm_dec (mL_law nm) 481 (.aload_n 2, 1) 482 := ⟨(by decide +kernel : decode code 481 = .ok (.aload_n 2, 1)), rfl⟩
theorem dL_law_482 {nm : String} : pm_dec (mL_law nm) 482 (.aload_n 0, 1) 483 := ⟨(by decide +kernel : decode code 482 = .ok (.aload_n 0, 1)), rfl⟩
theorem dL_law_483 {nm : String} : pm_dec (mL_law nm) 483 (.iload_n 3, 1) 484 := ⟨(by decide +kernel : decode code 483 = .ok (.iload_n 3, 1)), rfl⟩
theorem dL_law_484 {nm : String} : pm_dec (mL_law nm) 484 (.iconst 1, 1) 485 := ⟨(by decide +kernel : decode code 484 = .ok (.iconst 1, 1)), rfl⟩
theorem dL_law_485 {nm : String} : pm_dec (mL_law nm) 485 (.iadd, 1) 486 := ⟨(by decide +kernel : decode code 485 = .ok (.iadd, 1)), rfl⟩
theorem dL_law_486 {nm : String} : pm_dec (mL_law nm) 486 (.iaload, 1) 487 := ⟨(by decide +kernel : decode code 486 = .ok (.iaload, 1)), rfl⟩
theorem dL_law_487 {nm : String} : pm_dec (mL_law nm) 487 (.aload_n 0, 1) 488 := ⟨(by decide +kernel : decode code 487 = .ok (.aload_n 0, 1)), rfl⟩
theorem dL_law_488 {nm : String} : pm_dec (mL_law nm) 488 (.iload_n 3, 1) 489 := ⟨(by decide +kernel : decode code 488 = .ok (.iload_n 3, 1)), rfl⟩
theorem dL_law_489 {nm : String} : pm_dec (mL_law nm) 489 (.iconst 2, 1) 490 := ⟨(by decide +kernel : decode code 489 = .ok (.iconst 2, 1)), rfl⟩
theorem dL_law_490 {nm : String} : pm_dec (mL_law nm) 490 (.iadd, 1) 491 := ⟨(by decide +kernel : decode code 490 = .ok (.iadd, 1)), rfl⟩
theorem dL_law_491 {nm : String} : pm_dec (mL_law nm) 491 (.iaload, 1) 492 := ⟨(by decide +kernel : decode code 491 = .ok (.iaload, 1)), rfl⟩
theorem dL_law_492 {nm : String} : pm_dec (mL_law nm) 492 (.invokevirtual 45, 3) 495 := ⟨(by decide +kernel : decode code 492 = .ok (.invokevirtual 45, 3)), rfl⟩
theorem dL_law_495 {nm : String} : pm_dec (mL_law nm) 495 (.pop, 1) 496 := ⟨(by decide +kernel : decode code 495 = .ok (.pop, 1)), rfl⟩
theorem dL_law_496 {nm : String} : pm_dec (mL_law nm) 496 (.goto 1609, 3) 499 := ⟨(by decide +kernel : decode code 496 = .ok (.goto 1609, 3)), rfl⟩
theorem dL_law_499 {nm : String} : pm_dec (mL_law nm) 499 (.aload_n 1, 1) 500 := ⟨(by decide +kernel : decode code 499 = .ok (.aload_n 1, 1)), rfl⟩
theorem dL_law_500 {nm : String} : pm_dec (mL_law nm) 500 (.aload_n 0, 1) 501 := ⟨(by decide +kernel : decode code 500 = .ok (.aload_n 0, 1)), rfl⟩
theorem dL_law_501 {nm : String} : pm_dec (mL_law nm) 501 (.iload_n 3, 1) 502 := ⟨(by decide +kernel : decode code 501 = .ok (.iload_n 3, 1)), rfl⟩
theorem dL_law_502 {nm : String} : pm_dec (mL_law nm) 502 (.iconst 1, 1) 503 := ⟨(by decide +kernel : decode code 502 = .ok (.iconst 1, 1)), rfl⟩
theorem dL_law_503 {nm : String} : pm_dec (mL_law nm) 503 (.iadd, 1) 504 := ⟨(by decide +kernel : decode code 503 = .ok (.iadd, 1)), rfl⟩
theorem dL_law_504 {nm : String} : pm_dec (mL_law nm) 504 (.iaload, 1) 505 := ⟨(by decide +kernel : decode code 504 = .ok (.iaload, 1)), rfl⟩
theorem dL_law_505 {nm : String} : pm_dec (mL_law nm) 505 (.aload_n 0, 1) 506 := ⟨(by decide +kernel : decode code 505 = .ok (.aload_n 0, 1)), rfl⟩
theorem dL_law_506 {nm : String} : pm_dec (mL_law nm) 506 (.iload_n 3, 1) 507 := ⟨(by decide +kernel : decode code 506 = .ok (.iload_n 3, 1)), rfl⟩
theorem dL_law_507 {nm : String} : pm_dec (mL_law nm) 507 (.iconst 2, 1) 508 := ⟨(by decide +kernel : decode code 507 = .ok (.iconst 2, 1)), rfl⟩
theorem dL_law_508 {nm : String} : pm_dec (mL_law nm) 508 (.iadd, 1) 509 := ⟨(by decide +kernel : decode code 508 = .ok (.iadd, 1)), rfl⟩
theorem dL_law_509 {nm : String} : pm_dec (mL_law nm) 509 (.iaload, 1) 510 := ⟨(by decide +kernel : decode code 509 = .ok (.iaload, 1)), rfl⟩
theorem dL_law_510 {nm : String} : pm_dec (mL_law nm) 510 (.invokevirtual 46, 3) 513 := ⟨(by decide +kernel : decode code 510 = .ok (.invokevirtual 46, 3)), rfl⟩
theorem dL_law_513 {nm : String} : pm_dec (mL_law nm) 513 (.pop, 1) 514 := ⟨(by decide +kernel : decode code 513 = .ok (.pop, 1)), rfl⟩
theorem dL_law_514 {nm : String} : pm_dec (mL_law nm) 514 (.aload_n 2, 1) 515 := ⟨(by decide +kernel : decode code 514 = .ok (.aload_n 2, 1)), rfl⟩
theorem dL_law_515 {nm : String} : pm_dec (mL_law nm) 515 (.aload_n 0, 1) 516 := ⟨(by decide +kernel : decode code 515 = .ok (.aload_n 0, 1)), rfl⟩
theorem dL_law_516 {nm : String} : pm_dec (mL_law nm) 516 (.iload_n 3, 1) 517 := ⟨(by decide +kernel : decode code 516 = .ok (.iload_n 3, 1)), rfl⟩
theorem dL_law_517 {nm : String} : pm_dec (mL_law nm) 517 (.iconst 1, 1) 518 := ⟨(by decide +kernel : decode code 517 = .ok (.iconst 1, 1)), rfl⟩
theorem dL_law_518 {nm : String} : pm_dec (mL_law nm) 518 (.iadd, 1) 519 := ⟨(by decide +kernel : decode code 518 = .ok (.iadd, 1)), rfl⟩
theorem dL_law_519 {nm : String} : pm_dec (mL_law nm) 519 (.iaload, 1) 520 := ⟨(by decide +kernel : decode code 519 = .ok (.iaload, 1)), rfl⟩
theorem dL_law_520 {nm : String} : pm_dec (mL_law nm) 520 (.aload_n 0, 1) 521 := ⟨(by decide +kernel : decode code 520 = .ok (.aload_n 0, 1)), rfl⟩
theorem dL_law_521 {nm : String} : pm_dec (mL_law nm) 521 (.iload_n 3, 1) 522 := ⟨(by decide +kernel : decode code 521 = .ok (.iload_n 3, 1)), rfl⟩
theorem dL_law_522 {nm : String} : pm_dec (mL_law nm) 522 (.iconst 2, 1) 523 := ⟨(by decide +kernel : decode code 522 = .ok (.iconst 2, 1)), rfl⟩
theorem dL_law_523 {nm : String} : pm_dec (mL_law nm) 523 (.iadd, 1) 524 := ⟨(by decide +kernel : decode code 523 = .ok (.iadd, 1)), rfl⟩
theorem dL_law_524 {nm : String} : pm_dec (mL_law nm) 524 (.iaload, 1) 525 := ⟨(by decide +kernel : decode code 524 = .ok (.iaload, 1)), rfl⟩
theorem dL_law_525 {nm : String} : pm_dec (mL_law nm) 525 (.invokevirtual 49, 3) 528 := ⟨(by decide +kernel : decode code 525 = .ok (.invokevirtual 49, 3)), rfl⟩
theorem dL_law_528 {nm : String} : pm_dec (mL_law nm) 528 (.pop, 1) 529 := ⟨(by decide +kernel : decode code 528 = .ok (.pop, 1)), rfl⟩
theorem dL_law_529 {nm : String} : pm_dec (mL_law nm) 529 (.goto 1576, 3) 532 := ⟨(by decide +kernel : decode code 529 = .ok (.goto 1576, 3)), rfl⟩
theorem dL_law_532 {nm : String} : pm_dec (mL_law nm) 532 (.aload_n 1, 1) 533 := ⟨(by decide +kernel : decode code 532 = .ok (.aload_n 1, 1)), rfl⟩
theorem dL_law_533 {nm : String} : pm_dec (mL_law nm) 533 (.aload_n 0, 1) 534 := ⟨(by decide +kernel : decode code 533 = .ok (.aload_n 0, 1)), rfl⟩
theorem dL_law_534 {nm : String} : pm_dec (mL_law nm) 534 (.iload_n 3, 1) 535 := ⟨(by decide +kernel : decode code 534 = .ok (.iload_n 3, 1)), rfl⟩
theorem dL_law_535 {nm : String} : pm_dec (mL_law nm) 535 (.iconst 1, 1) 536 := ⟨(by decide +kernel : decode code 535 = .ok (.iconst 1, 1)), rfl⟩
theorem dL_law_536 {nm : String} : pm_dec (mL_law nm) 536 (.iadd, 1) 537 := ⟨(by decide +kernel : decode code 536 = .ok (.iadd, 1)), rfl⟩
theorem dL_law_537 {nm : String} : pm_dec (mL_law nm) 537 (.iaload, 1) 538 := ⟨(by decide +kernel : decode code 537 = .ok (.iaload, 1)), rfl⟩
theorem dL_law_538 {nm : String} : pm_dec (mL_law nm) 538 (.aload_n 0, 1) 539 := ⟨(by decide +kernel : decode code 538 = .ok (.aload_n 0, 1)), rfl⟩
theorem dL_law_539 {nm : String} : pm_dec (mL_law nm) 539 (.iload_n 3, 1) 540 := ⟨(by decide +kernel : decode code 539 = .ok (.iload_n 3, 1)), rfl⟩
theorem dL_law_540 {nm : String} : pm_dec (mL_law nm) 540 (.iconst 2, 1) 541 := ⟨(by decide +kernel : decode code 540 = .ok (.iconst 2, 1)), rfl⟩
theorem dL_law_541 {nm : String} : pm_dec (mL_law nm) 541 (.iadd, 1) 542 := ⟨(by decide +kernel : decode code 541 = .ok (.iadd, 1)), rfl⟩
theorem dL_law_542 {nm : String} : pm_dec (mL_law nm) 542 (.iaload, 1) 543 := ⟨(by decide +kernel : decode code 542 = .ok (.iaload, 1)), rfl⟩
theorem dL_law_543 {nm : String} : pm_dec (mL_law nm) 543 (.invokevirtual 50, 3) 546 := ⟨(by decide +kernel : decode code 543 = .ok (.invokevirtual 50, 3)), rfl⟩
theorem dL_law_546 {nm : String} : pm_dec (mL_law nm) 546 (.pop, 1) 547 := ⟨(by decide +kernel : decode code 546 = .ok (.pop, 1)), rfl⟩
theorem dL_law_547 {nm : String} : pm_dec (mL_law nm) 547 (.aload_n 2, 1) 548 := ⟨(by decide +kernel : decode code 547 = .ok (.aload_n 2, 1)), rfl⟩
theorem dL_law_548 {nm : String} : pm_dec (mL_law nm) 548 (.aload_n 0, 1) 549 := ⟨(by decide +kernel : decode code 548 = .ok (.aload_n 0, 1)), rfl⟩
theorem dL_law_549 {nm : String} : pm_dec (mL_law nm) 549 (.iload_n 3, 1) 550 := ⟨(by decide +kernel : decode code 549 = .ok (.iload_n 3, 1)), rfl⟩
theorem dL_law_550 {nm : String} : pm_dec (mL_law nm) 550 (.iconst 1, 1) 551 := ⟨(by decide +kernel : decode code 550 = .ok (.iconst 1, 1)), rfl⟩
theorem dL_law_551 {nm : String} : pm_dec (mL_law nm) 551 (.iadd, 1) 552 := ⟨(by decide +kernel : decode code 551 = .ok (.iadd, 1)), rfl⟩
theorem dL_law_552 {nm : String} : pm_dec (mL_law nm) 552 (.iaload, 1) 553 := ⟨(by decide +kernel : decode code 552 = .ok (.iaload, 1)), rfl⟩
theorem dL_law_553 {nm : String} : pm_dec (mL_law nm) 553 (.aload_n 0, 1) 554 := ⟨(by decide +kernel : decode code 553 = .ok (.aload_n 0, 1)), rfl⟩
theorem dL_law_554 {nm : String} : pm_dec (mL_law nm) 554 (.iload_n 3, 1) 555 := ⟨(by decide +kernel : decode code 554 = .ok (.iload_n 3, 1)), rfl⟩
theorem dL_law_555 {nm : String} : pm_dec (mL_law nm) 555 (.iconst 2, 1) 556 := ⟨(by decide +kernel : decode code 555 = .ok (.iconst 2, 1)), rfl⟩
theorem dL_law_556 {nm : String} : pm_dec (mL_law nm) 556 (.iadd, 1) 557 := ⟨(by decide +kernel : decode code 556 = .ok (.iadd, 1)), rfl⟩
theorem dL_law_557 {nm : String} : pm_dec (mL_law nm) 557 (.iaload, 1) 558 := ⟨(by decide +kernel : decode code 557 = .ok (.iaload, 1)), rfl⟩
theorem dL_law_558 {nm : String} : pm_dec (mL_law nm) 558 (.invokevirtual 53, 3) 561 := ⟨(by decide +kernel : decode code 558 = .ok (.invokevirtual 53, 3)), rfl⟩
theorem dL_law_561 {nm : String} : pm_dec (mL_law nm) 561 (.pop, 1) 562 := ⟨(by decide +kernel : decode code 561 = .ok (.pop, 1)), rfl⟩
theorem dL_law_562 {nm : String} : pm_dec (mL_law nm) 562 (.goto 1543, 3) 565 := ⟨(by decide +kernel : decode code 562 = .ok (.goto 1543, 3)), rfl⟩
theorem dL_law_565 {nm : String} : pm_dec (mL_law nm) 565 (.aload_n 1, 1) 566 := ⟨(by decide +kernel : decode code 565 = .ok (.aload_n 1, 1)), rfl⟩
theorem dL_law_566 {nm : String} : pm_dec (mL_law nm) 566 (.aload_n 0, 1) 567 := ⟨(by decide +kernel : decode code 566 = .ok (.aload_n 0, 1)), rfl⟩
theorem dL_law_567 {nm : String} : pm_dec (mL_law nm) 567 (.iload_n 3, 1) 568 := ⟨(by decide +kernel : decode code 567 = .ok (.iload_n 3, 1)), rfl⟩
theorem dL_law_568 {nm : String} : pm_dec (mL_law nm) 568 (.iconst 1, 1) 569 := ⟨(by decide +kernel : decode code 568 = .ok (.iconst 1, 1)), rfl⟩
theorem dL_law_569 {nm : String} : pm_dec (mL_law nm) 569 (.iadd, 1) 570 := ⟨(by decide +kernel : decode code 569 = .ok (.iadd, 1)), rfl⟩
theorem dL_law_570 {nm : String} : pm_dec (mL_law nm) 570 (.iaload, 1) 571 := ⟨(by decide +kernel : decode code 570 = .ok (.iaload, 1)), rfl⟩
theorem dL_law_571 {nm : String} : pm_dec (mL_law nm) 571 (.aload_n 0, 1) 572 := ⟨(by decide +kernel : decode code 571 = .ok (.aload_n 0, 1)), rfl⟩
theorem dL_law_572 {nm : String} : pm_dec (mL_law nm) 572 (.iload_n 3, 1) 573 := ⟨(by decide +kernel : decode code 572 = .ok (.iload_n 3, 1)), rfl⟩
theorem dL_law_573 {nm : String} : pm_dec (mL_law nm) 573 (.iconst 2, 1) 574 := ⟨(by decide +kernel : decode code 573 = .ok (.iconst 2, 1)), rfl⟩
theorem dL_law_574 {nm : String} : pm_dec (mL_law nm) 574 (.iadd, 1) 575 := ⟨(by decide +kernel : decode code 574 = .ok (.iadd, 1)), rfl⟩
theorem dL_law_575 {nm : String} : pm_dec (mL_law nm) 575 (.iaload, 1) 576 := ⟨(by decide +kernel : decode code 575 = .ok (.iaload, 1)), rfl⟩
theorem dL_law_576 {nm : String} : pm_dec (mL_law nm) 576 (.aload_n 0, 1) 577 := ⟨(by decide +kernel : decode code 576 = .ok (.aload_n 0, 1)), rfl⟩
theorem dL_law_577 {nm : String} : pm_dec (mL_law nm) 577 (.iload_n 3, 1) 578 := ⟨(by decide +kernel : decode code 577 = .ok (.iload_n 3, 1)), rfl⟩
theorem dL_law_578 {nm : String} : pm_dec (mL_law nm) 578 (.iconst 3, 1) 579 := ⟨(by decide +kernel : decode code 578 = .ok (.iconst 3, 1)), rfl⟩
theorem dL_law_579 {nm : String} : pm_dec (mL_law nm) 579 (.iadd, 1) 580 := ⟨(by decide +kernel : decode code 579 = .ok (.iadd, 1)), rfl⟩
theorem dL_law_580 {nm : String} : pm_dec (mL_law nm) 580 (.iaload, 1) 581 := ⟨(by decide +kernel : decode code 580 = .ok (.iaload, 1)), rfl⟩
theorem dL_law_581 {nm : String} : pm_dec (mL_law nm) 581 (.invokevirtual 54, 3) 584 := ⟨(by decide +kernel : decode code 581 = .ok (.invokevirtual 54, 3)), rfl⟩
