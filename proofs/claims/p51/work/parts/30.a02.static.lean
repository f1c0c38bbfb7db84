theorem dL_law_584 {nm : String} : pm_dec (mL_law nm) 584 (.pop, 1) 585 := ⟨(by decide +kernel : decode code 584 = .ok (.pop, 1)), rfl⟩
theorem dL_law_585 {nm : String} : pm_dec (mL_law nm) 585 (.aload_n 2, 1) 586 := ⟨(by decide +kernel : decode code 585 = .ok (.aload_n 2, 1)), rfl⟩
theorem dL_law_586 {nm : String} : pm_dec (mL_law nm) 586 (.aload_n 0, 1) 587 := ⟨(by decide +kernel : decode code 586 = .ok (.aload_n 0, 1)), rfl⟩
theorem dL_law_587 {nm : String} : pm_dec (mL_law nm) 587 (.iload_n 3, 1) 588 := ⟨(by decide +kernel : decode code 587 = .ok (.iload_n 3, 1)), rfl⟩
theorem dL_law_588 {nm : String} : pm_dec (mL_law nm) 588 (.iconst 1, 1) 589 := ⟨(by decide +kernel : decode code 588 = .ok (.iconst 1, 1)), rfl⟩
theorem dL_law_589 {nm : String} : pm_dec (mL_law nm) 589 (.iadd, 1) 590 := ⟨(by decide +kernel : decode code 589 = .ok (.iadd, 1)), rfl⟩
theorem dL_law_590 {nm : String} : pm_dec (mL_law nm) 590 (.iaload, 1) 591 := ⟨(by decide +kernel : decode code 590 = .ok (.iaload, 1)), rfl⟩
theorem dL_law_591 {nm : String} : pm_dec (mL_law nm) 591 (.aload_n 0, 1) 592 := ⟨(by decide +kernel : decode code 591 = .ok (.aload_n 0, 1)), rfl⟩
theorem dL_law_592 {nm : String} : pm_dec (mL_law nm) 592 (.iload_n 3, 1) 593 := ⟨(by decide +kernel : decode code 592 = .ok (.iload_n 3, 1)), rfl⟩
theorem dL_law_593 {nm : String} : pm_dec (mL_law nm) 593 (.iconst 2, 1) 594 := ⟨(by decide +kernel : decode code 593 = .ok (.iconst 2, 1)), rfl⟩
theorem dL_law_594 {nm : String} : pm_dec (mL_law nm) 594 (.iadd, 1) 595 := ⟨(by decide +kernel : decode code 594 = .ok (.iadd, 1)), rfl⟩
theorem dL_law_595 {nm : String} : pm_dec (mL_law nm) 595 (.iaload, 1) 596 := ⟨(by decide +kernel : decode code 595 = .ok (.iaload, 1)), rfl⟩
theorem dL_law_596 {nm : String} : pm_dec (mL_law nm) 596 (.aload_n 0, 1) 597 := ⟨(by decide +kernel : decode code 596 = .ok (.aload_n 0, 1)), rfl⟩
theorem dL_law_597 {nm : String} : pm_dec (mL_law nm) 597 (.iload_n 3, 1) 598 := ⟨(by decide +kernel : decode code 597 = .ok (.iload_n 3, 1)), rfl⟩
theorem dL_law_598 {nm : String} : pm_dec (mL_law nm) 598 (.iconst 3, 1) 599 := ⟨(by decide +kernel : decode code 598 = .ok (.iconst 3, 1)), rfl⟩
theorem dL_law_599 {nm : String} : pm_dec (mL_law nm) 599 (.iadd, 1) 600 := ⟨(by decide +kernel : decode code 599 = .ok (.iadd, 1)), rfl⟩
theorem dL_law_600 {nm : String} : pm_dec (mL_law nm) 600 (.iaload, 1) 601 := ⟨(by decide +kernel : decode code 600 = .ok (.iaload, 1)), rfl⟩
theorem dL_law_601 {nm : String} : pm_dec (mL_law nm) 601 (.invokevirtual 57, 3) 604 := ⟨(by decide +kernel : decode code 601 = .ok (.invokevirtual 57, 3)), rfl⟩
theorem dL_law_604 {nm : String} : pm_dec (mL_law nm) 604 (.pop, 1) 605 := ⟨(by decide +kernel : decode code 604 = .ok (.pop, 1)), rfl⟩
theorem dL_law_605 {nm : String} : pm_dec (mL_law nm) 605 (.goto 1500, 3) 608 := ⟨(by decide +kernel : decode code 605 = .ok (.goto 1500, 3)), rfl⟩
theorem dL_law_608 {nm : String} : pm_dec (mL_law nm) 608 (.aload_n 1, 1) 609 := ⟨(by decide +kernel : decode code 608 = .ok (.aload_n 1, 1)), rfl⟩
theorem dL_law_609 {nm : String} : pm_dec (mL_law nm) 609 (.aload_n 0, 1) 610 := ⟨(by decide +kernel : decode code 609 = .ok (.aload_n 0, 1)), rfl⟩
theorem dL_law_610 {nm : String} : pm_dec (mL_law nm) 610 (.iload_n 3, 1) 611 := ⟨(by decide +kernel : decode code 610 = .ok (.iload_n 3, 1)), rfl⟩
theorem dL_law_611 {nm : String} : pm_dec (mL_law nm) 611 (.iconst 1, 1) 612 := ⟨(by decide +kernel : decode code 611 = .ok (.iconst 1, 1)), rfl⟩
theorem dL_law_612 {nm : String} : pm_dec (mL_law nm) 612 (.iadd, 1) 613 := ⟨(by decide +kernel : decode code 612 = .ok (.iadd, 1)), rfl⟩
theorem dL_law_613 {nm : String} : pm_dec (mL_law nm) 613 (.iaload, 1) 614 := ⟨(by decide +kernel : decode code 613 = .ok (.iaload, 1)), rfl⟩
theorem dL_law_614 {nm : String} : pm_dec (mL_law nm) 614 (.aload_n 0, 1) 615 := ⟨(by decide +kernel : decode code 614 = .ok (.aload_n 0, 1)), rfl⟩
theorem dL_law_615 {nm : String} : pm_dec (mL_law nm) 615 (.iload_n 3, 1) 616 := ⟨(by decide +kernel : decode code 615 = .ok (.iload_n 3, 1)), rfl⟩
theorem dL_law_616 {nm : String} : pm_dec (mL_law nm) 616 (.iconst 2, 1) 617 := ⟨(by decide +kernel : decode code 616 = .ok (.iconst 2, 1)), rfl⟩
theorem dL_law_617 {nm : String} : pm_dec (mL_law nm) 617 (.iadd, 1) 618 := ⟨(by decide +kernel : decode code 617 = .ok (.iadd, 1)), rfl⟩
theorem dL_law_618 {nm : String} : pm_dec (mL_law nm) 618 (.iaload, 1) 619 := ⟨(by decide +kernel : decode code 618 = .ok (.iaload, 1)), rfl⟩
theorem dL_law_619 {nm : String} : pm_dec (mL_law nm) 619 (.invokevirtual 58, 3) 622 := ⟨(by decide +kernel : decode code 619 = .ok (.invokevirtual 58, 3)), rfl⟩
theorem dL_law_622 {nm : String} : pm_dec (mL_law nm) 622 (.pop, 1) 623 := ⟨(by decide +kernel : decode code 622 = .ok (.pop, 1)), rfl⟩
theorem dL_law_623 {nm : String} : pm_dec (mL_law nm) 623 (.aload_n 2, 1) 624 := ⟨(by decide +kernel : decode code 623 = .ok (.aload_n 2, 1)), rfl⟩
theorem dL_law_624 {nm : String} : pm_dec (mL_law nm) 624 (.aload_n 0, 1) 625 := ⟨(by decide +kernel : decode code 624 = .ok (.aload_n 0, 1)), rfl⟩
theorem dL_law_625 {nm : String} : pm_dec (mL_law nm) 625 (.iload_n 3, 1) 626 := ⟨(by decide +kernel : decode code 625 = .ok (.iload_n 3, 1)), rfl⟩
theorem dL_law_626 {nm : String} : pm_dec (mL_law nm) 626 (.iconst 1, 1) 627 := ⟨(by decide +kernel : decode code 626 = .ok (.iconst 1, 1)), rfl⟩
theorem dL_law_627 {nm : String} : pm_dec (mL_law nm) 627 (.iadd, 1) 628 := ⟨(by decide +kernel : decode code 627 = .ok (.iadd, 1)), rfl⟩
theorem dL_law_628 {nm : String} : pm_dec (mL_law nm) 628 (.iaload, 1) 629 := ⟨(by decide +kernel : decode code 628 = .ok (.iaload, 1)), rfl⟩
theorem dL_law_629 {nm : String} : pm_dec (mL_law nm) 629 (.aload_n 0, 1) 630 := ⟨(by decide +kernel : decode code 629 = .ok (.aload_n 0, 1)), rfl⟩
theorem dL_law_630 {nm : String} : pm_dec (mL_law nm) 630 (.iload_n 3, 1) 631 := ⟨(by decide +kernel : decode code 630 = .ok (.iload_n 3, 1)), rfl⟩
theorem dL_law_631 {nm : String} : pm_dec (mL_law nm) 631 (.iconst 2, 1) 632 := ⟨(by decide +kernel : decode code 631 = .ok (.iconst 2, 1)), rfl⟩
theorem dL_law_632 {nm : String} : pm_dec (mL_law nm) 632 (.iadd, 1) 633 := ⟨(by decide +kernel : decode code 632 = .ok (.iadd, 1)), rfl⟩
theorem dL_law_633 {nm : String} : pm_dec (mL_law nm) 633 (.iaload, 1) 634 := ⟨(by decide +kernel : decode code 633 = .ok (.iaload, 1)), rfl⟩
theorem dL_law_634 {nm : String} : pm_dec (mL_law nm) 634 (.invokevirtual 61, 3) 637 := ⟨(by decide +kernel : decode code 634 = .ok (.invokevirtual 61, 3)), rfl⟩
theorem dL_law_637 {nm : String} : pm_dec (mL_law nm) 637 (.pop, 1) 638 := ⟨(by decide +kernel : decode code 637 = .ok (.pop, 1)), rfl⟩
theorem dL_law_638 {nm : String} : pm_dec (mL_law nm) 638 (.goto 1467, 3) 641 := ⟨(by decide +kernel : decode code 638 = .ok (.goto 1467, 3)), rfl⟩
theorem dL_law_641 {nm : String} : pm_dec (mL_law nm) 641 (.aload_n 1, 1) 642 := ⟨(by decide +kernel : decode code 641 = .ok (.aload_n 1, 1)), rfl⟩
theorem dL_law_642 {nm : String} : pm_dec (mL_law nm) 642 (.aload_n 0, 1) 643 := ⟨(by decide +kernel : decode code 642 = .ok (.aload_n 0, 1)), rfl⟩
theorem dL_law_643 {nm : String} : pm_dec (mL_law nm) 643 (.iload_n 3, 1) 644 := ⟨(by decide +kernel : decode code 643 = .ok (.iload_n 3, 1)), rfl⟩
theorem dL_law_644 {nm : String} : pm_dec (mL_law nm) 644 (.iconst 1, 1) 645 := ⟨(by decide +kernel : decode code 644 = .ok (.iconst 1, 1)), rfl⟩
theorem dL_law_645 {nm : String} : pm_dec (mL_law nm) 645 (.iadd, 1) 646 := ⟨(by decide +kernel : decode code 645 = .ok (.iadd, 1)), rfl⟩
theorem dL_law_646 {nm : String} : pm_dec (mL_law nm) 646 (.iaload, 1) 647 := ⟨(by decide +kernel : decode code 646 = .ok (.iaload, 1)), rfl⟩
theorem dL_law_647 {nm : String} : pm_dec (mL_law nm) 647 (.aload_n 0, 1) 648 := ⟨(by decide +kernel : decode code 647 = .ok (.aload_n 0, 1)), rfl⟩
theorem dL_law_648 {nm : String} : pm_dec (mL_law nm) 648 (.iload_n 3, 1) 649 := ⟨(by decide +kernel : decode code 648 = .ok (.iload_n 3, 1)), rfl⟩
theorem dL_law_649 {nm : String} : pm_dec (mL_law nm) 649 (.iconst 2, 1) 650 := ⟨(by decide +kernel : decode code 649 = .ok (.iconst 2, 1)), rfl⟩
theorem dL_law_650 {nm : String} : pm_dec (mL_law nm) 650 (.iadd, 1) 651 := ⟨(by decide +kernel : decode code 650 = .ok (.iadd, 1)), rfl⟩
theorem dL_law_651 {nm : String} : pm_dec (mL_law nm) 651 (.iaload, 1) 652 := ⟨(by decide +kernel : decode code 651 = .ok (.iaload, 1)), rfl⟩
theorem dL_law_652 {nm : String} : pm_dec (mL_law nm) 652 (.invokevirtual 62, 3) 655 := ⟨(by decide +kernel : decode code 652 = .ok (.invokevirtual 62, 3)), rfl⟩
theorem dL_law_655 {nm : String} : pm_dec (mL_law nm) 655 (.pop, 1) 656 := ⟨(by decide +kernel : decode code 655 = .ok (.pop, 1)), rfl⟩
theorem dL_law_656 {nm : String} : pm_dec (mL_law nm) 656 (.aload_n 2, 1) 657 := ⟨(by decide +kernel : decode code 656 = .ok (.aload_n 2, 1)), rfl⟩
theorem dL_law_657 {nm : String} : pm_dec (mL_law nm) 657 (.aload_n 0, 1) 658 := ⟨(by decide +kernel : decode code 657 = .ok (.aload_n 0, 1)), rfl⟩
theorem dL_law_658 {nm : String} : pm_dec (mL_law nm) 658 (.iload_n 3, 1) 659 := ⟨(by decide +kernel : decode code 658 = .ok (.iload_n 3, 1)), rfl⟩
theorem dL_law_659 {nm : String} : pm_dec (mL_law nm) 659 (.iconst 1, 1) 660 := ⟨(by decide +kernel : decode code 659 = .ok (.iconst 1, 1)), rfl⟩
theorem dL_law_660 {nm : String} : pm_dec (mL_law nm) 660 (.iadd, 1) 661 := ⟨(by decide +kernel : decode code 660 = .ok (.iadd, 1)), rfl⟩
theorem dL_law_661 {nm : String} : pm_dec (mL_law nm) 661 (.iaload, 1) 662 := ⟨(by decide +kernel : decode code 661 = .ok (.iaload, 1)), rfl⟩
theorem dL_law_662 {nm : String} : pm_dec (mL_law nm) 662 (.aload_n 0, 1) 663 := ⟨(by decide +kernel : decode code 662 = .ok (.aload_n 0, 1)), rfl⟩
theorem dL_law_663 {nm : String} : pm_dec (mL_law nm) 663 (.iload_n 3, 1) 664 := ⟨(by decide +kernel : decode code 663 = .ok (.iload_n 3, 1)), rfl⟩
theorem dL_law_664 {nm : String} : pm_dec (mL_law nm) 664 (.iconst 2, 1) 665 := ⟨(by decide +kernel : decode code 664 = .ok (.iconst 2, 1)), rfl⟩
theorem dL_law_665 {nm : String} : pm_dec (mL_law nm) 665 (.iadd, 1) 666 := ⟨(by decide +kernel : decode code 665 = .ok (.iadd, 1)), rfl⟩
theorem dL_law_666 {nm : String} : pm_dec (mL_law nm) 666 (.iaload, 1) 667 := ⟨(by decide +kernel : decode code 666 = .ok (.iaload, 1)), rfl⟩
theorem dL_law_667 {nm : String} : pm_dec (mL_law nm) 667 (.invokevirtual 65, 3) 670 := ⟨(by decide +kernel : decode code 667 = .ok (.invokevirtual 65, 3)), rfl⟩
theorem dL_law_670 {nm : String} : pm_dec (mL_law nm) 670 (.pop, 1) 671 := ⟨(by decide +kernel : decode code 670 = .ok (.pop, 1)), rfl⟩
theorem dL_law_671 {nm : String} : pm_dec (mL_law nm) 671 (.goto 1434, 3) 674 := ⟨(by decide +kernel : decode code 671 = .ok (.goto 1434, 3)), rfl⟩
theorem dL_law_674 {nm : String} : pm_dec (mL_law nm) 674 (.aload_n 1, 1) 675 := ⟨(by decide +kernel : decode code 674 = .ok (.aload_n 1, 1)), rfl⟩
theorem dL_law_675 {nm : String} : pm_dec (mL_law nm) 675 (.aload_n 0, 1) 676 := ⟨(by decide +kernel : decode code 675 = .ok (.aload_n 0, 1)), rfl⟩
theorem dL_law_676 {nm : String} : pm_dec (mL_law nm) 676 (.iload_n 3, 1) 677 := ⟨(by decide +kernel : decode code 676 = .ok (.iload_n 3, 1)), rfl⟩
theorem dL_law_677 {nm : String} : pm_dec (mL_law nm) 677 (.iconst 1, 1) 678 := ⟨(by decide +kernel : decode code 677 = .ok (.iconst 1, 1)), rfl⟩
theorem dL_law_678 {nm : String} : pm_dec (mL_law nm) 678 (.iadd, 1) 679 := ⟨(by decide +kernel : decode code 678 = .ok (.iadd, 1)), rfl⟩
theorem dL_law_679 {nm : String} : pm_dec (mL_law nm) 679 (.iaload, 1) 680 := ⟨(by decide +kernel : decode code 679 = .ok (.iaload, 1)), rfl⟩
theorem dL_law_680 {nm : String} : pm_dec (mL_law nm) 680 (.aload_n 0, 1) 681 := ⟨(by decide +kernel : decode code 680 = .ok (.aload_n 0, 1)), rfl⟩
theorem dL_law_681 {nm : String} : pm_dec (mL_law nm) 681 (.iload_n 3, 1) 682 := ⟨(by decide +kernel : decode code 681 = .ok (.iload_n 3, 1)), rfl⟩
theorem dL_law_682 {nm : String} : pm_dec (mL_law nm) 682 (.iconst 2, 1) 683 := ⟨(by decide +kernel : decode code 682 = .ok (.iconst 2, 1)), rfl⟩
theorem dL_law_683 {nm : String} : pm_dec (mL_law nm) 683 (.iadd, 1) 684 := ⟨(by decide +kernel : decode code 683 = .ok (.iadd, 1)), rfl⟩
theorem dL_law_684 {nm : String} : pm_dec (mL_law nm) 684 (.iaload, 1) 685 := ⟨(by decide +kernel : decode code 684 = .ok (.iaload, 1)), rfl⟩
theorem dL_law_685 {nm : String} : pm_dec (mL_law nm) 685 (.invokevirtual 66, 3) 688 := ⟨(by decide +kernel : decode code 685 = .ok (.invokevirtual 66, 3)), rfl⟩
theorem dL_law_688 {nm : String} : pm_dec (mL_law nm) 688 (.pop, 1) 689 := ⟨(by decide +kernel : decode code 688 = .ok (.pop, 1)), rfl⟩
theorem dL_law_689 {nm : String} : pm_dec (mL_law nm) 689 (.aload_n 2, 1) 690 := ⟨(by decide +kernel : decode code 689 = .ok (.aload_n 2, 1)), rfl⟩
theorem dL_law_690 {nm : String} : pm_dec (mL_law nm) 690 (.aload_n 0, 1) 691 := ⟨(by decide +kernel : decode code 690 = .ok (.aload_n 0, 1)), rfl⟩
theorem dL_law_691 {nm : String} : pm_dec (mL_law nm) 691 (.iload_n 3, 1) 692 := ⟨(by decide +kernel : decode code 691 = .ok (.iload_n 3, 1)), rfl⟩
theorem dL_law_692 {nm : String} : pm_dec (mL_law nm) 692 (.iconst 1, 1) 693 := ⟨(by decide +kernel : decode code 692 = .ok (.iconst 1, 1)), rfl⟩
theorem dL_law_693 {nm : String} : pm_dec (mL_law nm) 693 (.iadd, 1) 694 := ⟨(by decide +kernel : decode code 693 = .ok (.iadd, 1)), rfl⟩
theorem dL_law_694 {nm : String} : pm_dec (mL_law nm) 694 (.iaload, 1) 695 := ⟨(by decide +kernel : decode code 694 = .ok (.iaload, 1)), rfl⟩
theorem dL_law_695 {nm : String} : pm_dec (mL_law nm) 695 (.aload_n 0, 1) 696 := ⟨(by decide +kernel : decode code 695 = .ok (.aload_n 0, 1)), rfl⟩
theorem dL_law_696 {nm : String} : pm_dec (mL_law nm) 696 (.iload_n 3, 1) 697 := ⟨(by decide +kernel : decode code 696 = .ok (.iload_n 3, 1)), rfl⟩
theorem dL_law_697 {nm : String} : pm_dec (mL_law nm) 697 (.iconst 2, 1) 698 := ⟨(by decide +kernel : decode code 697 = .ok (.iconst 2, 1)), rfl⟩
theorem dL_law_698 {nm : String} : pm_dec (mL_law nm) 698 (.iadd, 1) 699 := ⟨(by decide +kernel : decode code 698 = .ok (.iadd, 1)), rfl⟩
theorem dL_law_699 {nm : String} : pm_dec (mL_law nm) 699 (.iaload, 1) 700 := ⟨(by decide +kernel : decode code 699 = .ok (.iaload, 1)), rfl⟩
theorem dL_law_700 {nm : String} : pm_dec (mL_law nm) 700 (.invokevirtual 69, 3) 703 := ⟨(by decide +kernel : decode code 700 = .ok (.invokevirtual 69, 3)), rfl⟩
theorem dL_law_703 {nm : String} : pm_dec (mL_law nm) 703 (.pop, 1) 704 := ⟨(by decide +kernel : decode code 703 = .ok (.pop, 1)), rfl⟩
theorem dL_law_704 {nm : String} : pm_dec (mL_law nm) 704 (.goto 1401, 3) 707 := ⟨(by decide +kernel : decode code 704 = .ok (.goto 1401, 3)), rfl⟩
theorem dL_law_707 {nm : String} : pm_dec (mL_law nm) 707 (.aload_n 1, 1) 708 := ⟨(by decide +kernel : decode code 707 = .ok (.aload_n 1, 1)), rfl⟩
theorem dL_law_708 {nm : String} : pm_dec (mL_law nm) 708 (.aload_n 0, 1) 709 := ⟨(by decide +kernel : decode code 708 = .ok (.aload_n 0, 1)), rfl⟩
theorem dL_law_709 {nm : String} : pm_dec (mL_law nm) 709 (.iload_n 3, 1) 710 := ⟨(by decide +kernel : decode code 709 = .ok (.iload_n 3, 1)), rfl⟩
theorem dL_law_710 {nm : String} : pm_dec (mL_law nm) 710 (.iconst 1, 1) 711 := ⟨(by decide +kernel : decode code 710 = .ok (.iconst 1, 1)), rfl⟩
theorem dL_law_711 {nm : String} : pm_dec (mL_law nm) 711 (.iadd, 1) 712 := ⟨(by decide +kernel : decode code 711 = .ok (.iadd, 1)), rfl⟩
theorem dL_law_712 {nm : String} : pm_dec (mL_law nm) 712 (.iaload, 1) 713 := ⟨(by decide +kernel : decode code 712 = .ok (.iaload, 1)), rfl⟩
theorem dL_law_713 {nm : String} : pm_dec (mL_law nm) 713 (.aload_n 0, 1) 714 := ⟨(by decide +kernel : decode code 713 = .ok (.aload_n 0, 1)), rfl⟩
theorem dL_law_714 {nm : String} : pm_dec (mL_law nm) 714 (.iload_n 3, 1) 715 := ⟨(by decide +kernel : decode code 714 = .ok (.iload_n 3, 1)), rfl⟩
theorem dL_law_715 {nm : String} : pm_dec (mL_law nm) 715 (.iconst 2, 1) 716 := ⟨(by decide +kernel : decode code 715 = .ok (.iconst 2, 1)), rfl⟩
theorem dL_law_716 {nm : String} : pm_dec (mL_law nm) 716 (.iadd, 1) 717 := ⟨(by decide +kernel : decode code 716 = .ok (.iadd, 1)), rfl⟩
theorem dL_law_717 {nm : String} : pm_dec (mL_law nm) 717 (.iaload, 1) 718 := ⟨(by decide +kernel : decode code 717 = .ok (.iaload, 1)), rfl⟩
theorem dL_law_718 {nm : String} : pm_dec (mL_law nm) 718 (.aload_n 0, 1) 719 := ⟨(by decide +kernel : decode code 718 = .ok (.aload_n 0, 1)), rfl⟩
theorem dL_law_719 {nm : String} : pm_dec (mL_law nm) 719 (.iload_n 3, 1) 720 := ⟨(by decide +kernel : decode code 719 = .ok (.iload_n 3, 1)), rfl⟩
theorem dL_law_720 {nm : String} : pm_dec (mL_law nm) 720 (.iconst 3, 1) 721 := ⟨(by decide +kernel : decode code 720 = .ok (.iconst 3, 1)), rfl⟩
theorem dL_law_721 {nm : String} : pm_dec (mL_law nm) 721 (.iadd, 1) 722 := ⟨(by decide +kernel : decode code 721 = .ok (.iadd, 1)), rfl⟩
theorem dL_law_722 {nm : String} : pm_dec (mL_law nm) 722 (.iaload, 1) 723 := ⟨(by decide +kernel : decode code 722 = .ok (.iaload, 1)), rfl⟩
theorem dL_law_723 {nm : String} : pm_dec (mL_law nm) 723 (.invokevirtual 70, 3) 726 := ⟨(by decide +kernel : decode code 723 = .ok (.invokevirtual 70, 3)), rfl⟩
theorem dL_law_726 {nm : String} : pm_dec (mL_law nm) 726 (.pop, 1) 727 := ⟨(by decide +kernel : decode code 726 = .ok (.pop, 1)), rfl⟩
theorem dL_law_727 {nm : String} : pm_dec (mL_law nm) 727 (.aload_n 2, 1) 728 := ⟨(by decide +kernel : decode code 727 = .ok (.aload_n 2, 1)), rfl⟩
theorem dL_law_728 {nm : String} : pm_dec (mL_law nm) 728 (.aload_n 0, 1) 729 := ⟨(by decide +kernel : decode code 728 = .ok (.aload_n 0, 1)), rfl⟩
theorem dL_law_729 {nm : String} : pm_dec (mL_law nm) 729 (.iload_n 3, 1) 730 := ⟨(by decide +kernel : decode code 729 = .ok (.iload_n 3, 1)), rfl⟩
theorem dL_law_730 {nm : String} : pm_dec (mL_law nm) 730 (.iconst 1, 1) 731 := ⟨(by decide +kernel : decode code 730 = .ok (.iconst 1, 1)), rfl⟩
theorem dL_law_731 {nm : String} : pm_dec (mL_law nm) 731 (.iadd, 1) 732 := ⟨(by decide +kernel : decode code 731 = .ok (.iadd, 1)), rfl⟩
theorem dL_law_732 {nm : String} : pm_dec (mL_law nm) 732 (.iaload, 1) 733 := ⟨(by decide +kernel : decode code 732 = .ok (.iaload, 1)), rfl⟩
theorem dL_law_733 {nm : String} : pm_dec (mL_law nm) 733 (.aload_n 0, 1) 734 := ⟨(by decide +kernel : decode code 733 = .ok (.aload_n 0, 1)), rfl⟩
theorem dL_law_734 {nm : String} : pm_dec (mL_law nm) 734 (.iload_n 3, 1) 735 := ⟨(by decide +kernel : decode code 734 = .ok (.iload_n 3, 1)), rfl⟩
theorem dL_law_735 {nm : String} : pm_dec (mL_law nm) 735 (.iconst 2, 1) 736 := ⟨(by decide +kernel : decode code 735 = .ok (.iconst 2, 1)), rfl⟩
theorem dL_law_736 {nm : String} : pm_dec (mL_law nm) 736 (.iadd, 1) 737 := ⟨(by decide +kernel : decode code 736 = .ok (.iadd, 1)), rfl⟩
theorem dL_law_737 {nm : String} : pm_dec (mL_law nm) 737 (.iaload, 1) 738 := ⟨(by decide +kernel : decode code 737 = .ok (.iaload, 1)), rfl⟩
