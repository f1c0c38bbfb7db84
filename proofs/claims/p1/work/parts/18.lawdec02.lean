theorem dL_law_658 {nm : String} : pm_dec (mL_law nm) 658 (.iconst 1, 1) 659 := ⟨(by decide +kernel : decode code 658 = .ok (.iconst 1, 1)), rfl⟩
theorem dL_law_659 {nm : String} : pm_dec (mL_law nm) 659 (.iadd, 1) 660 := ⟨(by decide +kernel : decode code 659 = .ok (.iadd, 1)), rfl⟩
theorem dL_law_660 {nm : String} : pm_dec (mL_law nm) 660 (.iaload, 1) 661 := ⟨(by decide +kernel : decode code 660 = .ok (.iaload, 1)), rfl⟩
theorem dL_law_661 {nm : String} : pm_dec (mL_law nm) 661 (.aload_n 0, 1) 662 := ⟨(by decide +kernel : decode code 661 = .ok (.aload_n 0, 1)), rfl⟩
theorem dL_law_662 {nm : String} : pm_dec (mL_law nm) 662 (.iload_n 3, 1) 663 := ⟨(by decide +kernel : decode code 662 = .ok (.iload_n 3, 1)), rfl⟩
theorem dL_law_663 {nm : String} : pm_dec (mL_law nm) 663 (.iconst 2, 1) 664 := ⟨(by decide +kernel : decode code 663 = .ok (.iconst 2, 1)), rfl⟩
theorem dL_law_664 {nm : String} : pm_dec (mL_law nm) 664 (.iadd, 1) 665 := ⟨(by decide +kernel : decode code 664 = .ok (.iadd, 1)), rfl⟩
theorem dL_law_665 {nm : String} : pm_dec (mL_law nm) 665 (.iaload, 1) 666 := ⟨(by decide +kernel : decode code 665 = .ok (.iaload, 1)), rfl⟩
theorem dL_law_666 {nm : String} : pm_dec (mL_law nm) 666 (.invokevirtual 65, 3) 669 := ⟨(by decide +kernel : decode code 666 = .ok (.invokevirtual 65, 3)), rfl⟩
theorem dL_law_669 {nm : String} : pm_dec (mL_law nm) 669 (.if_icmp .eq 1436, 3) 672 := ⟨(by decide +kernel : decode code 669 = .ok (.if_icmp .eq 1436, 3)), rfl⟩
theorem dL_law_674 {nm : String} : pm_dec (mL_law nm) 674 (.aload_n 1, 1) 675 := ⟨(by decide +kernel : decode code 674 = .ok (.aload_n 1, 1)), rfl⟩
theorem dL_law_675 {nm : String} : pm_dec (mL_law nm) 675 (.aload_n 0, 1) 676 := ⟨(by decide +kernel : decode code 675 = .ok (.aload_n 0, 1)), rfl⟩
theorem dL_law_676 {nm : String} : pm_dec (mL_law nm) 676 (.iload_n 3, 1) 677 := ⟨(by decide +kernel : decode code 676 = .ok (.iload_n 3, 1)), rfl⟩
theorem dL_law_677 {nm : String} : pm_dec (mL_law nm) 677 (.iconst 1, 1) 678 := ⟨(by decide +kernel : decode code 677 = .ok (.iconst 1, 1)), rfl⟩
theorem dL_law_678 {nm : String} : pm_dec (mL_law nm) 678 (.iadd, 1) 679 := ⟨(by decide +kernel : decode code 678 = .ok (.iadd, 1)), rfl⟩
theorem dL_law_679 {nm : String} : pm_dec (mL_law nm) 679 (.iaload, 1) 680 := ⟨(by decide +kernel : decode code 679 = .ok (.iaload, 1)), rfl⟩
theorem dL_law_680 {nm : String} : pm_dec (mL_law nm) 680 (.aload_n 0, 1) 681 := ⟨(by decide +kernel : decode code 680 = .ok (.aload_n 0, 1)), rfl⟩
theorem dL_law_681 {nm : String} : pm_dec (mL_law nm) 681 (.iload_n 3, 1) 682 := ⟨(by decide +kernel : decode code 681 = .ok (.iload_n 3, 1)), rfl⟩
theorem dL_law_682 {nm : String} : pm_dec (mL_law nm) 682 (.iconst 2, 1) 683 := ⟨(by decide +kernel : decode code 682 = .ok (.iconst 2, 1)), rfl⟩
theorem dL_law_683 {nm : String} : pm_dec (mL_law nm) 683 (.iadd, 1) 684 := ⟨(by decide +kernel : decode code 683 = .ok (.iadd, 1)), rfl⟩
theorem dL_law_684 {nm : String} : pm_dec (mL_law nm) 684 (.iaload, 1) 685 := ⟨(by decide +kernel : decode code 684 = .ok (.iaload, 1)), rfl⟩
theorem dL_law_685 {nm : String} : pm_dec (mL_law nm) 685 (.invokevirtual 66, 3) 688 := ⟨(by decide +kernel : decode code 685 = .ok (.invokevirtual 66, 3)), rfl⟩
theorem dL_law_688 {nm : String} : pm_dec (mL_law nm) 688 (.aload_n 2, 1) 689 := ⟨(by decide +kernel : decode code 688 = .ok (.aload_n 2, 1)), rfl⟩
theorem dL_law_689 {nm : String} : pm_dec (mL_law nm) 689 (.aload_n 0, 1) 690 := ⟨(by decide +kernel : decode code 689 = .ok (.aload_n 0, 1)), rfl⟩
theorem dL_law_690 {nm : String} : pm_dec (mL_law nm) 690 (.iload_n 3, 1) 691 := ⟨(by decide +kernel : decode code 690 = .ok (.iload_n 3, 1)), rfl⟩
theorem dL_law_691 {nm : String} : pm_dec (mL_law nm) 691 (.iconst 1, 1) 692 := ⟨(by decide +kernel : decode code 691 = .ok (.iconst 1, 1)), rfl⟩
theorem dL_law_692 {nm : String} : pm_dec (mL_law nm) 692 (.iadd, 1) 693 := ⟨(by decide +kernel : decode code 692 = .ok (.iadd, 1)), rfl⟩
theorem dL_law_693 {nm : String} : pm_dec (mL_law nm) 693 (.iaload, 1) 694 := ⟨(by decide +kernel : decode code 693 = .ok (.iaload, 1)), rfl⟩
theorem dL_law_694 {nm : String} : pm_dec (mL_law nm) 694 (.aload_n 0, 1) 695 := ⟨(by decide +kernel : decode code 694 = .ok (.aload_n 0, 1)), rfl⟩
theorem dL_law_695 {nm : String} : pm_dec (mL_law nm) 695 (.iload_n 3, 1) 696 := ⟨(by decide +kernel : decode code 695 = .ok (.iload_n 3, 1)), rfl⟩
theorem dL_law_696 {nm : String} : pm_dec (mL_law nm) 696 (.iconst 2, 1) 697 := ⟨(by decide +kernel : decode code 696 = .ok (.iconst 2, 1)), rfl⟩
theorem dL_law_697 {nm : String} : pm_dec (mL_law nm) 697 (.iadd, 1) 698 := ⟨(by decide +kernel : decode code 697 = .ok (.iadd, 1)), rfl⟩
theorem dL_law_698 {nm : String} : pm_dec (mL_law nm) 698 (.iaload, 1) 699 := ⟨(by decide +kernel : decode code 698 = .ok (.iaload, 1)), rfl⟩
theorem dL_law_699 {nm : String} : pm_dec (mL_law nm) 699 (.invokevirtual 69, 3) 702 := ⟨(by decide +kernel : decode code 699 = .ok (.invokevirtual 69, 3)), rfl⟩
theorem dL_law_702 {nm : String} : pm_dec (mL_law nm) 702 (.if_icmp .eq 1403, 3) 705 := ⟨(by decide +kernel : decode code 702 = .ok (.if_icmp .eq 1403, 3)), rfl⟩
theorem dL_law_707 {nm : String} : pm_dec (mL_law nm) 707 (.aload_n 1, 1) 708 := ⟨(by decide +kernel : decode code 707 = .ok (.aload_n 1, 1)), rfl⟩
theorem dL_law_708 {nm : String} : pm_dec (mL_law nm) 708 (.aload_n 0, 1) 709 := ⟨(by decide +kernel : decode code 708 = .ok (.aload_n 0, 1)), rfl⟩
theorem dL_law_709 {nm : String} : pm_dec (mL_law nm) 709 (.iload_n 3, 1) 710 := ⟨(by decide +kernel : decode code 709 = .ok (.iload_n 3, 1)), rfl⟩
theorem dL_law_710 {nm : String} : pm_dec (mL_law nm) 710 (.iconst 1, 1) 711 := ⟨(by decide +kernel : decode code 710 = .ok (.iconst 1, 1)), rfl⟩
theorem dL_law_711 {nm : String} : pm_dec (mL_law nm) 711 (.iadd, 1) 712 := ⟨(by decide +kernel : decode code 711 = .ok (.iadd, 1)), rfl⟩
theorem dL_law_712 {nm : String} : pm_dec (mL_law nm) 712 (.iaload, 1) 713 := ⟨(by decide +kernel : decode code 712 = .ok (.iaload, 1)), rfl⟩
theorem dL_law_713 {nm : String} : pm_dec (mL_law nm) 713 (.aload_n 0, 1) 714 := ⟨(by decide +kernel : decode code 713 = .ok (.aload_n 0, 1)), rfl⟩
theorem dL_law_714 {nm : String} : pm_dec (mL_law nm) 714 (.iload_n 3, 1) 715 := ⟨(by decide +kernel : decode code 714 = .ok (.iload_n 3, 1)), rfl⟩
theorem dL_law_715 {nm : String} : pm_dec (mL_law nm) 715 (.iconst 2, 1) 716 := ⟨(by decide +kernel : decode code 715 = .ok (.iconst 2, 1)), rfl⟩
theorem dL_law_716 {nm : String} : pm_dec (mL_law nm) 716 (.iadd, 1) 717 := ⟨(by decide +kernel : decode code 716 = .ok (.iadd, 1)), rfl⟩
theorem dL_law_717 {nm : String} : pm_dec (mL_law nm) 717 (.iaload, 1) 718 := ⟨(by decide +kernel : decode code 717 = .ok (.iaload, 1)), rfl⟩
theorem dL_law_718 {nm : String} : pm_dec (mL_law nm) 718 (.aload_n 0, 1) 719 := ⟨(by decide +kernel : decode code 718 = .ok (.aload_n 0, 1)), rfl⟩
theorem dL_law_719 {nm : String} : pm_dec (mL_law nm) 719 (.iload_n 3, 1) 720 := ⟨(by decide +kernel : decode code 719 = .ok (.iload_n 3, 1)), rfl⟩
theorem dL_law_720 {nm : String} : pm_dec (mL_law nm) 720 (.iconst 3, 1) 721 := ⟨(by decide +kernel : decode code 720 = .ok (.iconst 3, 1)), rfl⟩
theorem dL_law_721 {nm : String} : pm_dec (mL_law nm) 721 (.iadd, 1) 722 := ⟨(by decide +kernel : decode code 721 = .ok (.iadd, 1)), rfl⟩
theorem dL_law_722 {nm : String} : pm_dec (mL_law nm) 722 (.iaload, 1) 723 := ⟨(by decide +kernel : decode code 722 = .ok (.iaload, 1)), rfl⟩
theorem dL_law_723 {nm : String} : pm_dec (mL_law nm) 723 (.invokevirtual 70, 3) 726 := ⟨(by decide +kernel : decode code 723 = .ok (.invokevirtual 70, 3)), rfl⟩
theorem dL_law_726 {nm : String} : pm_dec (mL_law nm) 726 (.aload_n 2, 1) 727 := ⟨(by decide +kernel : decode code 726 = .ok (.aload_n 2, 1)), rfl⟩
theorem dL_law_727 {nm : String} : pm_dec (mL_law nm) 727 (.aload_n 0, 1) 728 := ⟨(by decide +kernel : decode code 727 = .ok (.aload_n 0, 1)), rfl⟩
theorem dL_law_728 {nm : String} : pm_dec (mL_law nm) 728 (.iload_n 3, 1) 729 := ⟨(by decide +kernel : decode code 728 = .ok (.iload_n 3, 1)), rfl⟩
theorem dL_law_729 {nm : String} : pm_dec (mL_law nm) 729 (.iconst 1, 1) 730 := ⟨(by decide +kernel : decode code 729 = .ok (.iconst 1, 1)), rfl⟩
theorem dL_law_730 {nm : String} : pm_dec (mL_law nm) 730 (.iadd, 1) 731 := ⟨(by decide +kernel : decode code 730 = .ok (.iadd, 1)), rfl⟩
theorem dL_law_731 {nm : String} : pm_dec (mL_law nm) 731 (.iaload, 1) 732 := ⟨(by decide +kernel : decode code 731 = .ok (.iaload, 1)), rfl⟩
theorem dL_law_732 {nm : String} : pm_dec (mL_law nm) 732 (.aload_n 0, 1) 733 := ⟨(by decide +kernel : decode code 732 = .ok (.aload_n 0, 1)), rfl⟩
theorem dL_law_733 {nm : String} : pm_dec (mL_law nm) 733 (.iload_n 3, 1) 734 := ⟨(by decide +kernel : decode code 733 = .ok (.iload_n 3, 1)), rfl⟩
theorem dL_law_734 {nm : String} : pm_dec (mL_law nm) 734 (.iconst 2, 1) 735 := ⟨(by decide +kernel : decode code 734 = .ok (.iconst 2, 1)), rfl⟩
theorem dL_law_735 {nm : String} : pm_dec (mL_law nm) 735 (.iadd, 1) 736 := ⟨(by decide +kernel : decode code 735 = .ok (.iadd, 1)), rfl⟩
theorem dL_law_736 {nm : String} : pm_dec (mL_law nm) 736 (.iaload, 1) 737 := ⟨(by decide +kernel : decode code 736 = .ok (.iaload, 1)), rfl⟩
theorem dL_law_737 {nm : String} : pm_dec (mL_law nm) 737 (.aload_n 0, 1) 738 := ⟨(by decide +kernel : decode code 737 = .ok (.aload_n 0, 1)), rfl⟩
theorem dL_law_738 {nm : String} : pm_dec (mL_law nm) 738 (.iload_n 3, 1) 739 := ⟨(by decide +kernel : decode code 738 = .ok (.iload_n 3, 1)), rfl⟩
theorem dL_law_739 {nm : String} : pm_dec (mL_law nm) 739 (.iconst 3, 1) 740 := ⟨(by decide +kernel : decode code 739 = .ok (.iconst 3, 1)), rfl⟩
theorem dL_law_740 {nm : String} : pm_dec (mL_law nm) 740 (.iadd, 1) 741 := ⟨(by decide +kernel : decode code 740 = .ok (.iadd, 1)), rfl⟩
theorem dL_law_741 {nm : String} : pm_dec (mL_law nm) 741 (.iaload, 1) 742 := ⟨(by decide +kernel : decode code 741 = .ok (.iaload, 1)), rfl⟩
theorem dL_law_742 {nm : String} : pm_dec (mL_law nm) 742 (.invokevirtual 73, 3) 745 := ⟨(by decide +kernel : decode code 742 = .ok (.invokevirtual 73, 3)), rfl⟩
theorem dL_law_745 {nm : String} : pm_dec (mL_law nm) 745 (.if_icmp .eq 1360, 3) 748 := ⟨(by decide +kernel : decode code 745 = .ok (.if_icmp .eq 1360, 3)), rfl⟩
theorem dL_law_750 {nm : String} : pm_dec (mL_law nm) 750 (.aload_n 1, 1) 751 := ⟨(by decide +kernel : decode code 750 = .ok (.aload_n 1, 1)), rfl⟩
theorem dL_law_751 {nm : String} : pm_dec (mL_law nm) 751 (.aload_n 0, 1) 752 := ⟨(by decide +kernel : decode code 751 = .ok (.aload_n 0, 1)), rfl⟩
theorem dL_law_752 {nm : String} : pm_dec (mL_law nm) 752 (.iload_n 3, 1) 753 := ⟨(by decide +kernel : decode code 752 = .ok (.iload_n 3, 1)), rfl⟩
theorem dL_law_753 {nm : String} : pm_dec (mL_law nm) 753 (.iconst 1, 1) 754 := ⟨(by decide +kernel : decode code 753 = .ok (.iconst 1, 1)), rfl⟩
theorem dL_law_754 {nm : String} : pm_dec (mL_law nm) 754 (.iadd, 1) 755 := ⟨(by decide +kernel : decode code 754 = .ok (.iadd, 1)), rfl⟩
theorem dL_law_755 {nm : String} : pm_dec (mL_law nm) 755 (.iaload, 1) 756 := ⟨(by decide +kernel : decode code 755 = .ok (.iaload, 1)), rfl⟩
theorem dL_law_756 {nm : String} : pm_dec (mL_law nm) 756 (.invokevirtual 74, 3) 759 := ⟨(by decide +kernel : decode code 756 = .ok (.invokevirtual 74, 3)), rfl⟩
theorem dL_law_759 {nm : String} : pm_dec (mL_law nm) 759 (.aload_n 2, 1) 760 := ⟨(by decide +kernel : decode code 759 = .ok (.aload_n 2, 1)), rfl⟩
theorem dL_law_760 {nm : String} : pm_dec (mL_law nm) 760 (.aload_n 0, 1) 761 := ⟨(by decide +kernel : decode code 760 = .ok (.aload_n 0, 1)), rfl⟩
theorem dL_law_761 {nm : String} : pm_dec (mL_law nm) 761 (.iload_n 3, 1) 762 := ⟨(by decide +kernel : decode code 761 = .ok (.iload_n 3, 1)), rfl⟩
theorem dL_law_762 {nm : String} : pm_dec (mL_law nm) 762 (.iconst 1, 1) 763 := ⟨(by decide +kernel : decode code 762 = .ok (.iconst 1, 1)), rfl⟩
theorem dL_law_763 {nm : String} : pm_dec (mL_law nm) 763 (.iadd, 1) 764 := ⟨(by decide +kernel : decode code 763 = .ok (.iadd, 1)), rfl⟩
theorem dL_law_764 {nm : String} : pm_dec (mL_law nm) 764 (.iaload, 1) 765 := ⟨(by decide +kernel : decode code 764 = .ok (.iaload, 1)), rfl⟩
theorem dL_law_765 {nm : String} : pm_dec (mL_law nm) 765 (.invokevirtual 77, 3) 768 := ⟨(by decide +kernel : decode code 765 = .ok (.invokevirtual 77, 3)), rfl⟩
theorem dL_law_768 {nm : String} : pm_dec (mL_law nm) 768 (.if_icmp .eq 1337, 3) 771 := ⟨(by decide +kernel : decode code 768 = .ok (.if_icmp .eq 1337, 3)), rfl⟩
theorem dL_law_773 {nm : String} : pm_dec (mL_law nm) 773 (.aload_n 1, 1) 774 := ⟨(by decide +kernel : decode code 773 = .ok (.aload_n 1, 1)), rfl⟩
theorem dL_law_774 {nm : String} : pm_dec (mL_law nm) 774 (.aload_n 0, 1) 775 := ⟨(by decide +kernel : decode code 774 = .ok (.aload_n 0, 1)), rfl⟩
theorem dL_law_775 {nm : String} : pm_dec (mL_law nm) 775 (.iload_n 3, 1) 776 := ⟨(by decide +kernel : decode code 775 = .ok (.iload_n 3, 1)), rfl⟩
theorem dL_law_776 {nm : String} : pm_dec (mL_law nm) 776 (.iconst 1, 1) 777 := ⟨(by decide +kernel : decode code 776 = .ok (.iconst 1, 1)), rfl⟩
theorem dL_law_777 {nm : String} : pm_dec (mL_law nm) 777 (.iadd, 1) 778 := ⟨(by decide +kernel : decode code 777 = .ok (.iadd, 1)), rfl⟩
theorem dL_law_778 {nm : String} : pm_dec (mL_law nm) 778 (.iaload, 1) 779 := ⟨(by decide +kernel : decode code 778 = .ok (.iaload, 1)), rfl⟩
theorem dL_law_779 {nm : String} : pm_dec (mL_law nm) 779 (.i2l, 1) 780 := ⟨(by decide +kernel : decode code 779 = .ok (.i2l, 1)), rfl⟩
theorem dL_law_780 {nm : String} : pm_dec (mL_law nm) 780 (.bipush 32, 2) 782 := ⟨(by decide +kernel : decode code 780 = .ok (.bipush 32, 2)), rfl⟩
theorem dL_law_782 {nm : String} : pm_dec (mL_law nm) 782 (.lshl, 1) 783 := ⟨(by decide +kernel : decode code 782 = .ok (.lshl, 1)), rfl⟩
theorem dL_law_783 {nm : String} : pm_dec (mL_law nm) 783 (.aload_n 0, 1) 784 := ⟨(by decide +kernel : decode code 783 = .ok (.aload_n 0, 1)), rfl⟩
theorem dL_law_784 {nm : String} : pm_dec (mL_law nm) 784 (.iload_n 3, 1) 785 := ⟨(by decide +kernel : decode code 784 = .ok (.iload_n 3, 1)), rfl⟩
theorem dL_law_785 {nm : String} : pm_dec (mL_law nm) 785 (.iconst 2, 1) 786 := ⟨(by decide +kernel : decode code 785 = .ok (.iconst 2, 1)), rfl⟩
theorem dL_law_786 {nm : String} : pm_dec (mL_law nm) 786 (.iadd, 1) 787 := ⟨(by decide +kernel : decode code 786 = .ok (.iadd, 1)), rfl⟩
theorem dL_law_787 {nm : String} : pm_dec (mL_law nm) 787 (.iaload, 1) 788 := ⟨(by decide +kernel : decode code 787 = .ok (.iaload, 1)), rfl⟩
theorem dL_law_788 {nm : String} : pm_dec (mL_law nm) 788 (.i2l, 1) 789 := ⟨(by decide +kernel : decode code 788 = .ok (.i2l, 1)), rfl⟩
theorem dL_law_789 {nm : String} : pm_dec (mL_law nm) 789 (.ldc2_w 78, 3) 792 := ⟨(by decide +kernel : decode code 789 = .ok (.ldc2_w 78, 3)), rfl⟩
theorem dL_law_792 {nm : String} : pm_dec (mL_law nm) 792 (.land, 1) 793 := ⟨(by decide +kernel : decode code 792 = .ok (.land, 1)), rfl⟩
theorem dL_law_793 {nm : String} : pm_dec (mL_law nm) 793 (.lor, 1) 794 := ⟨(by decide +kernel : decode code 793 = .ok (.lor, 1)), rfl⟩
theorem dL_law_794 {nm : String} : pm_dec (mL_law nm) 794 (.aload_n 0, 1) 795 := ⟨(by decide +kernel : decode code 794 = .ok (.aload_n 0, 1)), rfl⟩
theorem dL_law_795 {nm : String} : pm_dec (mL_law nm) 795 (.iload_n 3, 1) 796 := ⟨(by decide +kernel : decode code 795 = .ok (.iload_n 3, 1)), rfl⟩
theorem dL_law_796 {nm : String} : pm_dec (mL_law nm) 796 (.iconst 3, 1) 797 := ⟨(by decide +kernel : decode code 796 = .ok (.iconst 3, 1)), rfl⟩
theorem dL_law_797 {nm : String} : pm_dec (mL_law nm) 797 (.iadd, 1) 798 := ⟨(by decide +kernel : decode code 797 = .ok (.iadd, 1)), rfl⟩
theorem dL_law_798 {nm : String} : pm_dec (mL_law nm) 798 (.iaload, 1) 799 := ⟨(by decide +kernel : decode code 798 = .ok (.iaload, 1)), rfl⟩
theorem dL_law_799 {nm : String} : pm_dec (mL_law nm) 799 (.invokevirtual 80, 3) 802 := ⟨(by decide +kernel : decode code 799 = .ok (.invokevirtual 80, 3)), rfl⟩
theorem dL_law_802 {nm : String} : pm_dec (mL_law nm) 802 (.aload_n 2, 1) 803 := ⟨(by decide +kernel : decode code 802 = .ok (.aload_n 2, 1)), rfl⟩
theorem dL_law_803 {nm : String} : pm_dec (mL_law nm) 803 (.aload_n 0, 1) 804 := ⟨(by decide +kernel : decode code 803 = .ok (.aload_n 0, 1)), rfl⟩
theorem dL_law_804 {nm : String} : pm_dec (mL_law nm) 804 (.iload_n 3, 1) 805 := ⟨(by decide +kernel : decode code 804 = .ok (.iload_n 3, 1)), rfl⟩
theorem dL_law_805 {nm : String} : pm_dec (mL_law nm) 805 (.iconst 1, 1) 806 := ⟨(by decide +kernel : decode code 805 = .ok (.iconst 1, 1)), rfl⟩
theorem dL_law_806 {nm : String} : pm_dec (mL_law nm) 806 (.iadd, 1) 807 := ⟨(by decide +kernel : decode code 806 = .ok (.iadd, 1)), rfl⟩
theorem dL_law_807 {nm : String} : pm_dec (mL_law nm) 807 (.iaload, 1) 808 := ⟨(by decide +kernel : decode code 807 = .ok (.iaload, 1)), rfl⟩
theorem dL_law_808 {nm : String} : pm_dec (mL_law nm) 808 (.i2l, 1) 809 := ⟨(by decide +kernel : decode code 808 = .ok (.i2l, 1)), rfl⟩
theorem dL_law_809 {nm : String} : pm_dec (mL_law nm) 809 (.bipush 32, 2) 811 := ⟨(by decide +kernel : decode code 809 = .ok (.bipush 32, 2)), rfl⟩
theorem dL_law_811 {nm : String} : pm_dec (mL_law nm) 811 (.lshl, 1) 812 := ⟨(by decide +kernel : decode code 811 = .ok (.lshl, 1)), rfl⟩
theorem dL_law_812 {nm : String} : pm_dec (mL_law nm) 812 (.aload_n 0, 1) 813 := ⟨(by decide +kernel : decode code 812 = .ok (.aload_n 0, 1)), rfl⟩
theorem dL_law_813 {nm : String} : pm_dec (mL_law nm) 813 (.iload_n 3, 1) 814 := ⟨(by decide +kernel : decode code 813 = .ok (.iload_n 3, 1)), rfl⟩
theorem dL_law_814 {nm : String} : pm_dec (mL_law nm) 814 (.iconst 2, 1) 815 := ⟨(by decide +kernel : decode code 814 = .ok (.iconst 2, 1)), rfl⟩
theorem dL_law_815 {nm : String} : pm_dec (mL_law nm) 815 (.iadd, 1) 816 := ⟨(by decide +kernel : decode code 815 = .ok (.iadd, 1)), rfl⟩
theorem dL_law_816 {nm : String} : pm_dec (mL_law nm) 816 (.iaload, 1) 817 := ⟨(by decide +kernel : decode code 816 = .ok (.iaload, 1)), rfl⟩
theorem dL_law_817 {nm : String} : pm_dec (mL_law nm) 817 (.i2l, 1) 818 := ⟨(by decide +kernel : decode code 817 = .ok (.i2l, 1)), rfl⟩
theorem dL_law_818 {nm : String} : pm_dec (mL_law nm) 818 (.ldc2_w 78, 3) 821 := ⟨(by decide +kernel : decode code 818 = .ok (.ldc2_w 78, 3)), rfl⟩
theorem dL_law_821 {nm : String} : pm_dec (mL_law nm) 821 (.land, 1) 822 := ⟨(by decide +kernel : decode code 821 = .ok (.land, 1)), rfl⟩
theorem dL_law_822 {nm : String} : pm_dec (mL_law nm) 822 (.lor, 1) 823 := ⟨(by decide +kernel : decode code 822 = .ok (.lor, 1)), rfl⟩
theorem dL_law_823 {nm : String} : pm_dec (mL_law nm) 823 (.aload_n 0, 1) 824 := ⟨(by decide +kernel : decode code 823 = .ok (.aload_n 0, 1)), rfl⟩
theorem dL_law_824 {nm : String} : pm_dec (mL_law nm) 824 (.iload_n 3, 1) 825 := ⟨(by decide +kernel : decode code 824 = .ok (.iload_n 3, 1)), rfl⟩
theorem dL_law_825 {nm : String} : pm_dec (mL_law nm) 825 (.iconst 3, 1) 826 := ⟨(by decide +kernel : decode code 825 = .ok (.iconst 3, 1)), rfl⟩
theorem dL_law_826 {nm : String} : pm_dec (mL_law nm) 826 (.iadd, 1) 827 := ⟨(by decide +kernel : decode code 826 = .ok (.iadd, 1)), rfl⟩
theorem dL_law_827 {nm : String} : pm_dec (mL_law nm) 827 (.iaload, 1) 828 := ⟨(by decide +kernel : decode code 827 = .ok (.iaload, 1)), rfl⟩
theorem dL_law_828 {nm : String} : pm_dec (mL_law nm) 828 (.invokevirtual 84, 3) 831 := ⟨(by decide +kernel : decode code 828 = .ok (.invokevirtual 84, 3)), rfl⟩
theorem dL_law_831 {nm : String} : pm_dec (mL_law nm) 831 (.if_icmp .eq 1274, 3) 834 := ⟨(by decide +kernel : decode code 831 = .ok (.if_icmp .eq 1274, 3)), rfl⟩
theorem dL_law_836 {nm : String} : pm_dec (mL_law nm) 836 (.aload_n 1, 1) 837 := ⟨(by decide +kernel : decode code 836 = .ok (.aload_n 1, 1)), rfl⟩
theorem dL_law_837 {nm : String} : pm_dec (mL_law nm) 837 (.aload_n 0, 1) 838 := ⟨(by decide +kernel : decode code 837 = .ok (.aload_n 0, 1)), rfl⟩
theorem dL_law_838 {nm : String} : pm_dec (mL_law nm) 838 (.iload_n 3, 1) 839 := ⟨(by decide +kernel : decode code 838 = .ok (.iload_n 3, 1)), rfl⟩
theorem dL_law_839 {nm : String} : pm_dec (mL_law nm) 839 (.iconst 1, 1) 840 := ⟨(by decide +kernel : decode code 839 = .ok (.iconst 1, 1)), rfl⟩
theorem dL_law_840 {nm : String} : pm_dec (mL_law nm) 840 (.iadd, 1) 841 := ⟨(by decide +kernel : decode code 840 = .ok (.iadd, 1)), rfl⟩
theorem dL_law_841 {nm : String} : pm_dec (mL_law nm) 841 (.iaload, 1) 842 := ⟨(by decide +kernel : decode code 841 = .ok (.iaload, 1)), rfl⟩
theorem dL_law_842 {nm : String} : pm_dec (mL_law nm) 842 (.aload_n 0, 1) 843 := ⟨(by decide +kernel : decode code 842 = .ok (.aload_n 0, 1)), rfl⟩
theorem dL_law_843 {nm : String} : pm_dec (mL_law nm) 843 (.iload_n 3, 1) 844 := ⟨(by decide +kernel : decode code 843 = .ok (.iload_n 3, 1)), rfl⟩
theorem dL_law_844 {nm : String} : pm_dec (mL_law nm) 844 (.iconst 2, 1) 845 := ⟨(by decide +kernel : decode code 844 = .ok (.iconst 2, 1)), rfl⟩
theorem dL_law_845 {nm : String} : pm_dec (mL_law nm) 845 (.iadd, 1) 846 := ⟨(by decide +kernel : decode code 845 = .ok (.iadd, 1)), rfl⟩
theorem dL_law_846 {nm : String} : pm_dec (mL_law nm) 846 (.iaload, 1) 847 := ⟨(by decide +kernel : decode code 846 = .ok (.iaload, 1)), rfl⟩
theorem dL_law_847 {nm : String} : pm_dec (mL_law nm) 847 (.invokevirtual 85, 3) 850 := ⟨(by decide +kernel : decode code 847 = .ok (.invokevirtual 85, 3)), rfl⟩
theorem dL_law_850 {nm : String} : pm_dec (mL_law nm) 850 (.aload_n 2, 1) 851 := ⟨(by decide +kernel : decode code 850 = .ok (.aload_n 2, 1)), rfl⟩
theorem dL_law_851 {nm : String} : pm_dec (mL_law nm) 851 (.aload_n 0, 1) 852 := ⟨(by decide +kernel : decode code 851 = .ok (.aload_n 0, 1)), rfl⟩
theorem dL_law_852 {nm : String} : pm_dec (mL_law nm) 852 (.iload_n 3, 1) 853 := ⟨(by decide +kernel : decode code 852 = .ok (.iload_n 3, 1)), rfl⟩
theorem dL_law_853 {nm : String} : pm_dec (mL_law nm) 853 (.iconst 1, 1) 854 := ⟨(by decide +kernel : decode code 853 = .ok (.iconst 1, 1)), rfl⟩
