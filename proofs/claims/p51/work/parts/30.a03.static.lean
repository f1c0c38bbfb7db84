theorem dL_law_738 {nm : String} : pm_dec (mL_law nm) 738 (.aload_n 0, 1) 739 := ⟨(by decide +kernel : decode code 738 = .ok (.aload_n 0, 1)), rfl⟩
theorem dL_law_739 {nm : String} : pm_dec (mL_law nm) 739 (.iload_n 3, 1) 740 := ⟨(by decide +kernel : decode code 739 = .ok (.iload_n 3, 1)), rfl⟩
theorem dL_law_740 {nm : String} : pm_dec (mL_law nm) 740 (.iconst 3, 1) 741 := ⟨(by decide +kernel : decode code 740 = .ok (.iconst 3, 1)), rfl⟩
theorem dL_law_741 {nm : String} : pm_dec (mL_law nm) 741 (.iadd, 1) 742 := ⟨(by decide +kernel : decode code 741 = .ok (.iadd, 1)), rfl⟩
theorem dL_law_742 {nm : String} : pm_dec (mL_law nm) 742 (.iaload, 1) 743 := ⟨(by decide +kernel : decode code 742 = .ok (.iaload, 1)), rfl⟩
theorem dL_law_743 {nm : String} : pm_dec (mL_law nm) 743 (.invokevirtual 73, 3) 746 := ⟨(by decide +kernel : decode code 743 = .ok (.invokevirtual 73, 3)), rfl⟩
theorem dL_law_746 {nm : String} : pm_dec (mL_law nm) 746 (.pop, 1) 747 := ⟨(by decide +kernel : decode code 746 = .ok (.pop, 1)), rfl⟩
theorem dL_law_747 {nm : String} : pm_dec (mL_law nm) 747 (.goto 1358, 3) 750 := ⟨(by decide +kernel : decode code 747 = .ok (.goto 1358, 3)), rfl⟩
theorem dL_law_750 {nm : String} : pm_dec (mL_law nm) 750 (.aload_n 1, 1) 751 := ⟨(by decide +kernel : decode code 750 = .ok (.aload_n 1, 1)), rfl⟩
theorem dL_law_751 {nm : String} : pm_dec (mL_law nm) 751 (.aload_n 0, 1) 752 := ⟨(by decide +kernel : decode code 751 = .ok (.aload_n 0, 1)), rfl⟩
theorem dL_law_752 {nm : String} : pm_dec (mL_law nm) 752 (.iload_n 3, 1) 753 := ⟨(by decide +kernel : decode code 752 = .ok (.iload_n 3, 1)), rfl⟩
theorem dL_law_753 {nm : String} : pm_dec (mL_law nm) 753 (.iconst 1, 1) 754 := ⟨(by decide +kernel : decode code 753 = .ok (.iconst 1, 1)), rfl⟩
theorem dL_law_754 {nm : String} : pm_dec (mL_law nm) 754 (.iadd, 1) 755 := ⟨(by decide +kernel : decode code 754 = .ok (.iadd, 1)), rfl⟩
theorem dL_law_755 {nm : String} : pm_dec (mL_law nm) 755 (.iaload, 1) 756 := ⟨(by decide +kernel : decode code 755 = .ok (.iaload, 1)), rfl⟩
theorem dL_law_756 {nm : String} : pm_dec (mL_law nm) 756 (.invokevirtual 74, 3) 759 := ⟨(by decide +kernel : decode code 756 = .ok (.invokevirtual 74, 3)), rfl⟩
theorem dL_law_759 {nm : String} : pm_dec (mL_law nm) 759 (.pop, 1) 760 := ⟨(by decide +kernel : decode code 759 = .ok (.pop, 1)), rfl⟩
theorem dL_law_760 {nm : String} : pm_dec (mL_law nm) 760 (.aload_n 2, 1) 761 := ⟨(by decide +kernel : decode code 760 = .ok (.aload_n 2, 1)), rfl⟩
theorem dL_law_761 {nm : String} : pm_dec (mL_law nm) 761 (.aload_n 0, 1) 762 := ⟨(by decide +kernel : decode code 761 = .ok (.aload_n 0, 1)), rfl⟩
theorem dL_law_762 {nm : String} : pm_dec (mL_law nm) 762 (.iload_n 3, 1) 763 := ⟨(by decide +kernel : decode code 762 = .ok (.iload_n 3, 1)), rfl⟩
theorem dL_law_763 {nm : String} : pm_dec (mL_law nm) 763 (.iconst 1, 1) 764 := ⟨(by decide +kernel : decode code 763 = .ok (.iconst 1, 1)), rfl⟩
theorem dL_law_764 {nm : String} : pm_dec (mL_law nm) 764 (.iadd, 1) 765 := ⟨(by decide +kernel : decode code 764 = .ok (.iadd, 1)), rfl⟩
theorem dL_law_765 {nm : String} : pm_dec (mL_law nm) 765 (.iaload, 1) 766 := ⟨(by decide +kernel : decode code 765 = .ok (.iaload, 1)), rfl⟩
theorem dL_law_766 {nm : String} : pm_dec (mL_law nm) 766 (.invokevirtual 77, 3) 769 := ⟨(by decide +kernel : decode code 766 = .ok (.invokevirtual 77, 3)), rfl⟩
theorem dL_law_769 {nm : String} : pm_dec (mL_law nm) 769 (.pop, 1) 770 := ⟨(by decide +kernel : decode code 769 = .ok (.pop, 1)), rfl⟩
theorem dL_law_770 {nm : String} : pm_dec (mL_law nm) 770 (.goto 1335, 3) 773 := ⟨(by decide +kernel : decode code 770 = .ok (.goto 1335, 3)), rfl⟩
theorem dL_law_773 {nm : String} : pm_dec (mL_law nm) 773 (.aload_n 1, 1) 774 := ⟨(by decide +kernel : decode code 773 = .ok (.aload_n 1, 1)), rfl⟩
theorem dL_law_774 {nm : String} : pm_dec (mL_law nm) 774 (.aload_n 0, 1) 775 := ⟨(by decide +kernel : decode code 774 = .ok (.aload_n 0, 1)), rfl⟩
theorem dL_law_775 {nm : String} : pm_dec (mL_law nm) 775 (.iload_n 3, 1) 776 := ⟨(by decide +kernel : decode code 775 = .ok (.iload_n 3, 1)), rfl⟩
theorem dL_law_776 {nm : String} : pm_dec (mL_law nm) 776 (.iconst 1, 1) 777 := ⟨(by decide +kernel : decode code 776 = .ok (.iconst 1, 1)), rfl⟩
theorem dL_law_777 {nm : String} : pm_dec (mL_law nm) 777 (.iadd, 1) 778 := ⟨(by decide +kernel : decode code 777 = .ok (.iadd, 1)), rfl⟩
theorem dL_law_778 {nm : String} : pm_dec (mL_law nm) 778 (.iaload, 1) 779 := ⟨(by decide +kernel : decode code 778 = .ok (.iaload, 1)), rfl⟩
theorem dL_law_779 {nm : String} : pm_dec (mL_law nm) 779 (.i2l, 1) 780 := ⟨(by decide +kernel : decode code 779 = .ok (.i2l, 1)), rfl⟩
theorem dL_law_780 {nm : String} : pm_dec (mL_law nm) 780 (.bipush 32, 2) 782 := ⟨(by decide +kernel : decode code 780 = .ok (.bipush 32, 2)), rfl⟩
theorem dL_law_782 {nm : String} : pm_dec (mL_law nm) 782 (.lshl, 1) 783 := ⟨(by decide +kernel : decode code 782 = .ok (.lshl, 1)), rfl⟩
theorem dL_law_783 {nm : String} : pm_dec (mL_law nm) 783 (.aload_n 0, 1) 784 := ⟨(by decide +kernel : decode code 783 = .ok (.aload_n 0, 1)), rfl⟩
theorem dL_law_784 {nm : String} : pm_dec (mL_law nm) 784 (.iload_n 3, 1) 785 := ⟨(by decide +kernel : decode code 784 = .ok (.iload_n 3, 1)), rfl⟩
theorem dL_law_785 {nm : String} : pm_dec (mL_law nm) 785 (.iconst 2, 1) 786 := ⟨(by decide +kernel : decode code 785 = .ok (.iconst 2, 1)), rfl⟩
theorem dL_law_786 {nm : String} : pm_dec (mL_law nm) 786 (.iadd, 1) 787 := ⟨(by decide +kernel : decode code 786 = .ok (.iadd, 1)), rfl⟩
theorem dL_law_787 {nm : String} : pm_dec (mL_law nm) 787 (.iaload, 1) 788 := ⟨(by decide +kernel : decode code 787 = .ok (.iaload, 1)), rfl⟩
theorem dL_law_788 {nm : String} : pm_dec (mL_law nm) 788 (.i2l, 1) 789 := ⟨(by decide +kernel : decode code 788 = .ok (.i2l, 1)), rfl⟩
theorem dL_law_789 {nm : String} : pm_dec (mL_law nm) 789 (.ldc2_w 78, 3) 792 := ⟨(by decide +kernel : decode code 789 = .ok (.ldc2_w 78, 3)), rfl⟩
theorem dL_law_792 {nm : String} : pm_dec (mL_law nm) 792 (.land, 1) 793 := ⟨(by decide +kernel : decode code 792 = .ok (.land, 1)), rfl⟩
theorem dL_law_793 {nm : String} : pm_dec (mL_law nm) 793 (.lor, 1) 794 := ⟨(by decide +kernel : decode code 793 = .ok (.lor, 1)), rfl⟩
theorem dL_law_794 {nm : String} : pm_dec (mL_law nm) 794 (.aload_n 0, 1) 795 := ⟨(by decide +kernel : decode code 794 = .ok (.aload_n 0, 1)), rfl⟩
theorem dL_law_795 {nm : String} : pm_dec (mL_law nm) 795 (.iload_n 3, 1) 796 := ⟨(by decide +kernel : decode code 795 = .ok (.iload_n 3, 1)), rfl⟩
theorem dL_law_796 {nm : String} : pm_dec (mL_law nm) 796 (.iconst 3, 1) 797 := ⟨(by decide +kernel : decode code 796 = .ok (.iconst 3, 1)), rfl⟩
theorem dL_law_797 {nm : String} : pm_dec (mL_law nm) 797 (.iadd, 1) 798 := ⟨(by decide +kernel : decode code 797 = .ok (.iadd, 1)), rfl⟩
theorem dL_law_798 {nm : String} : pm_dec (mL_law nm) 798 (.iaload, 1) 799 := ⟨(by decide +kernel : decode code 798 = .ok (.iaload, 1)), rfl⟩
theorem dL_law_799 {nm : String} : pm_dec (mL_law nm) 799 (.invokevirtual 80, 3) 802 := ⟨(by decide +kernel : decode code 799 = .ok (.invokevirtual 80, 3)), rfl⟩
theorem dL_law_802 {nm : String} : pm_dec (mL_law nm) 802 (.pop, 1) 803 := ⟨(by decide +kernel : decode code 802 = .ok (.pop, 1)), rfl⟩
theorem dL_law_803 {nm : String} : pm_dec (mL_law nm) 803 (.aload_n 2, 1) 804 := ⟨(by decide +kernel : decode code 803 = .ok (.aload_n 2, 1)), rfl⟩
theorem dL_law_804 {nm : String} : pm_dec (mL_law nm) 804 (.aload_n 0, 1) 805 := ⟨(by decide +kernel : decode code 804 = .ok (.aload_n 0, 1)), rfl⟩
theorem dL_law_805 {nm : String} : pm_dec (mL_law nm) 805 (.iload_n 3, 1) 806 := ⟨(by decide +kernel : decode code 805 = .ok (.iload_n 3, 1)), rfl⟩
theorem dL_law_806 {nm : String} : pm_dec (mL_law nm) 806 (.iconst 1, 1) 807 := ⟨(by decide +kernel : decode code 806 = .ok (.iconst 1, 1)), rfl⟩
theorem dL_law_807 {nm : String} : pm_dec (mL_law nm) 807 (.iadd, 1) 808 := ⟨(by decide +kernel : decode code 807 = .ok (.iadd, 1)), rfl⟩
theorem dL_law_808 {nm : String} : pm_dec (mL_law nm) 808 (.iaload, 1) 809 := ⟨(by decide +kernel : decode code 808 = .ok (.iaload, 1)), rfl⟩
theorem dL_law_809 {nm : String} : pm_dec (mL_law nm) 809 (.i2l, 1) 810 := ⟨(by decide +kernel : decode code 809 = .ok (.i2l, 1)), rfl⟩
theorem dL_law_810 {nm : String} : pm_dec (mL_law nm) 810 (.bipush 32, 2) 812 := ⟨(by decide +kernel : decode code 810 = .ok (.bipush 32, 2)), rfl⟩
theorem dL_law_812 {nm : String} : pm_dec (mL_law nm) 812 (.lshl, 1) 813 := ⟨(by decide +kernel : decode code 812 = .ok (.lshl, 1)), rfl⟩
theorem dL_law_813 {nm : String} : pm_dec (mL_law nm) 813 (.aload_n 0, 1) 814 := ⟨(by decide +kernel : decode code 813 = .ok (.aload_n 0, 1)), rfl⟩
theorem dL_law_814 {nm : String} : pm_dec (mL_law nm) 814 (.iload_n 3, 1) 815 := ⟨(by decide +kernel : decode code 814 = .ok (.iload_n 3, 1)), rfl⟩
theorem dL_law_815 {nm : String} : pm_dec (mL_law nm) 815 (.iconst 2, 1) 816 := ⟨(by decide +kernel : decode code 815 = .ok (.iconst 2, 1)), rfl⟩
theorem dL_law_816 {nm : String} : pm_dec (mL_law nm) 816 (.iadd, 1) 817 := ⟨(by decide +kernel : decode code 816 = .ok (.iadd, 1)), rfl⟩
theorem dL_law_817 {nm : String} : pm_dec (mL_law nm) 817 (.iaload, 1) 818 := ⟨(by decide +kernel : decode code 817 = .ok (.iaload, 1)), rfl⟩
theorem dL_law_818 {nm : String} : pm_dec (mL_law nm) 818 (.i2l, 1) 819 := ⟨(by decide +kernel : decode code 818 = .ok (.i2l, 1)), rfl⟩
theorem dL_law_819 {nm : String} : pm_dec (mL_law nm) 819 (.ldc2_w 78, 3) 822 := ⟨(by decide +kernel : decode code 819 = .ok (.ldc2_w 78, 3)), rfl⟩
theorem dL_law_822 {nm : String} : pm_dec (mL_law nm) 822 (.land, 1) 823 := ⟨(by decide +kernel : decode code 822 = .ok (.land, 1)), rfl⟩
theorem dL_law_823 {nm : String} : pm_dec (mL_law nm) 823 (.lor, 1) 824 := ⟨(by decide +kernel : decode code 823 = .ok (.lor, 1)), rfl⟩
theorem dL_law_824 {nm : String} : pm_dec (mL_law nm) 824 (.aload_n 0, 1) 825 := ⟨(by decide +kernel : decode code 824 = .ok (.aload_n 0, 1)), rfl⟩
theorem dL_law_825 {nm : String} : pm_dec (mL_law nm) 825 (.iload_n 3, 1) 826 := ⟨(by decide +kernel : decode code 825 = .ok (.iload_n 3, 1)), rfl⟩
theorem dL_law_826 {nm : String} : pm_dec (mL_law nm) 826 (.iconst 3, 1) 827 := ⟨(by decide +kernel : decode code 826 = .ok (.iconst 3, 1)), rfl⟩
theorem dL_law_827 {nm : String} : pm_dec (mL_law nm) 827 (.iadd, 1) 828 := ⟨(by decide +kernel : decode code 827 = .ok (.iadd, 1)), rfl⟩
theorem dL_law_828 {nm : String} : pm_dec (mL_law nm) 828 (.iaload, 1) 829 := ⟨(by decide +kernel : decode code 828 = .ok (.iaload, 1)), rfl⟩
theorem dL_law_829 {nm : String} : pm_dec (mL_law nm) 829 (.invokevirtual 84, 3) 832 := ⟨(by decide +kernel : decode code 829 = .ok (.invokevirtual 84, 3)), rfl⟩
theorem dL_law_832 {nm : String} : pm_dec (mL_law nm) 832 (.pop, 1) 833 := ⟨(by decide +kernel : decode code 832 = .ok (.pop, 1)), rfl⟩
theorem dL_law_833 {nm : String} : pm_dec (mL_law nm) 833 (.goto 1272, 3) 836 := ⟨(by decide +kernel : decode code 833 = .ok (.goto 1272, 3)), rfl⟩
theorem dL_law_836 {nm : String} : pm_dec (mL_law nm) 836 (.aload_n 1, 1) 837 := ⟨(by decide +kernel : decode code 836 = .ok (.aload_n 1, 1)), rfl⟩
theorem dL_law_837 {nm : String} : pm_dec (mL_law nm) 837 (.aload_n 0, 1) 838 := ⟨(by decide +kernel : decode code 837 = .ok (.aload_n 0, 1)), rfl⟩
theorem dL_law_838 {nm : String} : pm_dec (mL_law nm) 838 (.iload_n 3, 1) 839 := ⟨(by decide +kernel : decode code 838 = .ok (.iload_n 3, 1)), rfl⟩
theorem dL_law_839 {nm : String} : pm_dec (mL_law nm) 839 (.iconst 1, 1) 840 := ⟨(by decide +kernel : decode code 839 = .ok (.iconst 1, 1)), rfl⟩
theorem dL_law_840 {nm : String} : pm_dec (mL_law nm) 840 (.iadd, 1) 841 := ⟨(by decide +kernel : decode code 840 = .ok (.iadd, 1)), rfl⟩
theorem dL_law_841 {nm : String} : pm_dec (mL_law nm) 841 (.iaload, 1) 842 := ⟨(by decide +kernel : decode code 841 = .ok (.iaload, 1)), rfl⟩
theorem dL_law_842 {nm : String} : pm_dec (mL_law nm) 842 (.aload_n 0, 1) 843 := ⟨(by decide +kernel : decode code 842 = .ok (.aload_n 0, 1)), rfl⟩
theorem dL_law_843 {nm : String} : pm_dec (mL_law nm) 843 (.iload_n 3, 1) 844 := ⟨(by decide +kernel : decode code 843 = .ok (.iload_n 3, 1)), rfl⟩
theorem dL_law_844 {nm : String} : pm_dec (mL_law nm) 844 (.iconst 2, 1) 845 := ⟨(by decide +kernel : decode code 844 = .ok (.iconst 2, 1)), rfl⟩
theorem dL_law_845 {nm : String} : pm_dec (mL_law nm) 845 (.iadd, 1) 846 := ⟨(by decide +kernel : decode code 845 = .ok (.iadd, 1)), rfl⟩
theorem dL_law_846 {nm : String} : pm_dec (mL_law nm) 846 (.iaload, 1) 847 := ⟨(by decide +kernel : decode code 846 = .ok (.iaload, 1)), rfl⟩
theorem dL_law_847 {nm : String} : pm_dec (mL_law nm) 847 (.invokevirtual 85, 3) 850 := ⟨(by decide +kernel : decode code 847 = .ok (.invokevirtual 85, 3)), rfl⟩
theorem dL_law_850 {nm : String} : pm_dec (mL_law nm) 850 (.pop, 1) 851 := ⟨(by decide +kernel : decode code 850 = .ok (.pop, 1)), rfl⟩
theorem dL_law_851 {nm : String} : pm_dec (mL_law nm) 851 (.aload_n 2, 1) 852 := ⟨(by decide +kernel : decode code 851 = .ok (.aload_n 2, 1)), rfl⟩
theorem dL_law_852 {nm : String} : pm_dec (mL_law nm) 852 (.aload_n 0, 1) 853 := ⟨(by decide +kernel : decode code 852 = .ok (.aload_n 0, 1)), rfl⟩
theorem dL_law_853 {nm : String} : pm_dec (mL_law nm) 853 (.iload_n 3, 1) 854 := ⟨(by decide +kernel : decode code 853 = .ok (.iload_n 3, 1)), rfl⟩
theorem dL_law_854 {nm : String} : pm_dec (mL_law nm) 854 (.iconst 1, 1) 855 := ⟨(by decide +kernel : decode code 854 = .ok (.iconst 1, 1)), rfl⟩
theorem dL_law_855 {nm : String} : pm_dec (mL_law nm) 855 (.iadd, 1) 856 := ⟨(by decide +kernel : decode code 855 = .ok (.iadd, 1)), rfl⟩
theorem dL_law_856 {nm : String} : pm_dec (mL_law nm) 856 (.iaload, 1) 857 := ⟨(by decide +kernel : decode code 856 = .ok (.iaload, 1)), rfl⟩
theorem dL_law_857 {nm : String} : pm_dec (mL_law nm) 857 (.aload_n 0, 1) 858 := ⟨(by decide +kernel : decode code 857 = .ok (.aload_n 0, 1)), rfl⟩
theorem dL_law_858 {nm : String} : pm_dec (mL_law nm) 858 (.iload_n 3, 1) 859 := ⟨(by decide +kernel : decode code 858 = .ok (.iload_n 3, 1)), rfl⟩
theorem dL_law_859 {nm : String} : pm_dec (mL_law nm) 859 (.iconst 2, 1) 860 := ⟨(by decide +kernel : decode code 859 = .ok (.iconst 2, 1)), rfl⟩
theorem dL_law_860 {nm : String} : pm_dec (mL_law nm) 860 (.iadd, 1) 861 := ⟨(by decide +kernel : decode code 860 = .ok (.iadd, 1)), rfl⟩
theorem dL_law_861 {nm : String} : pm_dec (mL_law nm) 861 (.iaload, 1) 862 := ⟨(by decide +kernel : decode code 861 = .ok (.iaload, 1)), rfl⟩
theorem dL_law_862 {nm : String} : pm_dec (mL_law nm) 862 (.invokevirtual 88, 3) 865 := ⟨(by decide +kernel : decode code 862 = .ok (.invokevirtual 88, 3)), rfl⟩
theorem dL_law_865 {nm : String} : pm_dec (mL_law nm) 865 (.pop, 1) 866 := ⟨(by decide +kernel : decode code 865 = .ok (.pop, 1)), rfl⟩
theorem dL_law_866 {nm : String} : pm_dec (mL_law nm) 866 (.goto 1239, 3) 869 := ⟨(by decide +kernel : decode code 866 = .ok (.goto 1239, 3)), rfl⟩
theorem dL_law_869 {nm : String} : pm_dec (mL_law nm) 869 (.aload_n 1, 1) 870 := ⟨(by decide +kernel : decode code 869 = .ok (.aload_n 1, 1)), rfl⟩
theorem dL_law_870 {nm : String} : pm_dec (mL_law nm) 870 (.aload_n 0, 1) 871 := ⟨(by decide +kernel : decode code 870 = .ok (.aload_n 0, 1)), rfl⟩
theorem dL_law_871 {nm : String} : pm_dec (mL_law nm) 871 (.iload_n 3, 1) 872 := ⟨(by decide +kernel : decode code 871 = .ok (.iload_n 3, 1)), rfl⟩
theorem dL_law_872 {nm : String} : pm_dec (mL_law nm) 872 (.iconst 1, 1) 873 := ⟨(by decide +kernel : decode code 872 = .ok (.iconst 1, 1)), rfl⟩
theorem dL_law_873 {nm : String} : pm_dec (mL_law nm) 873 (.iadd, 1) 874 := ⟨(by decide +kernel : decode code 873 = .ok (.iadd, 1)), rfl⟩
theorem dL_law_874 {nm : String} : pm_dec (mL_law nm) 874 (.iaload, 1) 875 := ⟨(by decide +kernel : decode code 874 = .ok (.iaload, 1)), rfl⟩
theorem dL_law_875 {nm : String} : pm_dec (mL_law nm) 875 (.invokevirtual 89, 3) 878 := ⟨(by decide +kernel : decode code 875 = .ok (.invokevirtual 89, 3)), rfl⟩
theorem dL_law_878 {nm : String} : pm_dec (mL_law nm) 878 (.pop, 1) 879 := ⟨(by decide +kernel : decode code 878 = .ok (.pop, 1)), rfl⟩
theorem dL_law_879 {nm : String} : pm_dec (mL_law nm) 879 (.aload_n 2, 1) 880 := ⟨(by decide +kernel : decode code 879 = .ok (.aload_n 2, 1)), rfl⟩
theorem dL_law_880 {nm : String} : pm_dec (mL_law nm) 880 (.aload_n 0, 1) 881 := ⟨(by decide +kernel : decode code 880 = .ok (.aload_n 0, 1)), rfl⟩
theorem dL_law_881 {nm : String} : pm_dec (mL_law nm) 881 (.iload_n 3, 1) 882 := ⟨(by decide +kernel : decode code 881 = .ok (.iload_n 3, 1)), rfl⟩
theorem dL_law_882 {nm : String} : pm_dec (mL_law nm) 882 (.iconst 1, 1) 883 := ⟨(by decide +kernel : decode code 882 = .ok (.iconst 1, 1)), rfl⟩
theorem dL_law_883 {nm : String} : pm_dec (mL_law nm) 883 (.iadd, 1) 884 := ⟨(by decide +kernel : decode code 883 = .ok (.iadd, 1)), rfl⟩
theorem dL_law_884 {nm : String} : pm_dec (mL_law nm) 884 (.iaload, 1) 885 := ⟨(by decide +kernel : decode code 884 = .ok (.iaload, 1)), rfl⟩
theorem dL_law_885 {nm : String} : pm_dec (mL_law nm) 885 (.invokevirtual 92, 3) 888 := ⟨(by decide +kernel : decode code 885 = .ok (.invokevirtual 92, 3)), rfl⟩
theorem dL_law_888 {nm : String} : pm_dec (mL_law nm) 888 (.pop, 1) 889 := ⟨(by decide +kernel : decode code 888 = .ok (.pop, 1)), rfl⟩
theorem dL_law_889 {nm : String} : pm_dec (mL_law nm) 889 (.goto 1216, 3) 892 := ⟨(by decide +kernel : decode code 889 = .ok (.goto 1216, 3)), rfl⟩
theorem dL_law_892 {nm : String} : pm_dec (mL_law nm) 892 (.aload_n 1, 1) 893 := ⟨(by decide +kernel : decode code 892 = .ok (.aload_n 1, 1)), rfl⟩
theorem dL_law_893 {nm : String} : pm_dec (mL_law nm) 893 (.aload_n 0, 1) 894 := ⟨(by decide +kernel : decode code 893 = .ok (.aload_n 0, 1)), rfl⟩
theorem dL_law_894 {nm : String} : pm_dec (mL_law nm) 894 (.iload_n 3, 1) 895 := ⟨(by decide +kernel : decode code 894 = .ok (.iload_n 3, 1)), rfl⟩
theorem dL_law_895 {nm : String} : pm_dec (mL_law nm) 895 (.iconst 1, 1) 896 := ⟨(by decide +kernel : decode code 895 = .ok (.iconst 1, 1)), rfl⟩
theorem dL_law_896 {nm : String} : pm_dec (mL_law nm) 896 (.iadd, 1) 897 := ⟨(by decide +kernel : decode code 896 = .ok (.iadd, 1)), rfl⟩
theorem dL_law_897 {nm : String} : pm_dec (mL_law nm) 897 (.iaload, 1) 898 := ⟨(by decide +kernel : decode code 897 = .ok (.iaload, 1)), rfl⟩
theorem dL_law_898 {nm : String} : pm_dec (mL_law nm) 898 (.aload_n 0, 1) 899 := ⟨(by decide +kernel : decode code 898 = .ok (.aload_n 0, 1)), rfl⟩
theorem dL_law_899 {nm : String} : pm_dec (mL_law nm) 899 (.iload_n 3, 1) 900 := ⟨(by decide +kernel : decode code 899 = .ok (.iload_n 3, 1)), rfl⟩
theorem dL_law_900 {nm : String} : pm_dec (mL_law nm) 900 (.iconst 2, 1) 901 := ⟨(by decide +kernel : decode code 900 = .ok (.iconst 2, 1)), rfl⟩
theorem dL_law_901 {nm : String} : pm_dec (mL_law nm) 901 (.iadd, 1) 902 := ⟨(by decide +kernel : decode code 901 = .ok (.iadd, 1)), rfl⟩
