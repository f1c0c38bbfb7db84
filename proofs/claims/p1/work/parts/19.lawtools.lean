theorem lkL_13 (M : pm_M) (h : M.1.cls = RL) : pm_lk M 13 mX11_town := Or.inl (by rw [h]; exact (pm_in 506 (by decide +kernel) (by decide +kernel)))
theorem okV_X11_town : pm_mokV mX11_town 0 := ⟨⟨⟨(pm_in 509 (by decide +kernel) (by decide +kernel)), (pm_in 110 (by decide +kernel) (by decide +kernel))⟩, ⟨by decide +kernel, by decide +kernel, by decide +kernel⟩, by decide⟩, (pm_in 507 (by decide +kernel) (by decide +kernel)), (pm_in 508 (by decide +kernel) (by decide +kernel))⟩
theorem lkL_17 (M : pm_M) (h : M.1.cls = RL) : pm_lk M 17 mX12_town := Or.inl (by rw [h]; exact (pm_in 1551 (by decide +kernel) (by decide +kernel)))
theorem okV_X12_town : pm_mokV mX12_town 0 := ⟨⟨⟨(pm_in 1554 (by decide +kernel) (by decide +kernel)), (pm_in 124 (by decide +kernel) (by decide +kernel))⟩, ⟨by decide +kernel, by decide +kernel, by decide +kernel⟩, by decide⟩, (pm_in 1552 (by decide +kernel) (by decide +kernel)), (pm_in 1553 (by decide +kernel) (by decide +kernel))⟩
theorem lkL_18 (M : pm_M) (h : M.1.cls = RL) : pm_lk M 18 mX11_road := Or.inl (by rw [h]; exact (pm_in 531 (by decide +kernel) (by decide +kernel)))
theorem okV_X11_road : pm_mokV mX11_road 3 := ⟨⟨⟨(pm_in 534 (by decide +kernel) (by decide +kernel)), (pm_in 110 (by decide +kernel) (by decide +kernel))⟩, ⟨by decide +kernel, by decide +kernel, by decide +kernel⟩, by decide⟩, (pm_in 532 (by decide +kernel) (by decide +kernel)), (pm_in 533 (by decide +kernel) (by decide +kernel))⟩
theorem lkL_22 (M : pm_M) (h : M.1.cls = RL) : pm_lk M 22 mX12_road := Or.inl (by rw [h]; exact (pm_in 1560 (by decide +kernel) (by decide +kernel)))
theorem okV_X12_road : pm_mokV mX12_road 3 := ⟨⟨⟨(pm_in 1563 (by decide +kernel) (by decide +kernel)), (pm_in 124 (by decide +kernel) (by decide +kernel))⟩, ⟨by decide +kernel, by decide +kernel, by decide +kernel⟩, by decide⟩, (pm_in 1561 (by decide +kernel) (by decide +kernel)), (pm_in 1562 (by decide +kernel) (by decide +kernel))⟩
theorem lkL_23 (M : pm_M) (h : M.1.cls = RL) : pm_lk M 23 mX11_far := Or.inl (by rw [h]; exact (pm_in 556 (by decide +kernel) (by decide +kernel)))
theorem okV_X11_far : pm_mokV mX11_far 2 := ⟨⟨⟨(pm_in 559 (by decide +kernel) (by decide +kernel)), (pm_in 110 (by decide +kernel) (by decide +kernel))⟩, ⟨by decide +kernel, by decide +kernel, by decide +kernel⟩, by decide⟩, (pm_in 557 (by decide +kernel) (by decide +kernel)), (pm_in 558 (by decide +kernel) (by decide +kernel))⟩
theorem lkL_27 (M : pm_M) (h : M.1.cls = RL) : pm_lk M 27 mX12_far := Or.inl (by rw [h]; exact (pm_in 1571 (by decide +kernel) (by decide +kernel)))
theorem okV_X12_far : pm_mokV mX12_far 2 := ⟨⟨⟨(pm_in 1574 (by decide +kernel) (by decide +kernel)), (pm_in 124 (by decide +kernel) (by decide +kernel))⟩, ⟨by decide +kernel, by decide +kernel, by decide +kernel⟩, by decide⟩, (pm_in 1572 (by decide +kernel) (by decide +kernel)), (pm_in 1573 (by decide +kernel) (by decide +kernel))⟩
theorem lkL_28 (M : pm_M) (h : M.1.cls = RL) : pm_lk M 28 mX11_person := Or.inl (by rw [h]; exact (pm_in 565 (by decide +kernel) (by decide +kernel)))
theorem okV_X11_person : pm_mokV mX11_person 4 := ⟨⟨⟨(pm_in 568 (by decide +kernel) (by decide +kernel)), (pm_in 110 (by decide +kernel) (by decide +kernel))⟩, ⟨by decide +kernel, by decide +kernel, by decide +kernel⟩, by decide⟩, (pm_in 566 (by decide +kernel) (by decide +kernel)), (pm_in 567 (by decide +kernel) (by decide +kernel))⟩
theorem lkL_32 (M : pm_M) (h : M.1.cls = RL) : pm_lk M 32 mX12_person := Or.inl (by rw [h]; exact (pm_in 1583 (by decide +kernel) (by decide +kernel)))
theorem okV_X12_person : pm_mokV mX12_person 4 := ⟨⟨⟨(pm_in 1586 (by decide +kernel) (by decide +kernel)), (pm_in 124 (by decide +kernel) (by decide +kernel))⟩, ⟨by decide +kernel, by decide +kernel, by decide +kernel⟩, by decide⟩, (pm_in 1584 (by decide +kernel) (by decide +kernel)), (pm_in 1585 (by decide +kernel) (by decide +kernel))⟩
theorem lkL_33 (M : pm_M) (h : M.1.cls = RL) : pm_lk M 33 mX11_die := Or.inl (by rw [h]; exact (pm_in 586 (by decide +kernel) (by decide +kernel)))
theorem okV_X11_die : pm_mokV mX11_die 1 := ⟨⟨⟨(pm_in 589 (by decide +kernel) (by decide +kernel)), (pm_in 110 (by decide +kernel) (by decide +kernel))⟩, ⟨by decide +kernel, by decide +kernel, by decide +kernel⟩, by decide⟩, (pm_in 587 (by decide +kernel) (by decide +kernel)), (pm_in 588 (by decide +kernel) (by decide +kernel))⟩
theorem lkL_37 (M : pm_M) (h : M.1.cls = RL) : pm_lk M 37 mX12_die := Or.inl (by rw [h]; exact (pm_in 1603 (by decide +kernel) (by decide +kernel)))
theorem okV_X12_die : pm_mokV mX12_die 1 := ⟨⟨⟨(pm_in 1606 (by decide +kernel) (by decide +kernel)), (pm_in 124 (by decide +kernel) (by decide +kernel))⟩, ⟨by decide +kernel, by decide +kernel, by decide +kernel⟩, by decide⟩, (pm_in 1604 (by decide +kernel) (by decide +kernel)), (pm_in 1605 (by decide +kernel) (by decide +kernel))⟩
theorem lkL_38 (M : pm_M) (h : M.1.cls = RL) : pm_lk M 38 mX11_go := Or.inl (by rw [h]; exact (pm_in 632 (by decide +kernel) (by decide +kernel)))
theorem okV_X11_go : pm_mokV mX11_go 2 := ⟨⟨⟨(pm_in 635 (by decide +kernel) (by decide +kernel)), (pm_in 110 (by decide +kernel) (by decide +kernel))⟩, ⟨by decide +kernel, by decide +kernel, by decide +kernel⟩, by decide⟩, (pm_in 633 (by decide +kernel) (by decide +kernel)), (pm_in 634 (by decide +kernel) (by decide +kernel))⟩
theorem lkL_41 (M : pm_M) (h : M.1.cls = RL) : pm_lk M 41 mX12_go := Or.inl (by rw [h]; exact (pm_in 1635 (by decide +kernel) (by decide +kernel)))
theorem okV_X12_go : pm_mokV mX12_go 2 := ⟨⟨⟨(pm_in 1638 (by decide +kernel) (by decide +kernel)), (pm_in 124 (by decide +kernel) (by decide +kernel))⟩, ⟨by decide +kernel, by decide +kernel, by decide +kernel⟩, by decide⟩, (pm_in 1636 (by decide +kernel) (by decide +kernel)), (pm_in 1637 (by decide +kernel) (by decide +kernel))⟩
theorem lkL_42 (M : pm_M) (h : M.1.cls = RL) : pm_lk M 42 mX11_about := Or.inl (by rw [h]; exact (pm_in 646 (by decide +kernel) (by decide +kernel)))
theorem okV_X11_about : pm_mokV mX11_about 2 := ⟨⟨⟨(pm_in 649 (by decide +kernel) (by decide +kernel)), (pm_in 110 (by decide +kernel) (by decide +kernel))⟩, ⟨by decide +kernel, by decide +kernel, by decide +kernel⟩, by decide⟩, (pm_in 647 (by decide +kernel) (by decide +kernel)), (pm_in 648 (by decide +kernel) (by decide +kernel))⟩
theorem lkL_45 (M : pm_M) (h : M.1.cls = RL) : pm_lk M 45 mX12_about := Or.inl (by rw [h]; exact (pm_in 1643 (by decide +kernel) (by decide +kernel)))
theorem okV_X12_about : pm_mokV mX12_about 2 := ⟨⟨⟨(pm_in 1646 (by decide +kernel) (by decide +kernel)), (pm_in 124 (by decide +kernel) (by decide +kernel))⟩, ⟨by decide +kernel, by decide +kernel, by decide +kernel⟩, by decide⟩, (pm_in 1644 (by decide +kernel) (by decide +kernel)), (pm_in 1645 (by decide +kernel) (by decide +kernel))⟩
theorem lkL_46 (M : pm_M) (h : M.1.cls = RL) : pm_lk M 46 mX11_pay := Or.inl (by rw [h]; exact (pm_in 659 (by decide +kernel) (by decide +kernel)))
theorem okV_X11_pay : pm_mokV mX11_pay 2 := ⟨⟨⟨(pm_in 662 (by decide +kernel) (by decide +kernel)), (pm_in 110 (by decide +kernel) (by decide +kernel))⟩, ⟨by decide +kernel, by decide +kernel, by decide +kernel⟩, by decide⟩, (pm_in 660 (by decide +kernel) (by decide +kernel)), (pm_in 661 (by decide +kernel) (by decide +kernel))⟩
theorem lkL_49 (M : pm_M) (h : M.1.cls = RL) : pm_lk M 49 mX12_pay := Or.inl (by rw [h]; exact (pm_in 1655 (by decide +kernel) (by decide +kernel)))
theorem okV_X12_pay : pm_mokV mX12_pay 2 := ⟨⟨⟨(pm_in 1658 (by decide +kernel) (by decide +kernel)), (pm_in 124 (by decide +kernel) (by decide +kernel))⟩, ⟨by decide +kernel, by decide +kernel, by decide +kernel⟩, by decide⟩, (pm_in 1656 (by decide +kernel) (by decide +kernel)), (pm_in 1657 (by decide +kernel) (by decide +kernel))⟩
theorem lkL_50 (M : pm_M) (h : M.1.cls = RL) : pm_lk M 50 mX11_men := Or.inl (by rw [h]; exact (pm_in 671 (by decide +kernel) (by decide +kernel)))
theorem okV_X11_men : pm_mokV mX11_men 2 := ⟨⟨⟨(pm_in 674 (by decide +kernel) (by decide +kernel)), (pm_in 110 (by decide +kernel) (by decide +kernel))⟩, ⟨by decide +kernel, by decide +kernel, by decide +kernel⟩, by decide⟩, (pm_in 672 (by decide +kernel) (by decide +kernel)), (pm_in 673 (by decide +kernel) (by decide +kernel))⟩
theorem lkL_53 (M : pm_M) (h : M.1.cls = RL) : pm_lk M 53 mX12_men := Or.inl (by rw [h]; exact (pm_in 1659 (by decide +kernel) (by decide +kernel)))
theorem okV_X12_men : pm_mokV mX12_men 2 := ⟨⟨⟨(pm_in 1662 (by decide +kernel) (by decide +kernel)), (pm_in 124 (by decide +kernel) (by decide +kernel))⟩, ⟨by decide +kernel, by decide +kernel, by decide +kernel⟩, by decide⟩, (pm_in 1660 (by decide +kernel) (by decide +kernel)), (pm_in 1661 (by decide +kernel) (by decide +kernel))⟩
theorem lkL_54 (M : pm_M) (h : M.1.cls = RL) : pm_lk M 54 mX11_power := Or.inl (by rw [h]; exact (pm_in 676 (by decide +kernel) (by decide +kernel)))
theorem okV_X11_power : pm_mokV mX11_power 3 := ⟨⟨⟨(pm_in 679 (by decide +kernel) (by decide +kernel)), (pm_in 110 (by decide +kernel) (by decide +kernel))⟩, ⟨by decide +kernel, by decide +kernel, by decide +kernel⟩, by decide⟩, (pm_in 677 (by decide +kernel) (by decide +kernel)), (pm_in 678 (by decide +kernel) (by decide +kernel))⟩
theorem lkL_57 (M : pm_M) (h : M.1.cls = RL) : pm_lk M 57 mX12_power := Or.inl (by rw [h]; exact (pm_in 1663 (by decide +kernel) (by decide +kernel)))
theorem okV_X12_power : pm_mokV mX12_power 3 := ⟨⟨⟨(pm_in 1666 (by decide +kernel) (by decide +kernel)), (pm_in 124 (by decide +kernel) (by decide +kernel))⟩, ⟨by decide +kernel, by decide +kernel, by decide +kernel⟩, by decide⟩, (pm_in 1664 (by decide +kernel) (by decide +kernel)), (pm_in 1665 (by decide +kernel) (by decide +kernel))⟩
theorem lkL_58 (M : pm_M) (h : M.1.cls = RL) : pm_lk M 58 mX11_as := Or.inl (by rw [h]; exact (pm_in 688 (by decide +kernel) (by decide +kernel)))
theorem okV_X11_as : pm_mokV mX11_as 2 := ⟨⟨⟨(pm_in 691 (by decide +kernel) (by decide +kernel)), (pm_in 110 (by decide +kernel) (by decide +kernel))⟩, ⟨by decide +kernel, by decide +kernel, by decide +kernel⟩, by decide⟩, (pm_in 689 (by decide +kernel) (by decide +kernel)), (pm_in 690 (by decide +kernel) (by decide +kernel))⟩
theorem lkL_61 (M : pm_M) (h : M.1.cls = RL) : pm_lk M 61 mX12_as := Or.inl (by rw [h]; exact (pm_in 1671 (by decide +kernel) (by decide +kernel)))
theorem okV_X12_as : pm_mokV mX12_as 2 := ⟨⟨⟨(pm_in 1674 (by decide +kernel) (by decide +kernel)), (pm_in 124 (by decide +kernel) (by decide +kernel))⟩, ⟨by decide +kernel, by decide +kernel, by decide +kernel⟩, by decide⟩, (pm_in 1672 (by decide +kernel) (by decide +kernel)), (pm_in 1673 (by decide +kernel) (by decide +kernel))⟩
theorem lkL_62 (M : pm_M) (h : M.1.cls = RL) : pm_lk M 62 mX11_held := Or.inl (by rw [h]; exact (pm_in 699 (by decide +kernel) (by decide +kernel)))
theorem okV_X11_held : pm_mokV mX11_held 2 := ⟨⟨⟨(pm_in 702 (by decide +kernel) (by decide +kernel)), (pm_in 110 (by decide +kernel) (by decide +kernel))⟩, ⟨by decide +kernel, by decide +kernel, by decide +kernel⟩, by decide⟩, (pm_in 700 (by decide +kernel) (by decide +kernel)), (pm_in 701 (by decide +kernel) (by decide +kernel))⟩
theorem lkL_65 (M : pm_M) (h : M.1.cls = RL) : pm_lk M 65 mX12_held := Or.inl (by rw [h]; exact (pm_in 1682 (by decide +kernel) (by decide +kernel)))
theorem okV_X12_held : pm_mokV mX12_held 2 := ⟨⟨⟨(pm_in 1685 (by decide +kernel) (by decide +kernel)), (pm_in 124 (by decide +kernel) (by decide +kernel))⟩, ⟨by decide +kernel, by decide +kernel, by decide +kernel⟩, by decide⟩, (pm_in 1683 (by decide +kernel) (by decide +kernel)), (pm_in 1684 (by decide +kernel) (by decide +kernel))⟩
theorem lkL_66 (M : pm_M) (h : M.1.cls = RL) : pm_lk M 66 mX11_give := Or.inl (by rw [h]; exact (pm_in 711 (by decide +kernel) (by decide +kernel)))
theorem okV_X11_give : pm_mokV mX11_give 2 := ⟨⟨⟨(pm_in 714 (by decide +kernel) (by decide +kernel)), (pm_in 110 (by decide +kernel) (by decide +kernel))⟩, ⟨by decide +kernel, by decide +kernel, by decide +kernel⟩, by decide⟩, (pm_in 712 (by decide +kernel) (by decide +kernel)), (pm_in 713 (by decide +kernel) (by decide +kernel))⟩
theorem lkL_69 (M : pm_M) (h : M.1.cls = RL) : pm_lk M 69 mX12_give := Or.inl (by rw [h]; exact (pm_in 1690 (by decide +kernel) (by decide +kernel)))
theorem okV_X12_give : pm_mokV mX12_give 2 := ⟨⟨⟨(pm_in 1693 (by decide +kernel) (by decide +kernel)), (pm_in 124 (by decide +kernel) (by decide +kernel))⟩, ⟨by decide +kernel, by decide +kernel, by decide +kernel⟩, by decide⟩, (pm_in 1691 (by decide +kernel) (by decide +kernel)), (pm_in 1692 (by decide +kernel) (by decide +kernel))⟩
theorem lkL_70 (M : pm_M) (h : M.1.cls = RL) : pm_lk M 70 mX11_lend := Or.inl (by rw [h]; exact (pm_in 717 (by decide +kernel) (by decide +kernel)))
theorem okV_X11_lend : pm_mokV mX11_lend 3 := ⟨⟨⟨(pm_in 720 (by decide +kernel) (by decide +kernel)), (pm_in 110 (by decide +kernel) (by decide +kernel))⟩, ⟨by decide +kernel, by decide +kernel, by decide +kernel⟩, by decide⟩, (pm_in 718 (by decide +kernel) (by decide +kernel)), (pm_in 719 (by decide +kernel) (by decide +kernel))⟩
theorem lkL_73 (M : pm_M) (h : M.1.cls = RL) : pm_lk M 73 mX12_lend := Or.inl (by rw [h]; exact (pm_in 1694 (by decide +kernel) (by decide +kernel)))
theorem okV_X12_lend : pm_mokV mX12_lend 3 := ⟨⟨⟨(pm_in 1697 (by decide +kernel) (by decide +kernel)), (pm_in 124 (by decide +kernel) (by decide +kernel))⟩, ⟨by decide +kernel, by decide +kernel, by decide +kernel⟩, by decide⟩, (pm_in 1695 (by decide +kernel) (by decide +kernel)), (pm_in 1696 (by decide +kernel) (by decide +kernel))⟩
theorem lkL_74 (M : pm_M) (h : M.1.cls = RL) : pm_lk M 74 mX11_copy := Or.inl (by rw [h]; exact (pm_in 722 (by decide +kernel) (by decide +kernel)))
theorem okV_X11_copy : pm_mokV mX11_copy 1 := ⟨⟨⟨(pm_in 725 (by decide +kernel) (by decide +kernel)), (pm_in 110 (by decide +kernel) (by decide +kernel))⟩, ⟨by decide +kernel, by decide +kernel, by decide +kernel⟩, by decide⟩, (pm_in 723 (by decide +kernel) (by decide +kernel)), (pm_in 724 (by decide +kernel) (by decide +kernel))⟩
theorem lkL_77 (M : pm_M) (h : M.1.cls = RL) : pm_lk M 77 mX12_copy := Or.inl (by rw [h]; exact (pm_in 1698 (by decide +kernel) (by decide +kernel)))
theorem okV_X12_copy : pm_mokV mX12_copy 1 := ⟨⟨⟨(pm_in 1701 (by decide +kernel) (by decide +kernel)), (pm_in 124 (by decide +kernel) (by decide +kernel))⟩, ⟨by decide +kernel, by decide +kernel, by decide +kernel⟩, by decide⟩, (pm_in 1699 (by decide +kernel) (by decide +kernel)), (pm_in 1700 (by decide +kernel) (by decide +kernel))⟩
theorem ctL_78 (M : pm_M) (h : M.1.cls = RL) : Cond.constantLong M.1.cls 78 (4294967295) ∈ pm_tbl := by rw [h]; exact (pm_in 2045 (by decide +kernel) (by decide +kernel))
theorem lkL_80 (M : pm_M) (h : M.1.cls = RL) : pm_lk M 80 mX11_feed := Or.inl (by rw [h]; exact (pm_in 732 (by decide +kernel) (by decide +kernel)))
theorem okV_X11_feed : pm_mokV mX11_feed 2 := ⟨⟨⟨(pm_in 735 (by decide +kernel) (by decide +kernel)), (pm_in 110 (by decide +kernel) (by decide +kernel))⟩, ⟨by decide +kernel, by decide +kernel, by decide +kernel⟩, by decide⟩, (pm_in 733 (by decide +kernel) (by decide +kernel)), (pm_in 734 (by decide +kernel) (by decide +kernel))⟩
theorem lkL_84 (M : pm_M) (h : M.1.cls = RL) : pm_lk M 84 mX12_feed := Or.inl (by rw [h]; exact (pm_in 1702 (by decide +kernel) (by decide +kernel)))
theorem okV_X12_feed : pm_mokV mX12_feed 2 := ⟨⟨⟨(pm_in 1705 (by decide +kernel) (by decide +kernel)), (pm_in 124 (by decide +kernel) (by decide +kernel))⟩, ⟨by decide +kernel, by decide +kernel, by decide +kernel⟩, by decide⟩, (pm_in 1703 (by decide +kernel) (by decide +kernel)), (pm_in 1704 (by decide +kernel) (by decide +kernel))⟩
theorem lkL_85 (M : pm_M) (h : M.1.cls = RL) : pm_lk M 85 mX11_law := Or.inl (by rw [h]; exact (pm_in 738 (by decide +kernel) (by decide +kernel)))
theorem okV_X11_law : pm_mokV mX11_law 2 := ⟨⟨⟨(pm_in 741 (by decide +kernel) (by decide +kernel)), (pm_in 110 (by decide +kernel) (by decide +kernel))⟩, ⟨by decide +kernel, by decide +kernel, by decide +kernel⟩, by decide⟩, (pm_in 739 (by decide +kernel) (by decide +kernel)), (pm_in 740 (by decide +kernel) (by decide +kernel))⟩
theorem lkL_88 (M : pm_M) (h : M.1.cls = RL) : pm_lk M 88 mX12_law := Or.inl (by rw [h]; exact (pm_in 1707 (by decide +kernel) (by decide +kernel)))
theorem okV_X12_law : pm_mokV mX12_law 2 := ⟨⟨⟨(pm_in 1710 (by decide +kernel) (by decide +kernel)), (pm_in 124 (by decide +kernel) (by decide +kernel))⟩, ⟨by decide +kernel, by decide +kernel, by decide +kernel⟩, by decide⟩, (pm_in 1708 (by decide +kernel) (by decide +kernel)), (pm_in 1709 (by decide +kernel) (by decide +kernel))⟩
theorem lkL_89 (M : pm_M) (h : M.1.cls = RL) : pm_lk M 89 mX11_strike := Or.inl (by rw [h]; exact (pm_in 886 (by decide +kernel) (by decide +kernel)))
theorem okV_X11_strike : pm_mokV mX11_strike 1 := ⟨⟨⟨(pm_in 889 (by decide +kernel) (by decide +kernel)), (pm_in 110 (by decide +kernel) (by decide +kernel))⟩, ⟨by decide +kernel, by decide +kernel, by decide +kernel⟩, by decide⟩, (pm_in 887 (by decide +kernel) (by decide +kernel)), (pm_in 888 (by decide +kernel) (by decide +kernel))⟩
theorem lkL_92 (M : pm_M) (h : M.1.cls = RL) : pm_lk M 92 mX12_strike := Or.inl (by rw [h]; exact (pm_in 1755 (by decide +kernel) (by decide +kernel)))
theorem okV_X12_strike : pm_mokV mX12_strike 1 := ⟨⟨⟨(pm_in 1758 (by decide +kernel) (by decide +kernel)), (pm_in 124 (by decide +kernel) (by decide +kernel))⟩, ⟨by decide +kernel, by decide +kernel, by decide +kernel⟩, by decide⟩, (pm_in 1756 (by decide +kernel) (by decide +kernel)), (pm_in 1757 (by decide +kernel) (by decide +kernel))⟩
theorem lkL_93 (M : pm_M) (h : M.1.cls = RL) : pm_lk M 93 mX11_force := Or.inl (by rw [h]; exact (pm_in 898 (by decide +kernel) (by decide +kernel)))
theorem okV_X11_force : pm_mokV mX11_force 3 := ⟨⟨⟨(pm_in 901 (by decide +kernel) (by decide +kernel)), (pm_in 110 (by decide +kernel) (by decide +kernel))⟩, ⟨by decide +kernel, by decide +kernel, by decide +kernel⟩, by decide⟩, (pm_in 899 (by decide +kernel) (by decide +kernel)), (pm_in 900 (by decide +kernel) (by decide +kernel))⟩
theorem lkL_96 (M : pm_M) (h : M.1.cls = RL) : pm_lk M 96 mX12_force := Or.inl (by rw [h]; exact (pm_in 1763 (by decide +kernel) (by decide +kernel)))
theorem okV_X12_force : pm_mokV mX12_force 3 := ⟨⟨⟨(pm_in 1766 (by decide +kernel) (by decide +kernel)), (pm_in 124 (by decide +kernel) (by decide +kernel))⟩, ⟨by decide +kernel, by decide +kernel, by decide +kernel⟩, by decide⟩, (pm_in 1764 (by decide +kernel) (by decide +kernel)), (pm_in 1765 (by decide +kernel) (by decide +kernel))⟩
theorem lkL_97 (M : pm_M) (h : M.1.cls = RL) : pm_lk M 97 mX11_says := Or.inl (by rw [h]; exact (pm_in 907 (by decide +kernel) (by decide +kernel)))
theorem okV_X11_says : pm_mokV mX11_says 3 := ⟨⟨⟨(pm_in 910 (by decide +kernel) (by decide +kernel)), (pm_in 110 (by decide +kernel) (by decide +kernel))⟩, ⟨by decide +kernel, by decide +kernel, by decide +kernel⟩, by decide⟩, (pm_in 908 (by decide +kernel) (by decide +kernel)), (pm_in 909 (by decide +kernel) (by decide +kernel))⟩
theorem lkL_100 (M : pm_M) (h : M.1.cls = RL) : pm_lk M 100 mX12_says := Or.inl (by rw [h]; exact (pm_in 1771 (by decide +kernel) (by decide +kernel)))
theorem okV_X12_says : pm_mokV mX12_says 3 := ⟨⟨⟨(pm_in 1774 (by decide +kernel) (by decide +kernel)), (pm_in 124 (by decide +kernel) (by decide +kernel))⟩, ⟨by decide +kernel, by decide +kernel, by decide +kernel⟩, by decide⟩, (pm_in 1772 (by decide +kernel) (by decide +kernel)), (pm_in 1773 (by decide +kernel) (by decide +kernel))⟩
theorem lkL_101 (M : pm_M) (h : M.1.cls = RL) : pm_lk M 101 mX11_draw := Or.inl (by rw [h]; exact (pm_in 940 (by decide +kernel) (by decide +kernel)))
theorem okV_X11_draw : pm_mokV mX11_draw 3 := ⟨⟨⟨(pm_in 943 (by decide +kernel) (by decide +kernel)), (pm_in 110 (by decide +kernel) (by decide +kernel))⟩, ⟨by decide +kernel, by decide +kernel, by decide +kernel⟩, by decide⟩, (pm_in 941 (by decide +kernel) (by decide +kernel)), (pm_in 942 (by decide +kernel) (by decide +kernel))⟩
theorem lkL_104 (M : pm_M) (h : M.1.cls = RL) : pm_lk M 104 mX12_draw := Or.inl (by rw [h]; exact (pm_in 1797 (by decide +kernel) (by decide +kernel)))
theorem okV_X12_draw : pm_mokV mX12_draw 3 := ⟨⟨⟨(pm_in 1800 (by decide +kernel) (by decide +kernel)), (pm_in 124 (by decide +kernel) (by decide +kernel))⟩, ⟨by decide +kernel, by decide +kernel, by decide +kernel⟩, by decide⟩, (pm_in 1798 (by decide +kernel) (by decide +kernel)), (pm_in 1799 (by decide +kernel) (by decide +kernel))⟩
theorem lkL_105 (M : pm_M) (h : M.1.cls = RL) : pm_lk M 105 mX11_press := Or.inl (by rw [h]; exact (pm_in 955 (by decide +kernel) (by decide +kernel)))
theorem okV_X11_press : pm_mokV mX11_press 2 := ⟨⟨⟨(pm_in 958 (by decide +kernel) (by decide +kernel)), (pm_in 110 (by decide +kernel) (by decide +kernel))⟩, ⟨by decide +kernel, by decide +kernel, by decide +kernel⟩, by decide⟩, (pm_in 956 (by decide +kernel) (by decide +kernel)), (pm_in 957 (by decide +kernel) (by decide +kernel))⟩
theorem lkL_108 (M : pm_M) (h : M.1.cls = RL) : pm_lk M 108 mX12_press := Or.inl (by rw [h]; exact (pm_in 1809 (by decide +kernel) (by decide +kernel)))
theorem okV_X12_press : pm_mokV mX12_press 2 := ⟨⟨⟨(pm_in 1812 (by decide +kernel) (by decide +kernel)), (pm_in 124 (by decide +kernel) (by decide +kernel))⟩, ⟨by decide +kernel, by decide +kernel, by decide +kernel⟩, by decide⟩, (pm_in 1810 (by decide +kernel) (by decide +kernel)), (pm_in 1811 (by decide +kernel) (by decide +kernel))⟩
theorem lkL_109 (M : pm_M) (h : M.1.cls = RL) : pm_lk M 109 mX11_send := Or.inl (by rw [h]; exact (pm_in 976 (by decide +kernel) (by decide +kernel)))
theorem okV_X11_send : pm_mokV mX11_send 2 := ⟨⟨⟨(pm_in 979 (by decide +kernel) (by decide +kernel)), (pm_in 110 (by decide +kernel) (by decide +kernel))⟩, ⟨by decide +kernel, by decide +kernel, by decide +kernel⟩, by decide⟩, (pm_in 977 (by decide +kernel) (by decide +kernel)), (pm_in 978 (by decide +kernel) (by decide +kernel))⟩
theorem lkL_112 (M : pm_M) (h : M.1.cls = RL) : pm_lk M 112 mX12_send := Or.inl (by rw [h]; exact (pm_in 1813 (by decide +kernel) (by decide +kernel)))
theorem okV_X12_send : pm_mokV mX12_send 2 := ⟨⟨⟨(pm_in 1816 (by decide +kernel) (by decide +kernel)), (pm_in 124 (by decide +kernel) (by decide +kernel))⟩, ⟨by decide +kernel, by decide +kernel, by decide +kernel⟩, by decide⟩, (pm_in 1814 (by decide +kernel) (by decide +kernel)), (pm_in 1815 (by decide +kernel) (by decide +kernel))⟩
theorem lkL_113 (M : pm_M) (h : M.1.cls = RL) : pm_lk M 113 mX11_open := Or.inl (by rw [h]; exact (pm_in 986 (by decide +kernel) (by decide +kernel)))
theorem okV_X11_open : pm_mokV mX11_open 1 := ⟨⟨⟨(pm_in 989 (by decide +kernel) (by decide +kernel)), (pm_in 110 (by decide +kernel) (by decide +kernel))⟩, ⟨by decide +kernel, by decide +kernel, by decide +kernel⟩, by decide⟩, (pm_in 987 (by decide +kernel) (by decide +kernel)), (pm_in 988 (by decide +kernel) (by decide +kernel))⟩
theorem lkL_116 (M : pm_M) (h : M.1.cls = RL) : pm_lk M 116 mX12_open := Or.inl (by rw [h]; exact (pm_in 1817 (by decide +kernel) (by decide +kernel)))
theorem okV_X12_open : pm_mokV mX12_open 1 := ⟨⟨⟨(pm_in 1820 (by decide +kernel) (by decide +kernel)), (pm_in 124 (by decide +kernel) (by decide +kernel))⟩, ⟨by decide +kernel, by decide +kernel, by decide +kernel⟩, by decide⟩, (pm_in 1818 (by decide +kernel) (by decide +kernel)), (pm_in 1819 (by decide +kernel) (by decide +kernel))⟩
theorem lkL_117 (M : pm_M) (h : M.1.cls = RL) : pm_lk M 117 mX11_obey := Or.inl (by rw [h]; exact (pm_in 1001 (by decide +kernel) (by decide +kernel)))
theorem okV_X11_obey : pm_mokV mX11_obey 1 := ⟨⟨⟨(pm_in 1004 (by decide +kernel) (by decide +kernel)), (pm_in 110 (by decide +kernel) (by decide +kernel))⟩, ⟨by decide +kernel, by decide +kernel, by decide +kernel⟩, by decide⟩, (pm_in 1002 (by decide +kernel) (by decide +kernel)), (pm_in 1003 (by decide +kernel) (by decide +kernel))⟩
theorem lkL_120 (M : pm_M) (h : M.1.cls = RL) : pm_lk M 120 mX12_obey := Or.inl (by rw [h]; exact (pm_in 1821 (by decide +kernel) (by decide +kernel)))
theorem okV_X12_obey : pm_mokV mX12_obey 1 := ⟨⟨⟨(pm_in 1824 (by decide +kernel) (by decide +kernel)), (pm_in 124 (by decide +kernel) (by decide +kernel))⟩, ⟨by decide +kernel, by decide +kernel, by decide +kernel⟩, by decide⟩, (pm_in 1822 (by decide +kernel) (by decide +kernel)), (pm_in 1823 (by decide +kernel) (by decide +kernel))⟩
theorem lkL_121 (M : pm_M) (h : M.1.cls = RL) : pm_lk M 121 mX11_letter := Or.inl (by rw [h]; exact (pm_in 1033 (by decide +kernel) (by decide +kernel)))
theorem okV_X11_letter : pm_mokV mX11_letter 2 := ⟨⟨⟨(pm_in 1036 (by decide +kernel) (by decide +kernel)), (pm_in 110 (by decide +kernel) (by decide +kernel))⟩, ⟨by decide +kernel, by decide +kernel, by decide +kernel⟩, by decide⟩, (pm_in 1034 (by decide +kernel) (by decide +kernel)), (pm_in 1035 (by decide +kernel) (by decide +kernel))⟩
theorem lkL_124 (M : pm_M) (h : M.1.cls = RL) : pm_lk M 124 mX12_letter := Or.inl (by rw [h]; exact (pm_in 1837 (by decide +kernel) (by decide +kernel)))
theorem okV_X12_letter : pm_mokV mX12_letter 2 := ⟨⟨⟨(pm_in 1840 (by decide +kernel) (by decide +kernel)), (pm_in 124 (by decide +kernel) (by decide +kernel))⟩, ⟨by decide +kernel, by decide +kernel, by decide +kernel⟩, by decide⟩, (pm_in 1838 (by decide +kernel) (by decide +kernel)), (pm_in 1839 (by decide +kernel) (by decide +kernel))⟩
theorem lkL_125 (M : pm_M) (h : M.1.cls = RL) : pm_lk M 125 mX11_days := Or.inl (by rw [h]; exact (pm_in 1037 (by decide +kernel) (by decide +kernel)))
theorem okV_X11_days : pm_mokV mX11_days 1 := ⟨⟨⟨(pm_in 1040 (by decide +kernel) (by decide +kernel)), (pm_in 110 (by decide +kernel) (by decide +kernel))⟩, ⟨by decide +kernel, by decide +kernel, by decide +kernel⟩, by decide⟩, (pm_in 1038 (by decide +kernel) (by decide +kernel)), (pm_in 1039 (by decide +kernel) (by decide +kernel))⟩
theorem lkL_128 (M : pm_M) (h : M.1.cls = RL) : pm_lk M 128 mX12_days := Or.inl (by rw [h]; exact (pm_in 1841 (by decide +kernel) (by decide +kernel)))
theorem okV_X12_days : pm_mokV mX12_days 1 := ⟨⟨⟨(pm_in 1844 (by decide +kernel) (by decide +kernel)), (pm_in 124 (by decide +kernel) (by decide +kernel))⟩, ⟨by decide +kernel, by decide +kernel, by decide +kernel⟩, by decide⟩, (pm_in 1842 (by decide +kernel) (by decide +kernel)), (pm_in 1843 (by decide +kernel) (by decide +kernel))⟩
theorem lkL_129 (M : pm_M) (h : M.1.cls = RL) : pm_lk M 129 mX11_rent := Or.inl (by rw [h]; exact (pm_in 1070 (by decide +kernel) (by decide +kernel)))
theorem okV_X11_rent : pm_mokV mX11_rent 2 := ⟨⟨⟨(pm_in 1073 (by decide +kernel) (by decide +kernel)), (pm_in 110 (by decide +kernel) (by decide +kernel))⟩, ⟨by decide +kernel, by decide +kernel, by decide +kernel⟩, by decide⟩, (pm_in 1071 (by decide +kernel) (by decide +kernel)), (pm_in 1072 (by decide +kernel) (by decide +kernel))⟩
theorem lkL_132 (M : pm_M) (h : M.1.cls = RL) : pm_lk M 132 mX12_rent := Or.inl (by rw [h]; exact (pm_in 1850 (by decide +kernel) (by decide +kernel)))
theorem okV_X12_rent : pm_mokV mX12_rent 2 := ⟨⟨⟨(pm_in 1853 (by decide +kernel) (by decide +kernel)), (pm_in 124 (by decide +kernel) (by decide +kernel))⟩, ⟨by decide +kernel, by decide +kernel, by decide +kernel⟩, by decide⟩, (pm_in 1851 (by decide +kernel) (by decide +kernel)), (pm_in 1852 (by decide +kernel) (by decide +kernel))⟩
theorem lkL_133 (M : pm_M) (h : M.1.cls = RL) : pm_lk M 133 mX11_own := Or.inl (by rw [h]; exact (pm_in 1075 (by decide +kernel) (by decide +kernel)))
theorem okV_X11_own : pm_mokV mX11_own 2 := ⟨⟨⟨(pm_in 1078 (by decide +kernel) (by decide +kernel)), (pm_in 110 (by decide +kernel) (by decide +kernel))⟩, ⟨by decide +kernel, by decide +kernel, by decide +kernel⟩, by decide⟩, (pm_in 1076 (by decide +kernel) (by decide +kernel)), (pm_in 1077 (by decide +kernel) (by decide +kernel))⟩
theorem lkL_136 (M : pm_M) (h : M.1.cls = RL) : pm_lk M 136 mX12_own := Or.inl (by rw [h]; exact (pm_in 1854 (by decide +kernel) (by decide +kernel)))
theorem okV_X12_own : pm_mokV mX12_own 2 := ⟨⟨⟨(pm_in 1857 (by decide +kernel) (by decide +kernel)), (pm_in 124 (by decide +kernel) (by decide +kernel))⟩, ⟨by decide +kernel, by decide +kernel, by decide +kernel⟩, by decide⟩, (pm_in 1855 (by decide +kernel) (by decide +kernel)), (pm_in 1856 (by decide +kernel) (by decide +kernel))⟩
theorem lkL_137 (M : pm_M) (h : M.1.cls = RL) : pm_lk M 137 mX11_rents := Or.inl (by rw [h]; exact (pm_in 1079 (by decide +kernel) (by decide +kernel)))
theorem okV_X11_rents : pm_mokV mX11_rents 2 := ⟨⟨⟨(pm_in 1082 (by decide +kernel) (by decide +kernel)), (pm_in 110 (by decide +kernel) (by decide +kernel))⟩, ⟨by decide +kernel, by decide +kernel, by decide +kernel⟩, by decide⟩, (pm_in 1080 (by decide +kernel) (by decide +kernel)), (pm_in 1081 (by decide +kernel) (by decide +kernel))⟩
theorem lkL_140 (M : pm_M) (h : M.1.cls = RL) : pm_lk M 140 mX12_rents := Or.inl (by rw [h]; exact (pm_in 1858 (by decide +kernel) (by decide +kernel)))
theorem okV_X12_rents : pm_mokV mX12_rents 2 := ⟨⟨⟨(pm_in 1861 (by decide +kernel) (by decide +kernel)), (pm_in 124 (by decide +kernel) (by decide +kernel))⟩, ⟨by decide +kernel, by decide +kernel, by decide +kernel⟩, by decide⟩, (pm_in 1859 (by decide +kernel) (by decide +kernel)), (pm_in 1860 (by decide +kernel) (by decide +kernel))⟩
theorem lkL_141 (M : pm_M) (h : M.1.cls = RL) : pm_lk M 141 mX11_debt := Or.inl (by rw [h]; exact (pm_in 1120 (by decide +kernel) (by decide +kernel)))
theorem okV_X11_debt : pm_mokV mX11_debt 3 := ⟨⟨⟨(pm_in 1123 (by decide +kernel) (by decide +kernel)), (pm_in 110 (by decide +kernel) (by decide +kernel))⟩, ⟨by decide +kernel, by decide +kernel, by decide +kernel⟩, by decide⟩, (pm_in 1121 (by decide +kernel) (by decide +kernel)), (pm_in 1122 (by decide +kernel) (by decide +kernel))⟩
theorem lkL_144 (M : pm_M) (h : M.1.cls = RL) : pm_lk M 144 mX12_debt := Or.inl (by rw [h]; exact (pm_in 1865 (by decide +kernel) (by decide +kernel)))
theorem okV_X12_debt : pm_mokV mX12_debt 3 := ⟨⟨⟨(pm_in 1868 (by decide +kernel) (by decide +kernel)), (pm_in 124 (by decide +kernel) (by decide +kernel))⟩, ⟨by decide +kernel, by decide +kernel, by decide +kernel⟩, by decide⟩, (pm_in 1866 (by decide +kernel) (by decide +kernel)), (pm_in 1867 (by decide +kernel) (by decide +kernel))⟩
theorem lkL_145 (M : pm_M) (h : M.1.cls = RL) : pm_lk M 145 mX11_owed := Or.inl (by rw [h]; exact (pm_in 1129 (by decide +kernel) (by decide +kernel)))
theorem okV_X11_owed : pm_mokV mX11_owed 2 := ⟨⟨⟨(pm_in 1132 (by decide +kernel) (by decide +kernel)), (pm_in 110 (by decide +kernel) (by decide +kernel))⟩, ⟨by decide +kernel, by decide +kernel, by decide +kernel⟩, by decide⟩, (pm_in 1130 (by decide +kernel) (by decide +kernel)), (pm_in 1131 (by decide +kernel) (by decide +kernel))⟩
theorem lkL_148 (M : pm_M) (h : M.1.cls = RL) : pm_lk M 148 mX12_owed := Or.inl (by rw [h]; exact (pm_in 1870 (by decide +kernel) (by decide +kernel)))
theorem okV_X12_owed : pm_mokV mX12_owed 2 := ⟨⟨⟨(pm_in 1873 (by decide +kernel) (by decide +kernel)), (pm_in 124 (by decide +kernel) (by decide +kernel))⟩, ⟨by decide +kernel, by decide +kernel, by decide +kernel⟩, by decide⟩, (pm_in 1871 (by decide +kernel) (by decide +kernel)), (pm_in 1872 (by decide +kernel) (by decide +kernel))⟩
theorem lkL_149 (M : pm_M) (h : M.1.cls = RL) : pm_lk M 149 mX11_seat := Or.inl (by rw [h]; exact (pm_in 1133 (by decide +kernel) (by decide +kernel)))
theorem okV_X11_seat : pm_mokV mX11_seat 2 := ⟨⟨⟨(pm_in 1136 (by decide +kernel) (by decide +kernel)), (pm_in 110 (by decide +kernel) (by decide +kernel))⟩, ⟨by decide +kernel, by decide +kernel, by decide +kernel⟩, by decide⟩, (pm_in 1134 (by decide +kernel) (by decide +kernel)), (pm_in 1135 (by decide +kernel) (by decide +kernel))⟩
theorem lkL_153 (M : pm_M) (h : M.1.cls = RL) : pm_lk M 153 mX12_seat := Or.inl (by rw [h]; exact (pm_in 1874 (by decide +kernel) (by decide +kernel)))
theorem okV_X12_seat : pm_mokV mX12_seat 2 := ⟨⟨⟨(pm_in 1877 (by decide +kernel) (by decide +kernel)), (pm_in 124 (by decide +kernel) (by decide +kernel))⟩, ⟨by decide +kernel, by decide +kernel, by decide +kernel⟩, by decide⟩, (pm_in 1875 (by decide +kernel) (by decide +kernel)), (pm_in 1876 (by decide +kernel) (by decide +kernel))⟩
theorem lkL_154 (M : pm_M) (h : M.1.cls = RL) : pm_lk M 154 mX11_promise := Or.inl (by rw [h]; exact (pm_in 1137 (by decide +kernel) (by decide +kernel)))
theorem okV_X11_promise : pm_mokV mX11_promise 4 := ⟨⟨⟨(pm_in 1140 (by decide +kernel) (by decide +kernel)), (pm_in 110 (by decide +kernel) (by decide +kernel))⟩, ⟨by decide +kernel, by decide +kernel, by decide +kernel⟩, by decide⟩, (pm_in 1138 (by decide +kernel) (by decide +kernel)), (pm_in 1139 (by decide +kernel) (by decide +kernel))⟩
theorem lkL_158 (M : pm_M) (h : M.1.cls = RL) : pm_lk M 158 mX12_promise := Or.inl (by rw [h]; exact (pm_in 1882 (by decide +kernel) (by decide +kernel)))
theorem okV_X12_promise : pm_mokV mX12_promise 4 := ⟨⟨⟨(pm_in 1885 (by decide +kernel) (by decide +kernel)), (pm_in 124 (by decide +kernel) (by decide +kernel))⟩, ⟨by decide +kernel, by decide +kernel, by decide +kernel⟩, by decide⟩, (pm_in 1883 (by decide +kernel) (by decide +kernel)), (pm_in 1884 (by decide +kernel) (by decide +kernel))⟩
theorem lkL_159 (M : pm_M) (h : M.1.cls = RL) : pm_lk M 159 mX11_breaks := Or.inl (by rw [h]; exact (pm_in 1146 (by decide +kernel) (by decide +kernel)))
theorem okV_X11_breaks : pm_mokV mX11_breaks 1 := ⟨⟨⟨(pm_in 1149 (by decide +kernel) (by decide +kernel)), (pm_in 110 (by decide +kernel) (by decide +kernel))⟩, ⟨by decide +kernel, by decide +kernel, by decide +kernel⟩, by decide⟩, (pm_in 1147 (by decide +kernel) (by decide +kernel)), (pm_in 1148 (by decide +kernel) (by decide +kernel))⟩
theorem lkL_162 (M : pm_M) (h : M.1.cls = RL) : pm_lk M 162 mX12_breaks := Or.inl (by rw [h]; exact (pm_in 1886 (by decide +kernel) (by decide +kernel)))
theorem okV_X12_breaks : pm_mokV mX12_breaks 1 := ⟨⟨⟨(pm_in 1889 (by decide +kernel) (by decide +kernel)), (pm_in 124 (by decide +kernel) (by decide +kernel))⟩, ⟨by decide +kernel, by decide +kernel, by decide +kernel⟩, by decide⟩, (pm_in 1887 (by decide +kernel) (by decide +kernel)), (pm_in 1888 (by decide +kernel) (by decide +kernel))⟩
theorem lkL_163 (M : pm_M) (h : M.1.cls = RL) : pm_lk M 163 mX11_cause := Or.inl (by rw [h]; exact (pm_in 1151 (by decide +kernel) (by decide +kernel)))
theorem okV_X11_cause : pm_mokV mX11_cause 2 := ⟨⟨⟨(pm_in 1154 (by decide +kernel) (by decide +kernel)), (pm_in 110 (by decide +kernel) (by decide +kernel))⟩, ⟨by decide +kernel, by decide +kernel, by decide +kernel⟩, by decide⟩, (pm_in 1152 (by decide +kernel) (by decide +kernel)), (pm_in 1153 (by decide +kernel) (by decide +kernel))⟩
theorem lkL_166 (M : pm_M) (h : M.1.cls = RL) : pm_lk M 166 mX12_cause := Or.inl (by rw [h]; exact (pm_in 1890 (by decide +kernel) (by decide +kernel)))
theorem okV_X12_cause : pm_mokV mX12_cause 2 := ⟨⟨⟨(pm_in 1893 (by decide +kernel) (by decide +kernel)), (pm_in 124 (by decide +kernel) (by decide +kernel))⟩, ⟨by decide +kernel, by decide +kernel, by decide +kernel⟩, by decide⟩, (pm_in 1891 (by decide +kernel) (by decide +kernel)), (pm_in 1892 (by decide +kernel) (by decide +kernel))⟩
theorem lkL_167 (M : pm_M) (h : M.1.cls = RL) : pm_lk M 167 mX11_price := Or.inl (by rw [h]; exact (pm_in 1188 (by decide +kernel) (by decide +kernel)))
theorem okV_X11_price : pm_mokV mX11_price 2 := ⟨⟨⟨(pm_in 1191 (by decide +kernel) (by decide +kernel)), (pm_in 110 (by decide +kernel) (by decide +kernel))⟩, ⟨by decide +kernel, by decide +kernel, by decide +kernel⟩, by decide⟩, (pm_in 1189 (by decide +kernel) (by decide +kernel)), (pm_in 1190 (by decide +kernel) (by decide +kernel))⟩
theorem lkL_170 (M : pm_M) (h : M.1.cls = RL) : pm_lk M 170 mX12_price := Or.inl (by rw [h]; exact (pm_in 1902 (by decide +kernel) (by decide +kernel)))
theorem okV_X12_price : pm_mokV mX12_price 2 := ⟨⟨⟨(pm_in 1905 (by decide +kernel) (by decide +kernel)), (pm_in 124 (by decide +kernel) (by decide +kernel))⟩, ⟨by decide +kernel, by decide +kernel, by decide +kernel⟩, by decide⟩, (pm_in 1903 (by decide +kernel) (by decide +kernel)), (pm_in 1904 (by decide +kernel) (by decide +kernel))⟩
theorem lkL_171 (M : pm_M) (h : M.1.cls = RL) : pm_lk M 171 mX11_buying := Or.inl (by rw [h]; exact (pm_in 1192 (by decide +kernel) (by decide +kernel)))
theorem okV_X11_buying : pm_mokV mX11_buying 2 := ⟨⟨⟨(pm_in 1195 (by decide +kernel) (by decide +kernel)), (pm_in 110 (by decide +kernel) (by decide +kernel))⟩, ⟨by decide +kernel, by decide +kernel, by decide +kernel⟩, by decide⟩, (pm_in 1193 (by decide +kernel) (by decide +kernel)), (pm_in 1194 (by decide +kernel) (by decide +kernel))⟩
theorem lkL_174 (M : pm_M) (h : M.1.cls = RL) : pm_lk M 174 mX12_buying := Or.inl (by rw [h]; exact (pm_in 1906 (by decide +kernel) (by decide +kernel)))
theorem okV_X12_buying : pm_mokV mX12_buying 2 := ⟨⟨⟨(pm_in 1909 (by decide +kernel) (by decide +kernel)), (pm_in 124 (by decide +kernel) (by decide +kernel))⟩, ⟨by decide +kernel, by decide +kernel, by decide +kernel⟩, by decide⟩, (pm_in 1907 (by decide +kernel) (by decide +kernel)), (pm_in 1908 (by decide +kernel) (by decide +kernel))⟩
theorem lkL_175 (M : pm_M) (h : M.1.cls = RL) : pm_lk M 175 mX11_guard := Or.inl (by rw [h]; exact (pm_in 1213 (by decide +kernel) (by decide +kernel)))
theorem okV_X11_guard : pm_mokV mX11_guard 2 := ⟨⟨⟨(pm_in 1216 (by decide +kernel) (by decide +kernel)), (pm_in 110 (by decide +kernel) (by decide +kernel))⟩, ⟨by decide +kernel, by decide +kernel, by decide +kernel⟩, by decide⟩, (pm_in 1214 (by decide +kernel) (by decide +kernel)), (pm_in 1215 (by decide +kernel) (by decide +kernel))⟩
theorem lkL_178 (M : pm_M) (h : M.1.cls = RL) : pm_lk M 178 mX12_guard := Or.inl (by rw [h]; exact (pm_in 1910 (by decide +kernel) (by decide +kernel)))
theorem okV_X12_guard : pm_mokV mX12_guard 2 := ⟨⟨⟨(pm_in 1913 (by decide +kernel) (by decide +kernel)), (pm_in 124 (by decide +kernel) (by decide +kernel))⟩, ⟨by decide +kernel, by decide +kernel, by decide +kernel⟩, by decide⟩, (pm_in 1911 (by decide +kernel) (by decide +kernel)), (pm_in 1912 (by decide +kernel) (by decide +kernel))⟩
theorem lkL_179 (M : pm_M) (h : M.1.cls = RL) : pm_lk M 179 mX11_night := Or.inl (by rw [h]; exact (pm_in 1217 (by decide +kernel) (by decide +kernel)))
theorem okV_X11_night : pm_mokV mX11_night 4 := ⟨⟨⟨(pm_in 1220 (by decide +kernel) (by decide +kernel)), (pm_in 110 (by decide +kernel) (by decide +kernel))⟩, ⟨by decide +kernel, by decide +kernel, by decide +kernel⟩, by decide⟩, (pm_in 1218 (by decide +kernel) (by decide +kernel)), (pm_in 1219 (by decide +kernel) (by decide +kernel))⟩
theorem lkL_182 (M : pm_M) (h : M.1.cls = RL) : pm_lk M 182 mX12_night := Or.inl (by rw [h]; exact (pm_in 1914 (by decide +kernel) (by decide +kernel)))
theorem okV_X12_night : pm_mokV mX12_night 4 := ⟨⟨⟨(pm_in 1917 (by decide +kernel) (by decide +kernel)), (pm_in 124 (by decide +kernel) (by decide +kernel))⟩, ⟨by decide +kernel, by decide +kernel, by decide +kernel⟩, by decide⟩, (pm_in 1915 (by decide +kernel) (by decide +kernel)), (pm_in 1916 (by decide +kernel) (by decide +kernel))⟩
theorem lkL_183 (M : pm_M) (h : M.1.cls = RL) : pm_lk M 183 mX11_heir := Or.inl (by rw [h]; exact (pm_in 1250 (by decide +kernel) (by decide +kernel)))
theorem okV_X11_heir : pm_mokV mX11_heir 1 := ⟨⟨⟨(pm_in 1253 (by decide +kernel) (by decide +kernel)), (pm_in 110 (by decide +kernel) (by decide +kernel))⟩, ⟨by decide +kernel, by decide +kernel, by decide +kernel⟩, by decide⟩, (pm_in 1251 (by decide +kernel) (by decide +kernel)), (pm_in 1252 (by decide +kernel) (by decide +kernel))⟩
theorem lkL_186 (M : pm_M) (h : M.1.cls = RL) : pm_lk M 186 mX12_heir := Or.inl (by rw [h]; exact (pm_in 1933 (by decide +kernel) (by decide +kernel)))
theorem okV_X12_heir : pm_mokV mX12_heir 1 := ⟨⟨⟨(pm_in 1936 (by decide +kernel) (by decide +kernel)), (pm_in 124 (by decide +kernel) (by decide +kernel))⟩, ⟨by decide +kernel, by decide +kernel, by decide +kernel⟩, by decide⟩, (pm_in 1934 (by decide +kernel) (by decide +kernel)), (pm_in 1935 (by decide +kernel) (by decide +kernel))⟩
theorem lkL_187 (M : pm_M) (h : M.1.cls = RL) : pm_lk M 187 mX11_age := Or.inl (by rw [h]; exact (pm_in 1279 (by decide +kernel) (by decide +kernel)))
theorem okV_X11_age : pm_mokV mX11_age 0 := ⟨⟨⟨(pm_in 1282 (by decide +kernel) (by decide +kernel)), (pm_in 110 (by decide +kernel) (by decide +kernel))⟩, ⟨by decide +kernel, by decide +kernel, by decide +kernel⟩, by decide⟩, (pm_in 1280 (by decide +kernel) (by decide +kernel)), (pm_in 1281 (by decide +kernel) (by decide +kernel))⟩
theorem lkL_190 (M : pm_M) (h : M.1.cls = RL) : pm_lk M 190 mX12_age := Or.inl (by rw [h]; exact (pm_in 1937 (by decide +kernel) (by decide +kernel)))
theorem okV_X12_age : pm_mokV mX12_age 0 := ⟨⟨⟨(pm_in 1940 (by decide +kernel) (by decide +kernel)), (pm_in 124 (by decide +kernel) (by decide +kernel))⟩, ⟨by decide +kernel, by decide +kernel, by decide +kernel⟩, by decide⟩, (pm_in 1938 (by decide +kernel) (by decide +kernel)), (pm_in 1939 (by decide +kernel) (by decide +kernel))⟩
theorem lkL_191 (M : pm_M) (h : M.1.cls = RL) : pm_lk M 191 mX11_after := Or.inl (by rw [h]; exact (pm_in 1298 (by decide +kernel) (by decide +kernel)))
theorem okV_X11_after : pm_mokV mX11_after 1 := ⟨⟨⟨(pm_in 1301 (by decide +kernel) (by decide +kernel)), (pm_in 110 (by decide +kernel) (by decide +kernel))⟩, ⟨by decide +kernel, by decide +kernel, by decide +kernel⟩, by decide⟩, (pm_in 1299 (by decide +kernel) (by decide +kernel)), (pm_in 1300 (by decide +kernel) (by decide +kernel))⟩
theorem lkL_194 (M : pm_M) (h : M.1.cls = RL) : pm_lk M 194 mX12_after := Or.inl (by rw [h]; exact (pm_in 1945 (by decide +kernel) (by decide +kernel)))
theorem okV_X12_after : pm_mokV mX12_after 1 := ⟨⟨⟨(pm_in 1948 (by decide +kernel) (by decide +kernel)), (pm_in 124 (by decide +kernel) (by decide +kernel))⟩, ⟨by decide +kernel, by decide +kernel, by decide +kernel⟩, by decide⟩, (pm_in 1946 (by decide +kernel) (by decide +kernel)), (pm_in 1947 (by decide +kernel) (by decide +kernel))⟩
theorem lkL_195 (M : pm_M) (h : M.1.cls = RL) : pm_lk M 195 mX11_plan := Or.inl (by rw [h]; exact (pm_in 1307 (by decide +kernel) (by decide +kernel)))
theorem okV_X11_plan : pm_mokV mX11_plan 2 := ⟨⟨⟨(pm_in 1310 (by decide +kernel) (by decide +kernel)), (pm_in 110 (by decide +kernel) (by decide +kernel))⟩, ⟨by decide +kernel, by decide +kernel, by decide +kernel⟩, by decide⟩, (pm_in 1308 (by decide +kernel) (by decide +kernel)), (pm_in 1309 (by decide +kernel) (by decide +kernel))⟩
theorem lkL_198 (M : pm_M) (h : M.1.cls = RL) : pm_lk M 198 mX12_plan := Or.inl (by rw [h]; exact (pm_in 1949 (by decide +kernel) (by decide +kernel)))
theorem okV_X12_plan : pm_mokV mX12_plan 2 := ⟨⟨⟨(pm_in 1952 (by decide +kernel) (by decide +kernel)), (pm_in 124 (by decide +kernel) (by decide +kernel))⟩, ⟨by decide +kernel, by decide +kernel, by decide +kernel⟩, by decide⟩, (pm_in 1950 (by decide +kernel) (by decide +kernel)), (pm_in 1951 (by decide +kernel) (by decide +kernel))⟩
theorem lkL_199 (M : pm_M) (h : M.1.cls = RL) : pm_lk M 199 mX11_voice := Or.inl (by rw [h]; exact (pm_in 1342 (by decide +kernel) (by decide +kernel)))
theorem okV_X11_voice : pm_mokV mX11_voice 3 := ⟨⟨⟨(pm_in 1345 (by decide +kernel) (by decide +kernel)), (pm_in 110 (by decide +kernel) (by decide +kernel))⟩, ⟨by decide +kernel, by decide +kernel, by decide +kernel⟩, by decide⟩, (pm_in 1343 (by decide +kernel) (by decide +kernel)), (pm_in 1344 (by decide +kernel) (by decide +kernel))⟩
theorem lkL_202 (M : pm_M) (h : M.1.cls = RL) : pm_lk M 202 mX12_voice := Or.inl (by rw [h]; exact (pm_in 1957 (by decide +kernel) (by decide +kernel)))
theorem okV_X12_voice : pm_mokV mX12_voice 3 := ⟨⟨⟨(pm_in 1960 (by decide +kernel) (by decide +kernel)), (pm_in 124 (by decide +kernel) (by decide +kernel))⟩, ⟨by decide +kernel, by decide +kernel, by decide +kernel⟩, by decide⟩, (pm_in 1958 (by decide +kernel) (by decide +kernel)), (pm_in 1959 (by decide +kernel) (by decide +kernel))⟩
theorem lkL_203 (M : pm_M) (h : M.1.cls = RL) : pm_lk M 203 mX11_trace := Or.inl (by rw [h]; exact (pm_in 1374 (by decide +kernel) (by decide +kernel)))
theorem okV_X11_trace : pm_mokV mX11_trace 1 := ⟨⟨⟨(pm_in 1377 (by decide +kernel) (by decide +kernel)), (pm_in 110 (by decide +kernel) (by decide +kernel))⟩, ⟨by decide +kernel, by decide +kernel, by decide +kernel⟩, by decide⟩, (pm_in 1375 (by decide +kernel) (by decide +kernel)), (pm_in 1376 (by decide +kernel) (by decide +kernel))⟩
theorem lkL_206 (M : pm_M) (h : M.1.cls = RL) : pm_lk M 206 mX12_trace := Or.inl (by rw [h]; exact (pm_in 2005 (by decide +kernel) (by decide +kernel)))
theorem okV_X12_trace : pm_mokV mX12_trace 1 := ⟨⟨⟨(pm_in 2008 (by decide +kernel) (by decide +kernel)), (pm_in 124 (by decide +kernel) (by decide +kernel))⟩, ⟨by decide +kernel, by decide +kernel, by decide +kernel⟩, by decide⟩, (pm_in 2006 (by decide +kernel) (by decide +kernel)), (pm_in 2007 (by decide +kernel) (by decide +kernel))⟩
theorem lkL_207 (M : pm_M) (h : M.1.cls = RL) : pm_lk M 207 mX11_sheet := Or.inl (by rw [h]; exact (pm_in 1382 (by decide +kernel) (by decide +kernel)))
theorem okV_X11_sheet : pm_mokV mX11_sheet 3 := ⟨⟨⟨(pm_in 1385 (by decide +kernel) (by decide +kernel)), (pm_in 110 (by decide +kernel) (by decide +kernel))⟩, ⟨by decide +kernel, by decide +kernel, by decide +kernel⟩, by decide⟩, (pm_in 1383 (by decide +kernel) (by decide +kernel)), (pm_in 1384 (by decide +kernel) (by decide +kernel))⟩
theorem lkL_210 (M : pm_M) (h : M.1.cls = RL) : pm_lk M 210 mX12_sheet := Or.inl (by rw [h]; exact (pm_in 2009 (by decide +kernel) (by decide +kernel)))
theorem okV_X12_sheet : pm_mokV mX12_sheet 3 := ⟨⟨⟨(pm_in 2012 (by decide +kernel) (by decide +kernel)), (pm_in 124 (by decide +kernel) (by decide +kernel))⟩, ⟨by decide +kernel, by decide +kernel, by decide +kernel⟩, by decide⟩, (pm_in 2010 (by decide +kernel) (by decide +kernel)), (pm_in 2011 (by decide +kernel) (by decide +kernel))⟩
theorem lkL_211 (M : pm_M) (h : M.1.cls = RL) : pm_lk M 211 mX11_put := Or.inl (by rw [h]; exact (pm_in 1391 (by decide +kernel) (by decide +kernel)))
theorem okV_X11_put : pm_mokV mX11_put 3 := ⟨⟨⟨(pm_in 1394 (by decide +kernel) (by decide +kernel)), (pm_in 110 (by decide +kernel) (by decide +kernel))⟩, ⟨by decide +kernel, by decide +kernel, by decide +kernel⟩, by decide⟩, (pm_in 1392 (by decide +kernel) (by decide +kernel)), (pm_in 1393 (by decide +kernel) (by decide +kernel))⟩
theorem lkL_214 (M : pm_M) (h : M.1.cls = RL) : pm_lk M 214 mX12_put := Or.inl (by rw [h]; exact (pm_in 2013 (by decide +kernel) (by decide +kernel)))
theorem okV_X12_put : pm_mokV mX12_put 3 := ⟨⟨⟨(pm_in 2016 (by decide +kernel) (by decide +kernel)), (pm_in 124 (by decide +kernel) (by decide +kernel))⟩, ⟨by decide +kernel, by decide +kernel, by decide +kernel⟩, by decide⟩, (pm_in 2014 (by decide +kernel) (by decide +kernel)), (pm_in 2015 (by decide +kernel) (by decide +kernel))⟩
theorem lkL_215 (M : pm_M) (h : M.1.cls = RL) : pm_lk M 215 mX11_move := Or.inl (by rw [h]; exact (pm_in 1399 (by decide +kernel) (by decide +kernel)))
theorem okV_X11_move : pm_mokV mX11_move 5 := ⟨⟨⟨(pm_in 1402 (by decide +kernel) (by decide +kernel)), (pm_in 110 (by decide +kernel) (by decide +kernel))⟩, ⟨by decide +kernel, by decide +kernel, by decide +kernel⟩, by decide⟩, (pm_in 1400 (by decide +kernel) (by decide +kernel)), (pm_in 1401 (by decide +kernel) (by decide +kernel))⟩
theorem lkL_219 (M : pm_M) (h : M.1.cls = RL) : pm_lk M 219 mX12_move := Or.inl (by rw [h]; exact (pm_in 2017 (by decide +kernel) (by decide +kernel)))
theorem okV_X12_move : pm_mokV mX12_move 5 := ⟨⟨⟨(pm_in 2020 (by decide +kernel) (by decide +kernel)), (pm_in 124 (by decide +kernel) (by decide +kernel))⟩, ⟨by decide +kernel, by decide +kernel, by decide +kernel⟩, by decide⟩, (pm_in 2018 (by decide +kernel) (by decide +kernel)), (pm_in 2019 (by decide +kernel) (by decide +kernel))⟩
theorem lkL_220 (M : pm_M) (h : M.1.cls = RL) : pm_lk M 220 mX11_image := Or.inl (by rw [h]; exact (pm_in 1418 (by decide +kernel) (by decide +kernel)))
theorem okV_X11_image : pm_mokV mX11_image 0 := ⟨⟨⟨(pm_in 1421 (by decide +kernel) (by decide +kernel)), (pm_in 110 (by decide +kernel) (by decide +kernel))⟩, ⟨by decide +kernel, by decide +kernel, by decide +kernel⟩, by decide⟩, (pm_in 1419 (by decide +kernel) (by decide +kernel)), (pm_in 1420 (by decide +kernel) (by decide +kernel))⟩
theorem lkL_223 (M : pm_M) (h : M.1.cls = RL) : pm_lk M 223 mX12_image := Or.inl (by rw [h]; exact (pm_in 2021 (by decide +kernel) (by decide +kernel)))
theorem okV_X12_image : pm_mokV mX12_image 0 := ⟨⟨⟨(pm_in 2024 (by decide +kernel) (by decide +kernel)), (pm_in 124 (by decide +kernel) (by decide +kernel))⟩, ⟨by decide +kernel, by decide +kernel, by decide +kernel⟩, by decide⟩, (pm_in 2022 (by decide +kernel) (by decide +kernel)), (pm_in 2023 (by decide +kernel) (by decide +kernel))⟩
theorem lkL_224 (M : pm_M) (h : M.1.cls = RL) : pm_lk M 224 mX11_restore := Or.inl (by rw [h]; exact (pm_in 1430 (by decide +kernel) (by decide +kernel)))
theorem okV_X11_restore : pm_mokV mX11_restore 0 := ⟨⟨⟨(pm_in 1433 (by decide +kernel) (by decide +kernel)), (pm_in 110 (by decide +kernel) (by decide +kernel))⟩, ⟨by decide +kernel, by decide +kernel, by decide +kernel⟩, by decide⟩, (pm_in 1431 (by decide +kernel) (by decide +kernel)), (pm_in 1432 (by decide +kernel) (by decide +kernel))⟩
theorem lkL_227 (M : pm_M) (h : M.1.cls = RL) : pm_lk M 227 mX12_restore := Or.inl (by rw [h]; exact (pm_in 2025 (by decide +kernel) (by decide +kernel)))
theorem okV_X12_restore : pm_mokV mX12_restore 0 := ⟨⟨⟨(pm_in 2028 (by decide +kernel) (by decide +kernel)), (pm_in 124 (by decide +kernel) (by decide +kernel))⟩, ⟨by decide +kernel, by decide +kernel, by decide +kernel⟩, by decide⟩, (pm_in 2026 (by decide +kernel) (by decide +kernel)), (pm_in 2027 (by decide +kernel) (by decide +kernel))⟩
theorem lkL_228 (M : pm_M) (h : M.1.cls = RL) : pm_lk M 228 mX11_tell := Or.inl (by rw [h]; exact (pm_in 1434 (by decide +kernel) (by decide +kernel)))
theorem okV_X11_tell : pm_mokV mX11_tell 1 := ⟨⟨⟨(pm_in 1437 (by decide +kernel) (by decide +kernel)), (pm_in 110 (by decide +kernel) (by decide +kernel))⟩, ⟨by decide +kernel, by decide +kernel, by decide +kernel⟩, by decide⟩, (pm_in 1435 (by decide +kernel) (by decide +kernel)), (pm_in 1436 (by decide +kernel) (by decide +kernel))⟩
theorem lkL_231 (M : pm_M) (h : M.1.cls = RL) : pm_lk M 231 mX12_tell := Or.inl (by rw [h]; exact (pm_in 2029 (by decide +kernel) (by decide +kernel)))
theorem okV_X12_tell : pm_mokV mX12_tell 1 := ⟨⟨⟨(pm_in 2032 (by decide +kernel) (by decide +kernel)), (pm_in 124 (by decide +kernel) (by decide +kernel))⟩, ⟨by decide +kernel, by decide +kernel, by decide +kernel⟩, by decide⟩, (pm_in 2030 (by decide +kernel) (by decide +kernel)), (pm_in 2031 (by decide +kernel) (by decide +kernel))⟩
theorem lkL_232 (M : pm_M) (h : M.1.cls = RL) : pm_lk M 232 mX11_check := Or.inl (by rw [h]; exact (pm_in 1438 (by decide +kernel) (by decide +kernel)))
theorem okV_X11_check : pm_mokV mX11_check 0 := ⟨⟨⟨(pm_in 1441 (by decide +kernel) (by decide +kernel)), (pm_in 110 (by decide +kernel) (by decide +kernel))⟩, ⟨by decide +kernel, by decide +kernel, by decide +kernel⟩, by decide⟩, (pm_in 1439 (by decide +kernel) (by decide +kernel)), (pm_in 1440 (by decide +kernel) (by decide +kernel))⟩
theorem lkL_235 (M : pm_M) (h : M.1.cls = RL) : pm_lk M 235 mX12_check := Or.inl (by rw [h]; exact (pm_in 2033 (by decide +kernel) (by decide +kernel)))
theorem okV_X12_check : pm_mokV mX12_check 0 := ⟨⟨⟨(pm_in 2036 (by decide +kernel) (by decide +kernel)), (pm_in 124 (by decide +kernel) (by decide +kernel))⟩, ⟨by decide +kernel, by decide +kernel, by decide +kernel⟩, by decide⟩, (pm_in 2034 (by decide +kernel) (by decide +kernel)), (pm_in 2035 (by decide +kernel) (by decide +kernel))⟩
theorem lkL_236 (M : pm_M) (h : M.1.cls = RL) : pm_lk M 236 mX11_count := Or.inl (by rw [h]; exact (pm_in 1447 (by decide +kernel) (by decide +kernel)))
theorem okV_X11_count : pm_mokV mX11_count 1 := ⟨⟨⟨(pm_in 1450 (by decide +kernel) (by decide +kernel)), (pm_in 110 (by decide +kernel) (by decide +kernel))⟩, ⟨by decide +kernel, by decide +kernel, by decide +kernel⟩, by decide⟩, (pm_in 1448 (by decide +kernel) (by decide +kernel)), (pm_in 1449 (by decide +kernel) (by decide +kernel))⟩
theorem lkL_239 (M : pm_M) (h : M.1.cls = RL) : pm_lk M 239 mX12_count := Or.inl (by rw [h]; exact (pm_in 2037 (by decide +kernel) (by decide +kernel)))
theorem okV_X12_count : pm_mokV mX12_count 1 := ⟨⟨⟨(pm_in 2040 (by decide +kernel) (by decide +kernel)), (pm_in 124 (by decide +kernel) (by decide +kernel))⟩, ⟨by decide +kernel, by decide +kernel, by decide +kernel⟩, by decide⟩, (pm_in 2038 (by decide +kernel) (by decide +kernel)), (pm_in 2039 (by decide +kernel) (by decide +kernel))⟩
theorem lkL_240 (M : pm_M) (h : M.1.cls = RL) : pm_lk M 240 mX11_found := Or.inl (by rw [h]; exact (pm_in 1459 (by decide +kernel) (by decide +kernel)))
theorem okV_X11_found : pm_mokV mX11_found 1 := ⟨⟨⟨(pm_in 1462 (by decide +kernel) (by decide +kernel)), (pm_in 110 (by decide +kernel) (by decide +kernel))⟩, ⟨by decide +kernel, by decide +kernel, by decide +kernel⟩, by decide⟩, (pm_in 1460 (by decide +kernel) (by decide +kernel)), (pm_in 1461 (by decide +kernel) (by decide +kernel))⟩
theorem lkL_243 (M : pm_M) (h : M.1.cls = RL) : pm_lk M 243 mX12_found := Or.inl (by rw [h]; exact (pm_in 2041 (by decide +kernel) (by decide +kernel)))
theorem okV_X12_found : pm_mokV mX12_found 1 := ⟨⟨⟨(pm_in 2044 (by decide +kernel) (by decide +kernel)), (pm_in 124 (by decide +kernel) (by decide +kernel))⟩, ⟨by decide +kernel, by decide +kernel, by decide +kernel⟩, by decide⟩, (pm_in 2042 (by decide +kernel) (by decide +kernel)), (pm_in 2043 (by decide +kernel) (by decide +kernel))⟩
theorem nwL_7 (M : pm_M) (h : M.1.cls = RL) : pm_nw M 7 11 [.null, .null, .null, .null, .null, .null, .null, .null, .null, .null, .null, .int 0] := by
  refine ⟨RX11, TX11, 12, tyX11, rfl, rfl, tyX11_ok, ?_, by rw [h]; exact (pm_in 132 (by decide +kernel) (by decide +kernel)), (pm_in 133 (by decide +kernel) (by decide +kernel)), (pm_in 110 (by decide +kernel) (by decide +kernel))⟩
  exact fun k hk => by
    match k, hk with
    | 0, _ => rfl
    | 1, _ => rfl
    | 2, _ => rfl
    | 3, _ => rfl
    | 4, _ => rfl
    | 5, _ => rfl
    | 6, _ => rfl
    | 7, _ => rfl
    | 8, _ => rfl
    | 9, _ => rfl
    | 10, _ => rfl
    | 11, _ => rfl
    | k + 12, hk => omega
theorem nwL_10 (M : pm_M) (h : M.1.cls = RL) : pm_nw M 10 12 [.null, .null, .null, .int 0, .null, .null, .null, .null, .null, .null, .int 0, .int 0, .int 0, .null, .null, .null, .null, .null, .int 0, .int 0, .int 0, .null, .int 0, .null, .null, .null, .null] := by
  refine ⟨RX12, TX12, 27, tyX12, rfl, rfl, tyX12_ok, ?_, by rw [h]; exact (pm_in 1463 (by decide +kernel) (by decide +kernel)), (pm_in 1464 (by decide +kernel) (by decide +kernel)), (pm_in 124 (by decide +kernel) (by decide +kernel))⟩
  exact fun k hk => by
    match k, hk with
    | 0, _ => rfl
    | 1, _ => rfl
    | 2, _ => rfl
    | 3, _ => rfl
    | 4, _ => rfl
    | 5, _ => rfl
    | 6, _ => rfl
    | 7, _ => rfl
    | 8, _ => rfl
    | 9, _ => rfl
    | 10, _ => rfl
    | 11, _ => rfl
    | 12, _ => rfl
    | 13, _ => rfl
    | 14, _ => rfl
    | 15, _ => rfl
    | 16, _ => rfl
    | 17, _ => rfl
    | 18, _ => rfl
    | 19, _ => rfl
    | 20, _ => rfl
    | 21, _ => rfl
    | 22, _ => rfl
    | 23, _ => rfl
    | 24, _ => rfl
    | 25, _ => rfl
    | 26, _ => rfl
    | k + 27, hk => omega
theorem lkL_9 (M : pm_M) (h : M.1.cls = RL) : pm_lk M 9 mX11_init := Or.inl (by rw [h]; exact (pm_in 134 (by decide +kernel) (by decide +kernel)))
theorem lkL_12 (M : pm_M) (h : M.1.cls = RL) : pm_lk M 12 mX12_init := Or.inl (by rw [h]; exact (pm_in 1465 (by decide +kernel) (by decide +kernel)))
theorem okI_X11_init : pm_mokI mX11_init 0 := ⟨⟨⟨(pm_in 136 (by decide +kernel) (by decide +kernel)), (pm_in 110 (by decide +kernel) (by decide +kernel))⟩, ⟨by decide +kernel, by decide +kernel, by decide +kernel⟩, by decide⟩, rfl, (pm_in 135 (by decide +kernel) (by decide +kernel)), rfl⟩
theorem okI_X12_init : pm_mokI mX12_init 0 := ⟨⟨⟨(pm_in 1467 (by decide +kernel) (by decide +kernel)), (pm_in 124 (by decide +kernel) (by decide +kernel))⟩, ⟨by decide +kernel, by decide +kernel, by decide +kernel⟩, by decide⟩, rfl, (pm_in 1466 (by decide +kernel) (by decide +kernel)), rfl⟩
/-! ===== the law: its script, its end ===== -/
def pm_scr (G : pm_G) (B b L : Nat) (xs : Nat → Int32) : Prop := va_X b L xs (pm_s G) (pm_s G).heap ∧ b < B ∧ B = (pm_s G).heap.size
def pm_lend (nm : String) (G : pm_G) (B : Nat) : Prop := ∀ (pc : Nat) (loc : List (Option Value)) (cs zs cnt : Nat) (σ : pm_S), cs ≤ 600000 → zs ≤ 7302250 → decode code pc = .ok (.ireturn, 1) → pm_wp (mL_law nm) G B pc loc [.int 1] cs zs cnt σ
section PML
variable {M : pm_M} {G : pm_G} {B pc pc' : Nat} {loc : List (Option Value)} {st : List Value} {cs zs cnt : Nat} {σ : pm_S}
theorem pm_sld {b L : Nat} {xs : Nat → Int32} {i : Int32} (hG : pm_ok M G B) (hs : pm_scr G B b L xs) (hd : pm_dec M pc (.iaload, 1) pc') (hi : vp_in i L) (kk : pm_wp M G B pc' loc (.int (xs i.toNatClampNeg) :: st) cs zs cnt σ) : pm_wp M G B pc loc (.int i :: .ref b :: st) cs zs cnt σ := by
  obtain ⟨hd, rfl⟩ := hd
  obtain ⟨hX, hb, hB⟩ := hs
  intro H ls locs h1 h2 h3 h4
  refine va_sld (A := fun q => B ≤ q) (H0 := (pm_s G).heap) hG.x hG.b hX (by rw [← hB]; exact hb) (Nat.not_le.mpr hb) ⟨by rw [h1.1, ← hB]; exact Nat.le_add_right _ _, fun q hq hn => h2 q (by omega), h4⟩ hi hd (kk H ls locs h1 h2 h3 h4)
theorem pm_slen {b L : Nat} {xs : Nat → Int32} (hG : pm_ok M G B) (hs : pm_scr G B b L xs) (hd : pm_dec M pc (.arraylength, 1) pc') (kk : pm_wp M G B pc' loc (.int (Int32.ofNat L) :: st) cs zs cnt σ) : pm_wp M G B pc loc (.ref b :: st) cs zs cnt σ := by
  obtain ⟨hd, rfl⟩ := hd
  obtain ⟨hX, hb, hB⟩ := hs
  intro H ls locs h1 h2 h3 h4
  refine va_slen (A := fun q => B ≤ q) (H0 := (pm_s G).heap) hG.x hG.b hX (by rw [← hB]; exact hb) (Nat.not_le.mpr hb) ⟨by rw [h1.1, ← hB]; exact Nat.le_add_right _ _, fun q hq hn => h2 q (by omega), h4⟩ hd (kk H ls locs h1 h2 h3 h4)
end PML
theorem pm_two_sub {σ : pm_S} {k : Nat} {C R : List pm_C} (h1 : pm_lies σ 0 C) (h2 : pm_lies σ k R) : pm_sub (pm_cat (pm_ofL C) k R) σ := by
  intro j x hj
  unfold pm_cat at hj
  split at hj
  · have h3 := h1 j x hj
    rw [Nat.zero_add] at h3
    exact h3
  · have h3 := h2 (j - k) x hj
    rw [show k + (j - k) = j by omega] at h3
    exact h3
theorem pm_old_lies {σ σ' : pm_S} {k n : Nat} {L : List pm_C} (h : pm_old k σ σ') (h1 : pm_lies σ n L) (hk : n + L.length ≤ k) : pm_lies σ' n L := by
  intro i x hx
  have hi : i < L.length := (List.getElem?_eq_some_iff.mp hx).1
  rw [h _ (by omega)]
  exact h1 i x hx
/-- behind a call: one step of the loop's head more, then the end -/
theorem law_tail {nm : String} {G : pm_G} {B b cnt cs zs : Nat} {xs : Nat → Int32} {σ : pm_S} {v1 v2 : Option Value} (hG : pm_ok (mL_law nm) G B) (hs : pm_scr G B b 6 xs) (hE : pm_lend nm G B) (hcs : cs ≤ 600000) (hzs : zs ≤ 7302250) : pm_wp (mL_law nm) G B 2105 [some (.ref b), v1, v2, some (.int 0)] [] cs zs cnt σ := by
  refine pm_fl0 (loc' := [some (.ref b), none, none, some (.int 0)]) (fun j v hj => ?_) ?_
  · match j, hj with
    | 0, hj => exact hj
    | 1, hj => cases hj
    | 2, hj => cases hj
    | 3, hj => exact hj
    | j + 4, hj => simp at hj
  refine pm_iincX (v := 6) (loc' := [some (.ref b), none, none, some (.int 6)]) hG dL_law_2105 rfl (by decide) (Nat.le_of_ble_eq_true rfl) (pm_c1b rfl) rfl ?_
  refine pm_goto (tgt := 18) hG dL_law_2108 rfl ?_
  refine pm_iloadn hG dL_law_18 rfl ?_
  refine pm_aloadn hG dL_law_19 rfl ?_
  refine pm_slen hG hs dL_law_20 ?_
  refine pm_bipush (v := 6) hG dL_law_21 (by decide) ?_
  refine pm_isub hG dL_law_23 ?_
  refine pm_icmp_gt (tgt := 2111) hG dL_law_24 rfl (fun _ => ?_) (fun q => absurd (show (Int32.ofNat 6 - 6 : Int32) < 6 by decide) q)
  refine pm_iconst (v := 1) hG dL_law_2111 (by decide) ?_
  exact hE _ _ _ _ _ _ hcs hzs dL_law_2112.1
