theorem dL_754 : decode code 754 = .ok (.aload_n 0, 1) := by decide +kernel
theorem dL_755 : decode code 755 = .ok (.iload_n 3, 1) := by decide +kernel
theorem dL_756 : decode code 756 = .ok (.iconst 2, 1) := by decide +kernel
theorem dL_757 : decode code 757 = .ok (.iadd, 1) := by decide +kernel
theorem dL_758 : decode code 758 = .ok (.iaload, 1) := by decide +kernel
theorem dL_759 : decode code 759 = .ok (.invokevirtual 96, 3) := by decide +kernel
theorem dL_762 : decode code 762 = .ok (.if_icmp .eq 242, 3) := by decide +kernel
theorem dL_765 : decode code 765 = .ok (.iconst 0, 1) := by decide +kernel
theorem dL_766 : decode code 766 = .ok (.ireturn, 1) := by decide +kernel
theorem dL_767 : decode code 767 = .ok (.aload_n 1, 1) := by decide +kernel
theorem dL_768 : decode code 768 = .ok (.aload_n 0, 1) := by decide +kernel
theorem dL_769 : decode code 769 = .ok (.iload_n 3, 1) := by decide +kernel
theorem dL_770 : decode code 770 = .ok (.iconst 1, 1) := by decide +kernel
theorem dL_771 : decode code 771 = .ok (.iadd, 1) := by decide +kernel
theorem dL_772 : decode code 772 = .ok (.iaload, 1) := by decide +kernel
theorem dL_773 : decode code 773 = .ok (.aload_n 0, 1) := by decide +kernel
theorem dL_774 : decode code 774 = .ok (.iload_n 3, 1) := by decide +kernel
theorem dL_775 : decode code 775 = .ok (.iconst 2, 1) := by decide +kernel
theorem dL_776 : decode code 776 = .ok (.iadd, 1) := by decide +kernel
theorem dL_777 : decode code 777 = .ok (.iaload, 1) := by decide +kernel
theorem dL_778 : decode code 778 = .ok (.aload_n 0, 1) := by decide +kernel
theorem dL_779 : decode code 779 = .ok (.iload_n 3, 1) := by decide +kernel
theorem dL_780 : decode code 780 = .ok (.iconst 3, 1) := by decide +kernel
theorem dL_781 : decode code 781 = .ok (.iadd, 1) := by decide +kernel
theorem dL_782 : decode code 782 = .ok (.iaload, 1) := by decide +kernel
theorem dL_783 : decode code 783 = .ok (.invokevirtual 97, 3) := by decide +kernel
theorem dL_786 : decode code 786 = .ok (.aload_n 2, 1) := by decide +kernel
theorem dL_787 : decode code 787 = .ok (.aload_n 0, 1) := by decide +kernel
theorem dL_788 : decode code 788 = .ok (.iload_n 3, 1) := by decide +kernel
theorem dL_789 : decode code 789 = .ok (.iconst 1, 1) := by decide +kernel
theorem dL_790 : decode code 790 = .ok (.iadd, 1) := by decide +kernel
theorem dL_791 : decode code 791 = .ok (.iaload, 1) := by decide +kernel
theorem dL_792 : decode code 792 = .ok (.aload_n 0, 1) := by decide +kernel
theorem dL_793 : decode code 793 = .ok (.iload_n 3, 1) := by decide +kernel
theorem dL_794 : decode code 794 = .ok (.iconst 2, 1) := by decide +kernel
theorem dL_795 : decode code 795 = .ok (.iadd, 1) := by decide +kernel
theorem dL_796 : decode code 796 = .ok (.iaload, 1) := by decide +kernel
theorem dL_797 : decode code 797 = .ok (.aload_n 0, 1) := by decide +kernel
theorem dL_798 : decode code 798 = .ok (.iload_n 3, 1) := by decide +kernel
theorem dL_799 : decode code 799 = .ok (.iconst 3, 1) := by decide +kernel
theorem dL_800 : decode code 800 = .ok (.iadd, 1) := by decide +kernel
theorem dL_801 : decode code 801 = .ok (.iaload, 1) := by decide +kernel
theorem dL_802 : decode code 802 = .ok (.invokevirtual 100, 3) := by decide +kernel
theorem dL_805 : decode code 805 = .ok (.if_icmp .eq 199, 3) := by decide +kernel
theorem dL_808 : decode code 808 = .ok (.iconst 0, 1) := by decide +kernel
theorem dL_809 : decode code 809 = .ok (.ireturn, 1) := by decide +kernel
theorem dL_810 : decode code 810 = .ok (.aload_n 1, 1) := by decide +kernel
theorem dL_811 : decode code 811 = .ok (.aload_n 0, 1) := by decide +kernel
theorem dL_812 : decode code 812 = .ok (.iload_n 3, 1) := by decide +kernel
theorem dL_813 : decode code 813 = .ok (.iconst 1, 1) := by decide +kernel
