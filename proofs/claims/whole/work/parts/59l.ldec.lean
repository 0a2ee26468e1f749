theorem dL_814 : decode code 814 = .ok (.iadd, 1) := by decide +kernel
theorem dL_815 : decode code 815 = .ok (.iaload, 1) := by decide +kernel
theorem dL_816 : decode code 816 = .ok (.aload_n 0, 1) := by decide +kernel
theorem dL_817 : decode code 817 = .ok (.iload_n 3, 1) := by decide +kernel
theorem dL_818 : decode code 818 = .ok (.iconst 2, 1) := by decide +kernel
theorem dL_819 : decode code 819 = .ok (.iadd, 1) := by decide +kernel
theorem dL_820 : decode code 820 = .ok (.iaload, 1) := by decide +kernel
theorem dL_821 : decode code 821 = .ok (.aload_n 0, 1) := by decide +kernel
theorem dL_822 : decode code 822 = .ok (.iload_n 3, 1) := by decide +kernel
theorem dL_823 : decode code 823 = .ok (.iconst 3, 1) := by decide +kernel
theorem dL_824 : decode code 824 = .ok (.iadd, 1) := by decide +kernel
theorem dL_825 : decode code 825 = .ok (.iaload, 1) := by decide +kernel
theorem dL_826 : decode code 826 = .ok (.invokevirtual 101, 3) := by decide +kernel
theorem dL_829 : decode code 829 = .ok (.aload_n 2, 1) := by decide +kernel
theorem dL_830 : decode code 830 = .ok (.aload_n 0, 1) := by decide +kernel
theorem dL_831 : decode code 831 = .ok (.iload_n 3, 1) := by decide +kernel
theorem dL_832 : decode code 832 = .ok (.iconst 1, 1) := by decide +kernel
theorem dL_833 : decode code 833 = .ok (.iadd, 1) := by decide +kernel
theorem dL_834 : decode code 834 = .ok (.iaload, 1) := by decide +kernel
theorem dL_835 : decode code 835 = .ok (.aload_n 0, 1) := by decide +kernel
theorem dL_836 : decode code 836 = .ok (.iload_n 3, 1) := by decide +kernel
theorem dL_837 : decode code 837 = .ok (.iconst 2, 1) := by decide +kernel
theorem dL_838 : decode code 838 = .ok (.iadd, 1) := by decide +kernel
theorem dL_839 : decode code 839 = .ok (.iaload, 1) := by decide +kernel
theorem dL_840 : decode code 840 = .ok (.aload_n 0, 1) := by decide +kernel
theorem dL_841 : decode code 841 = .ok (.iload_n 3, 1) := by decide +kernel
theorem dL_842 : decode code 842 = .ok (.iconst 3, 1) := by decide +kernel
theorem dL_843 : decode code 843 = .ok (.iadd, 1) := by decide +kernel
theorem dL_844 : decode code 844 = .ok (.iaload, 1) := by decide +kernel
theorem dL_845 : decode code 845 = .ok (.invokevirtual 104, 3) := by decide +kernel
theorem dL_848 : decode code 848 = .ok (.if_icmp .eq 156, 3) := by decide +kernel
theorem dL_851 : decode code 851 = .ok (.iconst 0, 1) := by decide +kernel
theorem dL_852 : decode code 852 = .ok (.ireturn, 1) := by decide +kernel
theorem dL_853 : decode code 853 = .ok (.aload_n 1, 1) := by decide +kernel
theorem dL_854 : decode code 854 = .ok (.aload_n 0, 1) := by decide +kernel
theorem dL_855 : decode code 855 = .ok (.iload_n 3, 1) := by decide +kernel
theorem dL_856 : decode code 856 = .ok (.iconst 1, 1) := by decide +kernel
theorem dL_857 : decode code 857 = .ok (.iadd, 1) := by decide +kernel
theorem dL_858 : decode code 858 = .ok (.iaload, 1) := by decide +kernel
theorem dL_859 : decode code 859 = .ok (.invokevirtual 105, 3) := by decide +kernel
theorem dL_862 : decode code 862 = .ok (.aload_n 2, 1) := by decide +kernel
theorem dL_863 : decode code 863 = .ok (.aload_n 0, 1) := by decide +kernel
theorem dL_864 : decode code 864 = .ok (.iload_n 3, 1) := by decide +kernel
theorem dL_865 : decode code 865 = .ok (.iconst 1, 1) := by decide +kernel
theorem dL_866 : decode code 866 = .ok (.iadd, 1) := by decide +kernel
theorem dL_867 : decode code 867 = .ok (.iaload, 1) := by decide +kernel
theorem dL_868 : decode code 868 = .ok (.invokevirtual 108, 3) := by decide +kernel
theorem dL_871 : decode code 871 = .ok (.if_icmp .eq 133, 3) := by decide +kernel
theorem dL_874 : decode code 874 = .ok (.iconst 0, 1) := by decide +kernel
theorem dL_875 : decode code 875 = .ok (.ireturn, 1) := by decide +kernel
