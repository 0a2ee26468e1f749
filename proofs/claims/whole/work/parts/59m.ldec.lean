theorem dL_876 : decode code 876 = .ok (.aload_n 1, 1) := by decide +kernel
theorem dL_877 : decode code 877 = .ok (.aload_n 0, 1) := by decide +kernel
theorem dL_878 : decode code 878 = .ok (.iload_n 3, 1) := by decide +kernel
theorem dL_879 : decode code 879 = .ok (.iconst 1, 1) := by decide +kernel
theorem dL_880 : decode code 880 = .ok (.iadd, 1) := by decide +kernel
theorem dL_881 : decode code 881 = .ok (.iaload, 1) := by decide +kernel
theorem dL_882 : decode code 882 = .ok (.invokevirtual 109, 3) := by decide +kernel
theorem dL_885 : decode code 885 = .ok (.aload_n 2, 1) := by decide +kernel
theorem dL_886 : decode code 886 = .ok (.aload_n 0, 1) := by decide +kernel
theorem dL_887 : decode code 887 = .ok (.iload_n 3, 1) := by decide +kernel
theorem dL_888 : decode code 888 = .ok (.iconst 1, 1) := by decide +kernel
theorem dL_889 : decode code 889 = .ok (.iadd, 1) := by decide +kernel
theorem dL_890 : decode code 890 = .ok (.iaload, 1) := by decide +kernel
theorem dL_891 : decode code 891 = .ok (.invokevirtual 112, 3) := by decide +kernel
theorem dL_894 : decode code 894 = .ok (.if_icmp .eq 110, 3) := by decide +kernel
theorem dL_897 : decode code 897 = .ok (.iconst 0, 1) := by decide +kernel
theorem dL_898 : decode code 898 = .ok (.ireturn, 1) := by decide +kernel
theorem dL_899 : decode code 899 = .ok (.aload_n 1, 1) := by decide +kernel
theorem dL_900 : decode code 900 = .ok (.invokevirtual 113, 3) := by decide +kernel
theorem dL_903 : decode code 903 = .ok (.aload_n 2, 1) := by decide +kernel
theorem dL_904 : decode code 904 = .ok (.invokevirtual 116, 3) := by decide +kernel
theorem dL_907 : decode code 907 = .ok (.if_icmp .eq 97, 3) := by decide +kernel
theorem dL_910 : decode code 910 = .ok (.iconst 0, 1) := by decide +kernel
theorem dL_911 : decode code 911 = .ok (.ireturn, 1) := by decide +kernel
theorem dL_912 : decode code 912 = .ok (.aload_n 1, 1) := by decide +kernel
theorem dL_913 : decode code 913 = .ok (.aload_n 0, 1) := by decide +kernel
theorem dL_914 : decode code 914 = .ok (.iload_n 3, 1) := by decide +kernel
theorem dL_915 : decode code 915 = .ok (.iconst 1, 1) := by decide +kernel
theorem dL_916 : decode code 916 = .ok (.iadd, 1) := by decide +kernel
theorem dL_917 : decode code 917 = .ok (.iaload, 1) := by decide +kernel
theorem dL_918 : decode code 918 = .ok (.invokevirtual 117, 3) := by decide +kernel
theorem dL_921 : decode code 921 = .ok (.aload_n 2, 1) := by decide +kernel
theorem dL_922 : decode code 922 = .ok (.aload_n 0, 1) := by decide +kernel
theorem dL_923 : decode code 923 = .ok (.iload_n 3, 1) := by decide +kernel
theorem dL_924 : decode code 924 = .ok (.iconst 1, 1) := by decide +kernel
theorem dL_925 : decode code 925 = .ok (.iadd, 1) := by decide +kernel
theorem dL_926 : decode code 926 = .ok (.iaload, 1) := by decide +kernel
theorem dL_927 : decode code 927 = .ok (.invokevirtual 120, 3) := by decide +kernel
theorem dL_930 : decode code 930 = .ok (.if_icmp .eq 74, 3) := by decide +kernel
theorem dL_933 : decode code 933 = .ok (.iconst 0, 1) := by decide +kernel
theorem dL_934 : decode code 934 = .ok (.ireturn, 1) := by decide +kernel
theorem dL_935 : decode code 935 = .ok (.aload_n 1, 1) := by decide +kernel
theorem dL_936 : decode code 936 = .ok (.aload_n 0, 1) := by decide +kernel
theorem dL_937 : decode code 937 = .ok (.iload_n 3, 1) := by decide +kernel
theorem dL_938 : decode code 938 = .ok (.iconst 1, 1) := by decide +kernel
theorem dL_939 : decode code 939 = .ok (.iadd, 1) := by decide +kernel
theorem dL_940 : decode code 940 = .ok (.iaload, 1) := by decide +kernel
theorem dL_941 : decode code 941 = .ok (.invokevirtual 121, 3) := by decide +kernel
theorem dL_944 : decode code 944 = .ok (.aload_n 2, 1) := by decide +kernel
theorem dL_945 : decode code 945 = .ok (.aload_n 0, 1) := by decide +kernel
