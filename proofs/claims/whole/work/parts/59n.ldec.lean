theorem dL_946 : decode code 946 = .ok (.iload_n 3, 1) := by decide +kernel
theorem dL_947 : decode code 947 = .ok (.iconst 1, 1) := by decide +kernel
theorem dL_948 : decode code 948 = .ok (.iadd, 1) := by decide +kernel
theorem dL_949 : decode code 949 = .ok (.iaload, 1) := by decide +kernel
theorem dL_950 : decode code 950 = .ok (.invokevirtual 124, 3) := by decide +kernel
theorem dL_953 : decode code 953 = .ok (.if_icmp .eq 51, 3) := by decide +kernel
theorem dL_956 : decode code 956 = .ok (.iconst 0, 1) := by decide +kernel
theorem dL_957 : decode code 957 = .ok (.ireturn, 1) := by decide +kernel
theorem dL_958 : decode code 958 = .ok (.aload_n 1, 1) := by decide +kernel
theorem dL_959 : decode code 959 = .ok (.aload_n 0, 1) := by decide +kernel
theorem dL_960 : decode code 960 = .ok (.iload_n 3, 1) := by decide +kernel
theorem dL_961 : decode code 961 = .ok (.iconst 1, 1) := by decide +kernel
theorem dL_962 : decode code 962 = .ok (.iadd, 1) := by decide +kernel
theorem dL_963 : decode code 963 = .ok (.iaload, 1) := by decide +kernel
theorem dL_964 : decode code 964 = .ok (.invokevirtual 125, 3) := by decide +kernel
theorem dL_967 : decode code 967 = .ok (.aload_n 2, 1) := by decide +kernel
theorem dL_968 : decode code 968 = .ok (.aload_n 0, 1) := by decide +kernel
theorem dL_969 : decode code 969 = .ok (.iload_n 3, 1) := by decide +kernel
theorem dL_970 : decode code 970 = .ok (.iconst 1, 1) := by decide +kernel
theorem dL_971 : decode code 971 = .ok (.iadd, 1) := by decide +kernel
theorem dL_972 : decode code 972 = .ok (.iaload, 1) := by decide +kernel
theorem dL_973 : decode code 973 = .ok (.invokevirtual 128, 3) := by decide +kernel
theorem dL_976 : decode code 976 = .ok (.if_icmp .eq 28, 3) := by decide +kernel
theorem dL_979 : decode code 979 = .ok (.iconst 0, 1) := by decide +kernel
theorem dL_980 : decode code 980 = .ok (.ireturn, 1) := by decide +kernel
theorem dL_981 : decode code 981 = .ok (.aload_n 1, 1) := by decide +kernel
theorem dL_982 : decode code 982 = .ok (.aload_n 0, 1) := by decide +kernel
theorem dL_983 : decode code 983 = .ok (.iload_n 3, 1) := by decide +kernel
theorem dL_984 : decode code 984 = .ok (.iconst 1, 1) := by decide +kernel
theorem dL_985 : decode code 985 = .ok (.iadd, 1) := by decide +kernel
theorem dL_986 : decode code 986 = .ok (.iaload, 1) := by decide +kernel
theorem dL_987 : decode code 987 = .ok (.invokevirtual 129, 3) := by decide +kernel
theorem dL_990 : decode code 990 = .ok (.aload_n 2, 1) := by decide +kernel
theorem dL_991 : decode code 991 = .ok (.aload_n 0, 1) := by decide +kernel
theorem dL_992 : decode code 992 = .ok (.iload_n 3, 1) := by decide +kernel
theorem dL_993 : decode code 993 = .ok (.iconst 1, 1) := by decide +kernel
theorem dL_994 : decode code 994 = .ok (.iadd, 1) := by decide +kernel
theorem dL_995 : decode code 995 = .ok (.iaload, 1) := by decide +kernel
theorem dL_996 : decode code 996 = .ok (.invokevirtual 132, 3) := by decide +kernel
theorem dL_999 : decode code 999 = .ok (.if_icmp .eq 5, 3) := by decide +kernel
theorem dL_1002 : decode code 1002 = .ok (.iconst 0, 1) := by decide +kernel
theorem dL_1003 : decode code 1003 = .ok (.ireturn, 1) := by decide +kernel
theorem dL_1004 : decode code 1004 = .ok (.iinc 3 5, 3) := by decide +kernel
theorem dL_1007 : decode code 1007 = .ok (.goto (-989), 3) := by decide +kernel
theorem dL_1010 : decode code 1010 = .ok (.iconst 1, 1) := by decide +kernel
theorem dL_1011 : decode code 1011 = .ok (.ireturn, 1) := by decide +kernel
