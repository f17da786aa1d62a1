theorem dl_912 : decode code 912 = .ok (.invokevirtual 110, 3) := by decide +kernel
theorem dl_915 : decode code 915 = .ok (.aload_n 2, 1) := by decide +kernel
theorem ad_916 : ArgC 916 1 := by decide +kernel
theorem ad_921 : ArgC 921 2 := by decide +kernel
theorem ad_926 : ArgC 926 3 := by decide +kernel
theorem dl_931 : decode code 931 = .ok (.invokevirtual 113, 3) := by decide +kernel
theorem dl_934 : decode code 934 = .ok (.if_icmp .eq 117, 3) := by decide +kernel
theorem dl_939 : decode code 939 = .ok (.aload_n 1, 1) := by decide +kernel
theorem ad_940 : ArgC 940 1 := by decide +kernel
theorem ad_945 : ArgC 945 2 := by decide +kernel
theorem ad_950 : ArgC 950 3 := by decide +kernel
theorem dl_955 : decode code 955 = .ok (.invokevirtual 114, 3) := by decide +kernel
theorem dl_958 : decode code 958 = .ok (.aload_n 2, 1) := by decide +kernel
theorem ad_959 : ArgC 959 1 := by decide +kernel
theorem ad_964 : ArgC 964 2 := by decide +kernel
theorem ad_969 : ArgC 969 3 := by decide +kernel
theorem dl_974 : decode code 974 = .ok (.invokevirtual 117, 3) := by decide +kernel
theorem dl_977 : decode code 977 = .ok (.if_icmp .eq 74, 3) := by decide +kernel
theorem dl_982 : decode code 982 = .ok (.aload_n 1, 1) := by decide +kernel
theorem ad_983 : ArgC 983 1 := by decide +kernel
theorem ad_988 : ArgC 988 2 := by decide +kernel
theorem dl_993 : decode code 993 = .ok (.invokevirtual 118, 3) := by decide +kernel
theorem dl_996 : decode code 996 = .ok (.aload_n 2, 1) := by decide +kernel
theorem ad_997 : ArgC 997 1 := by decide +kernel
theorem ad_1002 : ArgC 1002 2 := by decide +kernel
theorem dl_1007 : decode code 1007 = .ok (.invokevirtual 121, 3) := by decide +kernel
theorem dl_1010 : decode code 1010 = .ok (.if_icmp .eq 41, 3) := by decide +kernel
theorem dl_1015 : decode code 1015 = .ok (.aload_n 1, 1) := by decide +kernel
theorem ad_1016 : ArgC 1016 1 := by decide +kernel
theorem dl_1021 : decode code 1021 = .ok (.invokevirtual 122, 3) := by decide +kernel
theorem dl_1024 : decode code 1024 = .ok (.aload_n 2, 1) := by decide +kernel
theorem ad_1025 : ArgC 1025 1 := by decide +kernel
theorem dl_1030 : decode code 1030 = .ok (.invokevirtual 125, 3) := by decide +kernel
theorem dl_1033 : decode code 1033 = .ok (.if_icmp .eq 18, 3) := by decide +kernel
theorem dl_1038 : decode code 1038 = .ok (.aload_n 1, 1) := by decide +kernel
theorem dl_1039 : decode code 1039 = .ok (.invokevirtual 126, 3) := by decide +kernel
theorem dl_1042 : decode code 1042 = .ok (.aload_n 2, 1) := by decide +kernel
theorem dl_1043 : decode code 1043 = .ok (.invokevirtual 129, 3) := by decide +kernel
theorem dl_1046 : decode code 1046 = .ok (.if_icmp .eq 5, 3) := by decide +kernel
