theorem dl_721 : decode code 721 = .ok (.invokevirtual 88, 3) := by decide +kernel
theorem dl_724 : decode code 724 = .ok (.aload_n 2, 1) := by decide +kernel
theorem ad_725 : ArgC 725 1 := by decide +kernel
theorem ad_730 : ArgC 730 2 := by decide +kernel
theorem dl_735 : decode code 735 = .ok (.invokevirtual 91, 3) := by decide +kernel
theorem dl_738 : decode code 738 = .ok (.if_icmp .eq 313, 3) := by decide +kernel
theorem dl_743 : decode code 743 = .ok (.aload_n 1, 1) := by decide +kernel
theorem ad_744 : ArgC 744 1 := by decide +kernel
theorem dl_749 : decode code 749 = .ok (.invokevirtual 92, 3) := by decide +kernel
theorem dl_752 : decode code 752 = .ok (.aload_n 2, 1) := by decide +kernel
theorem ad_753 : ArgC 753 1 := by decide +kernel
theorem dl_758 : decode code 758 = .ok (.invokevirtual 95, 3) := by decide +kernel
theorem dl_761 : decode code 761 = .ok (.if_icmp .eq 290, 3) := by decide +kernel
theorem dl_766 : decode code 766 = .ok (.aload_n 1, 1) := by decide +kernel
theorem ad_767 : ArgC 767 1 := by decide +kernel
theorem dl_772 : decode code 772 = .ok (.invokevirtual 96, 3) := by decide +kernel
theorem dl_775 : decode code 775 = .ok (.aload_n 2, 1) := by decide +kernel
theorem ad_776 : ArgC 776 1 := by decide +kernel
theorem dl_781 : decode code 781 = .ok (.invokevirtual 99, 3) := by decide +kernel
theorem dl_784 : decode code 784 = .ok (.if_icmp .eq 267, 3) := by decide +kernel
theorem dl_789 : decode code 789 = .ok (.aload_n 1, 1) := by decide +kernel
theorem ad_790 : ArgC 790 1 := by decide +kernel
theorem ad_795 : ArgC 795 2 := by decide +kernel
theorem ad_800 : ArgC 800 3 := by decide +kernel
theorem ad_805 : ArgC 805 4 := by decide +kernel
theorem dl_810 : decode code 810 = .ok (.invokevirtual 100, 3) := by decide +kernel
theorem dl_813 : decode code 813 = .ok (.aload_n 2, 1) := by decide +kernel
theorem ad_814 : ArgC 814 1 := by decide +kernel
theorem ad_819 : ArgC 819 2 := by decide +kernel
theorem ad_824 : ArgC 824 3 := by decide +kernel
theorem ad_829 : ArgC 829 4 := by decide +kernel
theorem dl_834 : decode code 834 = .ok (.invokevirtual 104, 3) := by decide +kernel
theorem dl_837 : decode code 837 = .ok (.lcmp, 1) := by decide +kernel
theorem dl_838 : decode code 838 = .ok (.ifCond .eq 213, 3) := by decide +kernel
theorem dl_843 : decode code 843 = .ok (.aload_n 1, 1) := by decide +kernel
theorem ad_844 : ArgC 844 1 := by decide +kernel
theorem ad_849 : ArgC 849 2 := by decide +kernel
theorem ad_854 : ArgC 854 3 := by decide +kernel
theorem ad_859 : ArgC 859 4 := by decide +kernel
theorem dl_864 : decode code 864 = .ok (.invokevirtual 105, 3) := by decide +kernel
theorem dl_867 : decode code 867 = .ok (.aload_n 2, 1) := by decide +kernel
theorem ad_868 : ArgC 868 1 := by decide +kernel
theorem ad_873 : ArgC 873 2 := by decide +kernel
theorem ad_878 : ArgC 878 3 := by decide +kernel
theorem ad_883 : ArgC 883 4 := by decide +kernel
theorem dl_888 : decode code 888 = .ok (.invokevirtual 109, 3) := by decide +kernel
theorem dl_891 : decode code 891 = .ok (.if_icmp .eq 160, 3) := by decide +kernel
theorem dl_896 : decode code 896 = .ok (.aload_n 1, 1) := by decide +kernel
theorem ad_897 : ArgC 897 1 := by decide +kernel
theorem ad_902 : ArgC 902 2 := by decide +kernel
theorem ad_907 : ArgC 907 3 := by decide +kernel
