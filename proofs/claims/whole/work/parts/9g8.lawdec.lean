theorem dL_law_856 : decode code 856 = .ok (.iload 4, 2) := by decide +kernel
theorem dL_law_858 : decode code 858 = .ok (.iconst 3, 1) := by decide +kernel
theorem dL_law_859 : decode code 859 = .ok (.iadd, 1) := by decide +kernel
theorem dL_law_860 : decode code 860 = .ok (.iaload, 1) := by decide +kernel
theorem dL_law_861 : decode code 861 = .ok (.invokevirtual 99, 3) := by decide +kernel
theorem dL_law_864 : decode code 864 = .ok (.lstore 6, 2) := by decide +kernel
theorem dL_law_866 : decode code 866 = .ok (.aload_n 2, 1) := by decide +kernel
theorem dL_law_867 : decode code 867 = .ok (.invokevirtual 53, 3) := by decide +kernel
theorem dL_law_870 : decode code 870 = .ok (.iload 5, 2) := by decide +kernel
theorem dL_law_872 : decode code 872 = .ok (.if_icmp .eq 5, 3) := by decide +kernel
theorem dL_law_875 : decode code 875 = .ok (.iconst 0, 1) := by decide +kernel
theorem dL_law_876 : decode code 876 = .ok (.ireturn, 1) := by decide +kernel
theorem dL_law_877 : decode code 877 = .ok (.iload 5, 2) := by decide +kernel
theorem dL_law_879 : decode code 879 = .ok (.ifCond .ne 14, 3) := by decide +kernel
theorem dL_law_882 : decode code 882 = .ok (.aload_n 3, 1) := by decide +kernel
theorem dL_law_883 : decode code 883 = .ok (.iconst 0, 1) := by decide +kernel
theorem dL_law_884 : decode code 884 = .ok (.laload, 1) := by decide +kernel
theorem dL_law_885 : decode code 885 = .ok (.lload 6, 2) := by decide +kernel
theorem dL_law_887 : decode code 887 = .ok (.lcmp, 1) := by decide +kernel
theorem dL_law_888 : decode code 888 = .ok (.ifCond .eq 5, 3) := by decide +kernel
theorem dL_law_891 : decode code 891 = .ok (.iconst 0, 1) := by decide +kernel
theorem dL_law_892 : decode code 892 = .ok (.ireturn, 1) := by decide +kernel
theorem dL_law_893 : decode code 893 = .ok (.goto 291, 3) := by decide +kernel
theorem dL_law_896 : decode code 896 = .ok (.aload_n 1, 1) := by decide +kernel
theorem dL_law_897 : decode code 897 = .ok (.aload_n 0, 1) := by decide +kernel
theorem dL_law_898 : decode code 898 = .ok (.iload 4, 2) := by decide +kernel
theorem dL_law_900 : decode code 900 = .ok (.iconst 1, 1) := by decide +kernel
theorem dL_law_901 : decode code 901 = .ok (.iadd, 1) := by decide +kernel
theorem dL_law_902 : decode code 902 = .ok (.iaload, 1) := by decide +kernel
theorem dL_law_903 : decode code 903 = .ok (.aload_n 0, 1) := by decide +kernel
theorem dL_law_904 : decode code 904 = .ok (.iload 4, 2) := by decide +kernel
theorem dL_law_906 : decode code 906 = .ok (.iconst 2, 1) := by decide +kernel
theorem dL_law_907 : decode code 907 = .ok (.iadd, 1) := by decide +kernel
theorem dL_law_908 : decode code 908 = .ok (.iaload, 1) := by decide +kernel
theorem dL_law_909 : decode code 909 = .ok (.aload_n 3, 1) := by decide +kernel
theorem dL_law_910 : decode code 910 = .ok (.invokestatic 100, 3) := by decide +kernel
theorem dL_law_913 : decode code 913 = .ok (.istore 5, 2) := by decide +kernel
theorem dL_law_915 : decode code 915 = .ok (.aload_n 2, 1) := by decide +kernel
theorem dL_law_916 : decode code 916 = .ok (.aload_n 0, 1) := by decide +kernel
theorem dL_law_917 : decode code 917 = .ok (.iload 4, 2) := by decide +kernel
theorem dL_law_919 : decode code 919 = .ok (.iconst 1, 1) := by decide +kernel
theorem dL_law_920 : decode code 920 = .ok (.iadd, 1) := by decide +kernel
theorem dL_law_921 : decode code 921 = .ok (.iaload, 1) := by decide +kernel
theorem dL_law_922 : decode code 922 = .ok (.aload_n 0, 1) := by decide +kernel
theorem dL_law_923 : decode code 923 = .ok (.iload 4, 2) := by decide +kernel
theorem dL_law_925 : decode code 925 = .ok (.iconst 2, 1) := by decide +kernel
theorem dL_law_926 : decode code 926 = .ok (.iadd, 1) := by decide +kernel
theorem dL_law_927 : decode code 927 = .ok (.iaload, 1) := by decide +kernel
theorem dL_law_928 : decode code 928 = .ok (.invokevirtual 103, 3) := by decide +kernel
theorem dL_law_931 : decode code 931 = .ok (.lstore 6, 2) := by decide +kernel
theorem dL_law_933 : decode code 933 = .ok (.aload_n 2, 1) := by decide +kernel
theorem dL_law_934 : decode code 934 = .ok (.invokevirtual 53, 3) := by decide +kernel
theorem dL_law_937 : decode code 937 = .ok (.iload 5, 2) := by decide +kernel
theorem dL_law_939 : decode code 939 = .ok (.if_icmp .eq 5, 3) := by decide +kernel
theorem dL_law_942 : decode code 942 = .ok (.iconst 0, 1) := by decide +kernel
theorem dL_law_943 : decode code 943 = .ok (.ireturn, 1) := by decide +kernel
theorem dL_law_944 : decode code 944 = .ok (.iload 5, 2) := by decide +kernel
theorem dL_law_946 : decode code 946 = .ok (.ifCond .ne 14, 3) := by decide +kernel
theorem dL_law_949 : decode code 949 = .ok (.aload_n 3, 1) := by decide +kernel
theorem dL_law_950 : decode code 950 = .ok (.iconst 0, 1) := by decide +kernel
theorem dL_law_951 : decode code 951 = .ok (.laload, 1) := by decide +kernel
theorem dL_law_952 : decode code 952 = .ok (.lload 6, 2) := by decide +kernel
theorem dL_law_954 : decode code 954 = .ok (.lcmp, 1) := by decide +kernel
theorem dL_law_955 : decode code 955 = .ok (.ifCond .eq 5, 3) := by decide +kernel
theorem dL_law_958 : decode code 958 = .ok (.iconst 0, 1) := by decide +kernel
theorem dL_law_959 : decode code 959 = .ok (.ireturn, 1) := by decide +kernel
theorem dL_law_960 : decode code 960 = .ok (.goto 224, 3) := by decide +kernel
theorem dL_law_963 : decode code 963 = .ok (.aload_n 1, 1) := by decide +kernel
theorem dL_law_964 : decode code 964 = .ok (.aload_n 0, 1) := by decide +kernel
theorem dL_law_965 : decode code 965 = .ok (.iload 4, 2) := by decide +kernel
