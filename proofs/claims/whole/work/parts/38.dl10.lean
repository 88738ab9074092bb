theorem d_law_944 : decode code 944 = .ok (.aload_n 0, 1) := by decide +kernel
theorem d_law_945 : decode code 945 = .ok (.iload 4, 2) := by decide +kernel
theorem d_law_947 : decode code 947 = .ok (.iconst 1, 1) := by decide +kernel
theorem d_law_948 : decode code 948 = .ok (.iadd, 1) := by decide +kernel
theorem d_law_949 : decode code 949 = .ok (.iaload, 1) := by decide +kernel
theorem d_law_950 : decode code 950 = .ok (.aload_n 0, 1) := by decide +kernel
theorem d_law_951 : decode code 951 = .ok (.iload 4, 2) := by decide +kernel
theorem d_law_953 : decode code 953 = .ok (.iconst 2, 1) := by decide +kernel
theorem d_law_954 : decode code 954 = .ok (.iadd, 1) := by decide +kernel
theorem d_law_955 : decode code 955 = .ok (.iaload, 1) := by decide +kernel
theorem d_law_956 : decode code 956 = .ok (.aload_n 3, 1) := by decide +kernel
theorem d_law_957 : decode code 957 = .ok (.invokestatic 102, 3) := by decide +kernel
theorem d_law_960 : decode code 960 = .ok (.istore 5, 2) := by decide +kernel
theorem d_law_962 : decode code 962 = .ok (.aload_n 2, 1) := by decide +kernel
theorem d_law_963 : decode code 963 = .ok (.aload_n 0, 1) := by decide +kernel
theorem d_law_964 : decode code 964 = .ok (.iload 4, 2) := by decide +kernel
theorem d_law_966 : decode code 966 = .ok (.iconst 1, 1) := by decide +kernel
theorem d_law_967 : decode code 967 = .ok (.iadd, 1) := by decide +kernel
theorem d_law_968 : decode code 968 = .ok (.iaload, 1) := by decide +kernel
theorem d_law_969 : decode code 969 = .ok (.aload_n 0, 1) := by decide +kernel
theorem d_law_970 : decode code 970 = .ok (.iload 4, 2) := by decide +kernel
theorem d_law_972 : decode code 972 = .ok (.iconst 2, 1) := by decide +kernel
theorem d_law_973 : decode code 973 = .ok (.iadd, 1) := by decide +kernel
theorem d_law_974 : decode code 974 = .ok (.iaload, 1) := by decide +kernel
theorem d_law_975 : decode code 975 = .ok (.invokevirtual 104, 3) := by decide +kernel
theorem d_law_978 : decode code 978 = .ok (.istore 6, 2) := by decide +kernel
theorem d_law_980 : decode code 980 = .ok (.aload_n 2, 1) := by decide +kernel
theorem d_law_981 : decode code 981 = .ok (.invokevirtual 66, 3) := by decide +kernel
theorem d_law_984 : decode code 984 = .ok (.iload 5, 2) := by decide +kernel
theorem d_law_986 : decode code 986 = .ok (.if_icmp .eq 5, 3) := by decide +kernel
theorem d_law_989 : decode code 989 = .ok (.iconst 0, 1) := by decide +kernel
theorem d_law_990 : decode code 990 = .ok (.ireturn, 1) := by decide +kernel
theorem d_law_991 : decode code 991 = .ok (.iload 5, 2) := by decide +kernel
theorem d_law_993 : decode code 993 = .ok (.ifCond .ne 22, 3) := by decide +kernel
theorem d_law_996 : decode code 996 = .ok (.aload_n 3, 1) := by decide +kernel
theorem d_law_997 : decode code 997 = .ok (.iconst 0, 1) := by decide +kernel
theorem d_law_998 : decode code 998 = .ok (.laload, 1) := by decide +kernel
theorem d_law_999 : decode code 999 = .ok (.iload 6, 2) := by decide +kernel
theorem d_law_1001 : decode code 1001 = .ok (.ifCond .eq 7, 3) := by decide +kernel
theorem d_law_1004 : decode code 1004 = .ok (.lconst 1, 1) := by decide +kernel
theorem d_law_1005 : decode code 1005 = .ok (.goto 4, 3) := by decide +kernel
theorem d_law_1008 : decode code 1008 = .ok (.lconst 0, 1) := by decide +kernel
theorem d_law_1009 : decode code 1009 = .ok (.lcmp, 1) := by decide +kernel
theorem d_law_1010 : decode code 1010 = .ok (.ifCond .eq 5, 3) := by decide +kernel
theorem d_law_1013 : decode code 1013 = .ok (.iconst 0, 1) := by decide +kernel
theorem d_law_1014 : decode code 1014 = .ok (.ireturn, 1) := by decide +kernel
theorem d_law_1015 : decode code 1015 = .ok (.goto 3, 3) := by decide +kernel
theorem d_law_1018 : decode code 1018 = .ok (.iinc 4 5, 3) := by decide +kernel
theorem d_law_1021 : decode code 1021 = .ok (.goto (-998), 3) := by decide +kernel
theorem d_law_1024 : decode code 1024 = .ok (.iconst 1, 1) := by decide +kernel
theorem d_law_1025 : decode code 1025 = .ok (.ireturn, 1) := by decide +kernel
