theorem d_law_851 : decode code 851 = .ok (.if_icmp .eq 5, 3) := by decide +kernel
theorem d_law_854 : decode code 854 = .ok (.iconst 0, 1) := by decide +kernel
theorem d_law_855 : decode code 855 = .ok (.ireturn, 1) := by decide +kernel
theorem d_law_856 : decode code 856 = .ok (.iload 5, 2) := by decide +kernel
theorem d_law_858 : decode code 858 = .ok (.ifCond .ne 15, 3) := by decide +kernel
theorem d_law_861 : decode code 861 = .ok (.aload_n 3, 1) := by decide +kernel
theorem d_law_862 : decode code 862 = .ok (.iconst 0, 1) := by decide +kernel
theorem d_law_863 : decode code 863 = .ok (.laload, 1) := by decide +kernel
theorem d_law_864 : decode code 864 = .ok (.iload 6, 2) := by decide +kernel
theorem d_law_866 : decode code 866 = .ok (.i2l, 1) := by decide +kernel
theorem d_law_867 : decode code 867 = .ok (.lcmp, 1) := by decide +kernel
theorem d_law_868 : decode code 868 = .ok (.ifCond .eq 5, 3) := by decide +kernel
theorem d_law_871 : decode code 871 = .ok (.iconst 0, 1) := by decide +kernel
theorem d_law_872 : decode code 872 = .ok (.ireturn, 1) := by decide +kernel
theorem d_law_873 : decode code 873 = .ok (.goto 145, 3) := by decide +kernel
theorem d_law_876 : decode code 876 = .ok (.aload_n 1, 1) := by decide +kernel
theorem d_law_877 : decode code 877 = .ok (.aload_n 0, 1) := by decide +kernel
theorem d_law_878 : decode code 878 = .ok (.iload 4, 2) := by decide +kernel
theorem d_law_880 : decode code 880 = .ok (.iconst 1, 1) := by decide +kernel
theorem d_law_881 : decode code 881 = .ok (.iadd, 1) := by decide +kernel
theorem d_law_882 : decode code 882 = .ok (.iaload, 1) := by decide +kernel
theorem d_law_883 : decode code 883 = .ok (.aload_n 0, 1) := by decide +kernel
theorem d_law_884 : decode code 884 = .ok (.iload 4, 2) := by decide +kernel
theorem d_law_886 : decode code 886 = .ok (.iconst 2, 1) := by decide +kernel
theorem d_law_887 : decode code 887 = .ok (.iadd, 1) := by decide +kernel
theorem d_law_888 : decode code 888 = .ok (.iaload, 1) := by decide +kernel
theorem d_law_889 : decode code 889 = .ok (.aload_n 3, 1) := by decide +kernel
theorem d_law_890 : decode code 890 = .ok (.invokestatic 99, 3) := by decide +kernel
theorem d_law_893 : decode code 893 = .ok (.istore 5, 2) := by decide +kernel
theorem d_law_895 : decode code 895 = .ok (.aload_n 2, 1) := by decide +kernel
theorem d_law_896 : decode code 896 = .ok (.aload_n 0, 1) := by decide +kernel
theorem d_law_897 : decode code 897 = .ok (.iload 4, 2) := by decide +kernel
theorem d_law_899 : decode code 899 = .ok (.iconst 1, 1) := by decide +kernel
theorem d_law_900 : decode code 900 = .ok (.iadd, 1) := by decide +kernel
theorem d_law_901 : decode code 901 = .ok (.iaload, 1) := by decide +kernel
theorem d_law_902 : decode code 902 = .ok (.aload_n 0, 1) := by decide +kernel
theorem d_law_903 : decode code 903 = .ok (.iload 4, 2) := by decide +kernel
theorem d_law_905 : decode code 905 = .ok (.iconst 2, 1) := by decide +kernel
theorem d_law_906 : decode code 906 = .ok (.iadd, 1) := by decide +kernel
theorem d_law_907 : decode code 907 = .ok (.iaload, 1) := by decide +kernel
theorem d_law_908 : decode code 908 = .ok (.invokevirtual 101, 3) := by decide +kernel
theorem d_law_911 : decode code 911 = .ok (.lstore 6, 2) := by decide +kernel
theorem d_law_913 : decode code 913 = .ok (.aload_n 2, 1) := by decide +kernel
theorem d_law_914 : decode code 914 = .ok (.invokevirtual 66, 3) := by decide +kernel
theorem d_law_917 : decode code 917 = .ok (.iload 5, 2) := by decide +kernel
theorem d_law_919 : decode code 919 = .ok (.if_icmp .eq 5, 3) := by decide +kernel
theorem d_law_922 : decode code 922 = .ok (.iconst 0, 1) := by decide +kernel
theorem d_law_923 : decode code 923 = .ok (.ireturn, 1) := by decide +kernel
theorem d_law_924 : decode code 924 = .ok (.iload 5, 2) := by decide +kernel
theorem d_law_926 : decode code 926 = .ok (.ifCond .ne 14, 3) := by decide +kernel
theorem d_law_929 : decode code 929 = .ok (.aload_n 3, 1) := by decide +kernel
theorem d_law_930 : decode code 930 = .ok (.iconst 0, 1) := by decide +kernel
theorem d_law_931 : decode code 931 = .ok (.laload, 1) := by decide +kernel
theorem d_law_932 : decode code 932 = .ok (.lload 6, 2) := by decide +kernel
theorem d_law_934 : decode code 934 = .ok (.lcmp, 1) := by decide +kernel
theorem d_law_935 : decode code 935 = .ok (.ifCond .eq 5, 3) := by decide +kernel
theorem d_law_938 : decode code 938 = .ok (.iconst 0, 1) := by decide +kernel
theorem d_law_939 : decode code 939 = .ok (.ireturn, 1) := by decide +kernel
theorem d_law_940 : decode code 940 = .ok (.goto 78, 3) := by decide +kernel
theorem d_law_943 : decode code 943 = .ok (.aload_n 1, 1) := by decide +kernel
