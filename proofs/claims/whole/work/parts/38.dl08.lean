theorem d_law_760 : decode code 760 = .ok (.aload_n 0, 1) := by decide +kernel
theorem d_law_761 : decode code 761 = .ok (.iload 4, 2) := by decide +kernel
theorem d_law_763 : decode code 763 = .ok (.iconst 1, 1) := by decide +kernel
theorem d_law_764 : decode code 764 = .ok (.iadd, 1) := by decide +kernel
theorem d_law_765 : decode code 765 = .ok (.iaload, 1) := by decide +kernel
theorem d_law_766 : decode code 766 = .ok (.aload_n 0, 1) := by decide +kernel
theorem d_law_767 : decode code 767 = .ok (.iload 4, 2) := by decide +kernel
theorem d_law_769 : decode code 769 = .ok (.iconst 2, 1) := by decide +kernel
theorem d_law_770 : decode code 770 = .ok (.iadd, 1) := by decide +kernel
theorem d_law_771 : decode code 771 = .ok (.iaload, 1) := by decide +kernel
theorem d_law_772 : decode code 772 = .ok (.invokevirtual 95, 3) := by decide +kernel
theorem d_law_775 : decode code 775 = .ok (.istore 6, 2) := by decide +kernel
theorem d_law_777 : decode code 777 = .ok (.aload_n 2, 1) := by decide +kernel
theorem d_law_778 : decode code 778 = .ok (.invokevirtual 66, 3) := by decide +kernel
theorem d_law_781 : decode code 781 = .ok (.iload 5, 2) := by decide +kernel
theorem d_law_783 : decode code 783 = .ok (.if_icmp .eq 5, 3) := by decide +kernel
theorem d_law_786 : decode code 786 = .ok (.iconst 0, 1) := by decide +kernel
theorem d_law_787 : decode code 787 = .ok (.ireturn, 1) := by decide +kernel
theorem d_law_788 : decode code 788 = .ok (.iload 5, 2) := by decide +kernel
theorem d_law_790 : decode code 790 = .ok (.ifCond .ne 15, 3) := by decide +kernel
theorem d_law_793 : decode code 793 = .ok (.aload_n 3, 1) := by decide +kernel
theorem d_law_794 : decode code 794 = .ok (.iconst 0, 1) := by decide +kernel
theorem d_law_795 : decode code 795 = .ok (.laload, 1) := by decide +kernel
theorem d_law_796 : decode code 796 = .ok (.iload 6, 2) := by decide +kernel
theorem d_law_798 : decode code 798 = .ok (.i2l, 1) := by decide +kernel
theorem d_law_799 : decode code 799 = .ok (.lcmp, 1) := by decide +kernel
theorem d_law_800 : decode code 800 = .ok (.ifCond .eq 5, 3) := by decide +kernel
theorem d_law_803 : decode code 803 = .ok (.iconst 0, 1) := by decide +kernel
theorem d_law_804 : decode code 804 = .ok (.ireturn, 1) := by decide +kernel
theorem d_law_805 : decode code 805 = .ok (.goto 213, 3) := by decide +kernel
theorem d_law_808 : decode code 808 = .ok (.aload_n 1, 1) := by decide +kernel
theorem d_law_809 : decode code 809 = .ok (.aload_n 0, 1) := by decide +kernel
theorem d_law_810 : decode code 810 = .ok (.iload 4, 2) := by decide +kernel
theorem d_law_812 : decode code 812 = .ok (.iconst 1, 1) := by decide +kernel
theorem d_law_813 : decode code 813 = .ok (.iadd, 1) := by decide +kernel
theorem d_law_814 : decode code 814 = .ok (.iaload, 1) := by decide +kernel
theorem d_law_815 : decode code 815 = .ok (.aload_n 0, 1) := by decide +kernel
theorem d_law_816 : decode code 816 = .ok (.iload 4, 2) := by decide +kernel
theorem d_law_818 : decode code 818 = .ok (.iconst 2, 1) := by decide +kernel
theorem d_law_819 : decode code 819 = .ok (.iadd, 1) := by decide +kernel
theorem d_law_820 : decode code 820 = .ok (.iaload, 1) := by decide +kernel
theorem d_law_821 : decode code 821 = .ok (.aload_n 3, 1) := by decide +kernel
theorem d_law_822 : decode code 822 = .ok (.invokestatic 96, 3) := by decide +kernel
theorem d_law_825 : decode code 825 = .ok (.istore 5, 2) := by decide +kernel
theorem d_law_827 : decode code 827 = .ok (.aload_n 2, 1) := by decide +kernel
theorem d_law_828 : decode code 828 = .ok (.aload_n 0, 1) := by decide +kernel
theorem d_law_829 : decode code 829 = .ok (.iload 4, 2) := by decide +kernel
theorem d_law_831 : decode code 831 = .ok (.iconst 1, 1) := by decide +kernel
theorem d_law_832 : decode code 832 = .ok (.iadd, 1) := by decide +kernel
theorem d_law_833 : decode code 833 = .ok (.iaload, 1) := by decide +kernel
theorem d_law_834 : decode code 834 = .ok (.aload_n 0, 1) := by decide +kernel
theorem d_law_835 : decode code 835 = .ok (.iload 4, 2) := by decide +kernel
theorem d_law_837 : decode code 837 = .ok (.iconst 2, 1) := by decide +kernel
theorem d_law_838 : decode code 838 = .ok (.iadd, 1) := by decide +kernel
theorem d_law_839 : decode code 839 = .ok (.iaload, 1) := by decide +kernel
theorem d_law_840 : decode code 840 = .ok (.invokevirtual 98, 3) := by decide +kernel
theorem d_law_843 : decode code 843 = .ok (.istore 6, 2) := by decide +kernel
theorem d_law_845 : decode code 845 = .ok (.aload_n 2, 1) := by decide +kernel
theorem d_law_846 : decode code 846 = .ok (.invokevirtual 66, 3) := by decide +kernel
theorem d_law_849 : decode code 849 = .ok (.iload 5, 2) := by decide +kernel
