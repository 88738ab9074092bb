theorem d_Mo_init_0 : decode c_Mo_init 0 = .ok (.aload_n 0, 1) := by decide +kernel
theorem d_Mo_init_1 : decode c_Mo_init 1 = .ok (.invokespecial 1, 3) := by decide +kernel
theorem d_Mo_init_4 : decode c_Mo_init 4 = .ok (.aload_n 0, 1) := by decide +kernel
theorem d_Mo_init_5 : decode c_Mo_init 5 = .ok (.iconst 0, 1) := by decide +kernel
theorem d_Mo_init_6 : decode c_Mo_init 6 = .ok (.putfield 7, 3) := by decide +kernel
theorem d_Mo_init_9 : decode c_Mo_init 9 = .ok (.aload_n 0, 1) := by decide +kernel
theorem d_Mo_init_10 : decode c_Mo_init 10 = .ok (.bipush 8, 2) := by decide +kernel
theorem d_Mo_init_12 : decode c_Mo_init 12 = .ok (.newarray .int, 2) := by decide +kernel
theorem d_Mo_init_14 : decode c_Mo_init 14 = .ok (.putfield 13, 3) := by decide +kernel
theorem d_Mo_init_17 : decode c_Mo_init 17 = .ok (.aload_n 0, 1) := by decide +kernel
theorem d_Mo_init_18 : decode c_Mo_init 18 = .ok (.ldc 17, 2) := by decide +kernel
theorem d_Mo_init_20 : decode c_Mo_init 20 = .ok (.newarray .int, 2) := by decide +kernel
theorem d_Mo_init_22 : decode c_Mo_init 22 = .ok (.putfield 18, 3) := by decide +kernel
theorem d_Mo_init_25 : decode c_Mo_init 25 = .ok (.aload_n 0, 1) := by decide +kernel
theorem d_Mo_init_26 : decode c_Mo_init 26 = .ok (.sipush 4096, 3) := by decide +kernel
theorem d_Mo_init_29 : decode c_Mo_init 29 = .ok (.newarray .int, 2) := by decide +kernel
theorem d_Mo_init_31 : decode c_Mo_init 31 = .ok (.putfield 21, 3) := by decide +kernel
theorem d_Mo_init_34 : decode c_Mo_init 34 = .ok (.aload_n 0, 1) := by decide +kernel
theorem d_Mo_init_35 : decode c_Mo_init 35 = .ok (.sipush 256, 3) := by decide +kernel
theorem d_Mo_init_38 : decode c_Mo_init 38 = .ok (.newarray .boolean, 2) := by decide +kernel
theorem d_Mo_init_40 : decode c_Mo_init 40 = .ok (.putfield 24, 3) := by decide +kernel
theorem d_Mo_init_43 : decode c_Mo_init 43 = .ok (.iconst 0, 1) := by decide +kernel
theorem d_Mo_init_44 : decode c_Mo_init 44 = .ok (.istore_n 1, 1) := by decide +kernel
theorem d_Mo_init_45 : decode c_Mo_init 45 = .ok (.iload_n 1, 1) := by decide +kernel
theorem d_Mo_init_46 : decode c_Mo_init 46 = .ok (.bipush 8, 2) := by decide +kernel
theorem d_Mo_init_48 : decode c_Mo_init 48 = .ok (.if_icmp .ge 16, 3) := by decide +kernel
theorem d_Mo_init_51 : decode c_Mo_init 51 = .ok (.aload_n 0, 1) := by decide +kernel
theorem d_Mo_init_52 : decode c_Mo_init 52 = .ok (.getfield 13, 3) := by decide +kernel
theorem d_Mo_init_55 : decode c_Mo_init 55 = .ok (.iload_n 1, 1) := by decide +kernel
theorem d_Mo_init_56 : decode c_Mo_init 56 = .ok (.iconst 1, 1) := by decide +kernel
theorem d_Mo_init_57 : decode c_Mo_init 57 = .ok (.iastore, 1) := by decide +kernel
theorem d_Mo_init_58 : decode c_Mo_init 58 = .ok (.iinc 1 1, 3) := by decide +kernel
theorem d_Mo_init_61 : decode c_Mo_init 61 = .ok (.goto (-16), 3) := by decide +kernel
theorem d_Mo_init_64 : decode c_Mo_init 64 = .ok (.return_, 1) := by decide +kernel
theorem d_Mo_thrown_0 : decode c_Mo_thrown 0 = .ok (.aload_n 0, 1) := by decide +kernel
theorem d_Mo_thrown_1 : decode c_Mo_thrown 1 = .ok (.getfield 7, 3) := by decide +kernel
theorem d_Mo_thrown_4 : decode c_Mo_thrown 4 = .ok (.ireturn, 1) := by decide +kernel
theorem d_Mo_width_0 : decode c_Mo_width 0 = .ok (.aload_n 0, 1) := by decide +kernel
theorem d_Mo_width_1 : decode c_Mo_width 1 = .ok (.iload_n 1, 1) := by decide +kernel
theorem d_Mo_width_2 : decode c_Mo_width 2 = .ok (.invokevirtual 36, 3) := by decide +kernel
theorem d_Mo_width_5 : decode c_Mo_width 5 = .ok (.ifCond .ne 26, 3) := by decide +kernel
theorem d_Mo_width_8 : decode c_Mo_width 8 = .ok (.aload_n 0, 1) := by decide +kernel
theorem d_Mo_width_9 : decode c_Mo_width 9 = .ok (.iconst 2, 1) := by decide +kernel
theorem d_Mo_width_10 : decode c_Mo_width 10 = .ok (.iload_n 2, 1) := by decide +kernel
theorem d_Mo_width_11 : decode c_Mo_width 11 = .ok (.iconst 1, 1) := by decide +kernel
theorem d_Mo_width_12 : decode c_Mo_width 12 = .ok (.if_icmp .lt 8, 3) := by decide +kernel
theorem d_Mo_width_15 : decode c_Mo_width 15 = .ok (.iload_n 2, 1) := by decide +kernel
theorem d_Mo_width_16 : decode c_Mo_width 16 = .ok (.iconst 3, 1) := by decide +kernel
theorem d_Mo_width_17 : decode c_Mo_width 17 = .ok (.if_icmp .le 7, 3) := by decide +kernel
theorem d_Mo_width_20 : decode c_Mo_width 20 = .ok (.iconst 1, 1) := by decide +kernel
theorem d_Mo_width_21 : decode c_Mo_width 21 = .ok (.goto 4, 3) := by decide +kernel
theorem d_Mo_width_24 : decode c_Mo_width 24 = .ok (.iconst 0, 1) := by decide +kernel
theorem d_Mo_width_25 : decode c_Mo_width 25 = .ok (.invokevirtual 28, 3) := by decide +kernel
theorem d_Mo_width_28 : decode c_Mo_width 28 = .ok (.ifCond .eq 5, 3) := by decide +kernel
theorem d_Mo_width_31 : decode c_Mo_width 31 = .ok (.iconst 0, 1) := by decide +kernel
theorem d_Mo_width_32 : decode c_Mo_width 32 = .ok (.ireturn, 1) := by decide +kernel
theorem d_Mo_width_33 : decode c_Mo_width 33 = .ok (.aload_n 0, 1) := by decide +kernel
theorem d_Mo_width_34 : decode c_Mo_width 34 = .ok (.iload_n 1, 1) := by decide +kernel
theorem d_Mo_width_35 : decode c_Mo_width 35 = .ok (.invokevirtual 40, 3) := by decide +kernel
theorem d_Mo_width_38 : decode c_Mo_width 38 = .ok (.istore_n 3, 1) := by decide +kernel
theorem d_Mo_width_39 : decode c_Mo_width 39 = .ok (.aload_n 0, 1) := by decide +kernel
theorem d_Mo_width_40 : decode c_Mo_width 40 = .ok (.getfield 13, 3) := by decide +kernel
theorem d_Mo_width_43 : decode c_Mo_width 43 = .ok (.iload_n 1, 1) := by decide +kernel
theorem d_Mo_width_44 : decode c_Mo_width 44 = .ok (.iload_n 2, 1) := by decide +kernel
theorem d_Mo_width_45 : decode c_Mo_width 45 = .ok (.iastore, 1) := by decide +kernel
theorem d_Mo_width_46 : decode c_Mo_width 46 = .ok (.iconst 0, 1) := by decide +kernel
theorem d_Mo_width_47 : decode c_Mo_width 47 = .ok (.istore 4, 2) := by decide +kernel
theorem d_Mo_width_49 : decode c_Mo_width 49 = .ok (.iload 4, 2) := by decide +kernel
theorem d_Mo_width_51 : decode c_Mo_width 51 = .ok (.sipush 4096, 3) := by decide +kernel
theorem d_Mo_width_54 : decode c_Mo_width 54 = .ok (.if_icmp .ge 23, 3) := by decide +kernel
theorem d_Mo_width_57 : decode c_Mo_width 57 = .ok (.aload_n 0, 1) := by decide +kernel
theorem d_Mo_width_58 : decode c_Mo_width 58 = .ok (.getfield 18, 3) := by decide +kernel
theorem d_Mo_width_61 : decode c_Mo_width 61 = .ok (.sipush 4096, 3) := by decide +kernel
theorem d_Mo_width_64 : decode c_Mo_width 64 = .ok (.iload_n 1, 1) := by decide +kernel
theorem d_Mo_width_65 : decode c_Mo_width 65 = .ok (.imul, 1) := by decide +kernel
theorem d_Mo_width_66 : decode c_Mo_width 66 = .ok (.iload 4, 2) := by decide +kernel
theorem d_Mo_width_68 : decode c_Mo_width 68 = .ok (.iadd, 1) := by decide +kernel
theorem d_Mo_width_69 : decode c_Mo_width 69 = .ok (.iconst 0, 1) := by decide +kernel
theorem d_Mo_width_70 : decode c_Mo_width 70 = .ok (.iastore, 1) := by decide +kernel
theorem d_Mo_width_71 : decode c_Mo_width 71 = .ok (.iinc 4 1, 3) := by decide +kernel
theorem d_Mo_width_74 : decode c_Mo_width 74 = .ok (.goto (-25), 3) := by decide +kernel
theorem d_Mo_width_77 : decode c_Mo_width 77 = .ok (.iload_n 3, 1) := by decide +kernel
theorem d_Mo_width_78 : decode c_Mo_width 78 = .ok (.ireturn, 1) := by decide +kernel
theorem d_Mo_none_0 : decode c_Mo_none 0 = .ok (.aload_n 0, 1) := by decide +kernel
theorem d_Mo_none_1 : decode c_Mo_none 1 = .ok (.iconst 0, 1) := by decide +kernel
theorem d_Mo_none_2 : decode c_Mo_none 2 = .ok (.putfield 7, 3) := by decide +kernel
theorem d_Mo_none_5 : decode c_Mo_none 5 = .ok (.aload_n 0, 1) := by decide +kernel
theorem d_Mo_none_6 : decode c_Mo_none 6 = .ok (.iconst 1, 1) := by decide +kernel
theorem d_Mo_none_7 : decode c_Mo_none 7 = .ok (.iload_n 1, 1) := by decide +kernel
theorem d_Mo_none_8 : decode c_Mo_none 8 = .ok (.ifCond .lt 9, 3) := by decide +kernel
theorem d_Mo_none_11 : decode c_Mo_none 11 = .ok (.iload_n 1, 1) := by decide +kernel
theorem d_Mo_none_12 : decode c_Mo_none 12 = .ok (.bipush 7, 2) := by decide +kernel
theorem d_Mo_none_14 : decode c_Mo_none 14 = .ok (.if_icmp .le 7, 3) := by decide +kernel
theorem d_Mo_none_17 : decode c_Mo_none 17 = .ok (.iconst 1, 1) := by decide +kernel
theorem d_Mo_none_18 : decode c_Mo_none 18 = .ok (.goto 4, 3) := by decide +kernel
theorem d_Mo_none_21 : decode c_Mo_none 21 = .ok (.iconst 0, 1) := by decide +kernel
theorem d_Mo_none_22 : decode c_Mo_none 22 = .ok (.invokevirtual 28, 3) := by decide +kernel
theorem d_Mo_none_25 : decode c_Mo_none 25 = .ok (.ireturn, 1) := by decide +kernel
theorem d_Mo_refuse_0 : decode c_Mo_refuse 0 = .ok (.iload_n 2, 1) := by decide +kernel
theorem d_Mo_refuse_1 : decode c_Mo_refuse 1 = .ok (.ifCond .eq 8, 3) := by decide +kernel
theorem d_Mo_refuse_4 : decode c_Mo_refuse 4 = .ok (.aload_n 0, 1) := by decide +kernel
theorem d_Mo_refuse_5 : decode c_Mo_refuse 5 = .ok (.iload_n 1, 1) := by decide +kernel
theorem d_Mo_refuse_6 : decode c_Mo_refuse 6 = .ok (.putfield 7, 3) := by decide +kernel
theorem d_Mo_refuse_9 : decode c_Mo_refuse 9 = .ok (.iload_n 2, 1) := by decide +kernel
theorem d_Mo_refuse_10 : decode c_Mo_refuse 10 = .ok (.ireturn, 1) := by decide +kernel
theorem d_Mo_in_0 : decode c_Mo_in 0 = .ok (.aload_n 0, 1) := by decide +kernel
theorem d_Mo_in_1 : decode c_Mo_in 1 = .ok (.getfield 18, 3) := by decide +kernel
theorem d_Mo_in_4 : decode c_Mo_in 4 = .ok (.sipush 4096, 3) := by decide +kernel
theorem d_Mo_in_7 : decode c_Mo_in 7 = .ok (.iload_n 1, 1) := by decide +kernel
theorem d_Mo_in_8 : decode c_Mo_in 8 = .ok (.imul, 1) := by decide +kernel
theorem d_Mo_in_9 : decode c_Mo_in 9 = .ok (.invokestatic 32, 3) := by decide +kernel
theorem d_Mo_in_12 : decode c_Mo_in 12 = .ok (.ireturn, 1) := by decide +kernel
theorem d_Mo_many_0 : decode c_Mo_many 0 = .ok (.iconst 0, 1) := by decide +kernel
theorem d_Mo_many_1 : decode c_Mo_many 1 = .ok (.istore_n 2, 1) := by decide +kernel
theorem d_Mo_many_2 : decode c_Mo_many 2 = .ok (.iconst 0, 1) := by decide +kernel
theorem d_Mo_many_3 : decode c_Mo_many 3 = .ok (.istore_n 3, 1) := by decide +kernel
theorem d_Mo_many_4 : decode c_Mo_many 4 = .ok (.iload_n 3, 1) := by decide +kernel
theorem d_Mo_many_5 : decode c_Mo_many 5 = .ok (.sipush 4096, 3) := by decide +kernel
theorem d_Mo_many_8 : decode c_Mo_many 8 = .ok (.if_icmp .ge 20, 3) := by decide +kernel
theorem d_Mo_many_11 : decode c_Mo_many 11 = .ok (.aload_n 0, 1) := by decide +kernel
theorem d_Mo_many_12 : decode c_Mo_many 12 = .ok (.iload_n 1, 1) := by decide +kernel
theorem d_Mo_many_13 : decode c_Mo_many 13 = .ok (.iload_n 3, 1) := by decide +kernel
theorem d_Mo_many_14 : decode c_Mo_many 14 = .ok (.iadd, 1) := by decide +kernel
theorem d_Mo_many_15 : decode c_Mo_many 15 = .ok (.iaload, 1) := by decide +kernel
theorem d_Mo_many_16 : decode c_Mo_many 16 = .ok (.ifCond .eq 6, 3) := by decide +kernel
theorem d_Mo_many_19 : decode c_Mo_many 19 = .ok (.iinc 2 1, 3) := by decide +kernel
theorem d_Mo_many_22 : decode c_Mo_many 22 = .ok (.iinc 3 1, 3) := by decide +kernel
theorem d_Mo_many_25 : decode c_Mo_many 25 = .ok (.goto (-21), 3) := by decide +kernel
theorem d_Mo_many_28 : decode c_Mo_many 28 = .ok (.iload_n 2, 1) := by decide +kernel
theorem d_Mo_many_29 : decode c_Mo_many 29 = .ok (.ireturn, 1) := by decide +kernel
theorem d_Mo_put_0 : decode c_Mo_put 0 = .ok (.aload_n 0, 1) := by decide +kernel
theorem d_Mo_put_1 : decode c_Mo_put 1 = .ok (.iload_n 1, 1) := by decide +kernel
theorem d_Mo_put_2 : decode c_Mo_put 2 = .ok (.invokevirtual 36, 3) := by decide +kernel
theorem d_Mo_put_5 : decode c_Mo_put 5 = .ok (.ifCond .ne 29, 3) := by decide +kernel
theorem d_Mo_put_8 : decode c_Mo_put 8 = .ok (.aload_n 0, 1) := by decide +kernel
theorem d_Mo_put_9 : decode c_Mo_put 9 = .ok (.iconst 2, 1) := by decide +kernel
theorem d_Mo_put_10 : decode c_Mo_put 10 = .ok (.iload_n 2, 1) := by decide +kernel
theorem d_Mo_put_11 : decode c_Mo_put 11 = .ok (.aload_n 0, 1) := by decide +kernel
theorem d_Mo_put_12 : decode c_Mo_put 12 = .ok (.getfield 13, 3) := by decide +kernel
theorem d_Mo_put_15 : decode c_Mo_put 15 = .ok (.iload_n 1, 1) := by decide +kernel
theorem d_Mo_put_16 : decode c_Mo_put 16 = .ok (.iaload, 1) := by decide +kernel
theorem d_Mo_put_17 : decode c_Mo_put 17 = .ok (.invokestatic 44, 3) := by decide +kernel
theorem d_Mo_put_20 : decode c_Mo_put 20 = .ok (.ifCond .ne 7, 3) := by decide +kernel
theorem d_Mo_put_23 : decode c_Mo_put 23 = .ok (.iconst 1, 1) := by decide +kernel
theorem d_Mo_put_24 : decode c_Mo_put 24 = .ok (.goto 4, 3) := by decide +kernel
theorem d_Mo_put_27 : decode c_Mo_put 27 = .ok (.iconst 0, 1) := by decide +kernel
theorem d_Mo_put_28 : decode c_Mo_put 28 = .ok (.invokevirtual 28, 3) := by decide +kernel
theorem d_Mo_put_31 : decode c_Mo_put 31 = .ok (.ifCond .eq 5, 3) := by decide +kernel
theorem d_Mo_put_34 : decode c_Mo_put 34 = .ok (.iconst 0, 1) := by decide +kernel
theorem d_Mo_put_35 : decode c_Mo_put 35 = .ok (.ireturn, 1) := by decide +kernel
theorem d_Mo_put_36 : decode c_Mo_put 36 = .ok (.aload_n 0, 1) := by decide +kernel
theorem d_Mo_put_37 : decode c_Mo_put 37 = .ok (.iload_n 1, 1) := by decide +kernel
theorem d_Mo_put_38 : decode c_Mo_put 38 = .ok (.iload_n 2, 1) := by decide +kernel
theorem d_Mo_put_39 : decode c_Mo_put 39 = .ok (.invokevirtual 48, 3) := by decide +kernel
theorem d_Mo_put_42 : decode c_Mo_put 42 = .ok (.iload_n 3, 1) := by decide +kernel
theorem d_Mo_put_43 : decode c_Mo_put 43 = .ok (.iadd, 1) := by decide +kernel
theorem d_Mo_put_44 : decode c_Mo_put 44 = .ok (.istore 4, 2) := by decide +kernel
theorem d_Mo_put_46 : decode c_Mo_put 46 = .ok (.aload_n 0, 1) := by decide +kernel
theorem d_Mo_put_47 : decode c_Mo_put 47 = .ok (.iconst 3, 1) := by decide +kernel
theorem d_Mo_put_48 : decode c_Mo_put 48 = .ok (.aload_n 0, 1) := by decide +kernel
theorem d_Mo_put_49 : decode c_Mo_put 49 = .ok (.iload_n 1, 1) := by decide +kernel
theorem d_Mo_put_50 : decode c_Mo_put 50 = .ok (.iload_n 2, 1) := by decide +kernel
theorem d_Mo_put_51 : decode c_Mo_put 51 = .ok (.invokevirtual 48, 3) := by decide +kernel
theorem d_Mo_put_54 : decode c_Mo_put 54 = .ok (.ifCond .ne 23, 3) := by decide +kernel
theorem d_Mo_put_57 : decode c_Mo_put 57 = .ok (.iload 4, 2) := by decide +kernel
theorem d_Mo_put_59 : decode c_Mo_put 59 = .ok (.ifCond .eq 18, 3) := by decide +kernel
theorem d_Mo_put_62 : decode c_Mo_put 62 = .ok (.aload_n 0, 1) := by decide +kernel
theorem d_Mo_put_63 : decode c_Mo_put 63 = .ok (.iload_n 1, 1) := by decide +kernel
theorem d_Mo_put_64 : decode c_Mo_put 64 = .ok (.invokevirtual 40, 3) := by decide +kernel
theorem d_Mo_put_67 : decode c_Mo_put 67 = .ok (.sipush 300, 3) := by decide +kernel
theorem d_Mo_put_70 : decode c_Mo_put 70 = .ok (.if_icmp .ne 7, 3) := by decide +kernel
theorem d_Mo_put_73 : decode c_Mo_put 73 = .ok (.iconst 1, 1) := by decide +kernel
theorem d_Mo_put_74 : decode c_Mo_put 74 = .ok (.goto 4, 3) := by decide +kernel
theorem d_Mo_put_77 : decode c_Mo_put 77 = .ok (.iconst 0, 1) := by decide +kernel
theorem d_Mo_put_78 : decode c_Mo_put 78 = .ok (.invokevirtual 28, 3) := by decide +kernel
theorem d_Mo_put_81 : decode c_Mo_put 81 = .ok (.ifCond .eq 5, 3) := by decide +kernel
theorem d_Mo_put_84 : decode c_Mo_put 84 = .ok (.iconst 0, 1) := by decide +kernel
theorem d_Mo_put_85 : decode c_Mo_put 85 = .ok (.ireturn, 1) := by decide +kernel
theorem d_Mo_put_86 : decode c_Mo_put 86 = .ok (.aload_n 0, 1) := by decide +kernel
theorem d_Mo_put_87 : decode c_Mo_put 87 = .ok (.getfield 18, 3) := by decide +kernel
theorem d_Mo_put_90 : decode c_Mo_put 90 = .ok (.sipush 4096, 3) := by decide +kernel
theorem d_Mo_put_93 : decode c_Mo_put 93 = .ok (.iload_n 1, 1) := by decide +kernel
theorem d_Mo_put_94 : decode c_Mo_put 94 = .ok (.imul, 1) := by decide +kernel
theorem d_Mo_put_95 : decode c_Mo_put 95 = .ok (.iload_n 2, 1) := by decide +kernel
theorem d_Mo_put_96 : decode c_Mo_put 96 = .ok (.iadd, 1) := by decide +kernel
theorem d_Mo_put_97 : decode c_Mo_put 97 = .ok (.iload 4, 2) := by decide +kernel
theorem d_Mo_put_99 : decode c_Mo_put 99 = .ok (.iastore, 1) := by decide +kernel
theorem d_Mo_put_100 : decode c_Mo_put 100 = .ok (.iload 4, 2) := by decide +kernel
theorem d_Mo_put_102 : decode c_Mo_put 102 = .ok (.ireturn, 1) := by decide +kernel
theorem d_Mo_isTuple_0 : decode c_Mo_isTuple 0 = .ok (.iload_n 0, 1) := by decide +kernel
theorem d_Mo_isTuple_1 : decode c_Mo_isTuple 1 = .ok (.ifCond .lt 41, 3) := by decide +kernel
theorem d_Mo_isTuple_4 : decode c_Mo_isTuple 4 = .ok (.iload_n 0, 1) := by decide +kernel
theorem d_Mo_isTuple_5 : decode c_Mo_isTuple 5 = .ok (.sipush 4096, 3) := by decide +kernel
theorem d_Mo_isTuple_8 : decode c_Mo_isTuple 8 = .ok (.if_icmp .ge 34, 3) := by decide +kernel
theorem d_Mo_isTuple_11 : decode c_Mo_isTuple 11 = .ok (.iload_n 0, 1) := by decide +kernel
theorem d_Mo_isTuple_12 : decode c_Mo_isTuple 12 = .ok (.iload_n 1, 1) := by decide +kernel
theorem d_Mo_isTuple_13 : decode c_Mo_isTuple 13 = .ok (.iconst 1, 1) := by decide +kernel
theorem d_Mo_isTuple_14 : decode c_Mo_isTuple 14 = .ok (.if_icmp .ne 9, 3) := by decide +kernel
theorem d_Mo_isTuple_17 : decode c_Mo_isTuple 17 = .ok (.sipush 256, 3) := by decide +kernel
theorem d_Mo_isTuple_20 : decode c_Mo_isTuple 20 = .ok (.goto 14, 3) := by decide +kernel
theorem d_Mo_isTuple_23 : decode c_Mo_isTuple 23 = .ok (.iload_n 1, 1) := by decide +kernel
theorem d_Mo_isTuple_24 : decode c_Mo_isTuple 24 = .ok (.iconst 2, 1) := by decide +kernel
theorem d_Mo_isTuple_25 : decode c_Mo_isTuple 25 = .ok (.if_icmp .ne 8, 3) := by decide +kernel
theorem d_Mo_isTuple_28 : decode c_Mo_isTuple 28 = .ok (.bipush 16, 2) := by decide +kernel
theorem d_Mo_isTuple_30 : decode c_Mo_isTuple 30 = .ok (.goto 4, 3) := by decide +kernel
theorem d_Mo_isTuple_33 : decode c_Mo_isTuple 33 = .ok (.iconst 1, 1) := by decide +kernel
theorem d_Mo_isTuple_34 : decode c_Mo_isTuple 34 = .ok (.irem, 1) := by decide +kernel
theorem d_Mo_isTuple_35 : decode c_Mo_isTuple 35 = .ok (.ifCond .ne 7, 3) := by decide +kernel
theorem d_Mo_isTuple_38 : decode c_Mo_isTuple 38 = .ok (.iconst 1, 1) := by decide +kernel
theorem d_Mo_isTuple_39 : decode c_Mo_isTuple 39 = .ok (.goto 4, 3) := by decide +kernel
theorem d_Mo_isTuple_42 : decode c_Mo_isTuple 42 = .ok (.iconst 0, 1) := by decide +kernel
theorem d_Mo_isTuple_43 : decode c_Mo_isTuple 43 = .ok (.ireturn, 1) := by decide +kernel
theorem d_Mo_of_0 : decode c_Mo_of 0 = .ok (.aload_n 0, 1) := by decide +kernel
theorem d_Mo_of_1 : decode c_Mo_of 1 = .ok (.getfield 18, 3) := by decide +kernel
theorem d_Mo_of_4 : decode c_Mo_of 4 = .ok (.sipush 4096, 3) := by decide +kernel
theorem d_Mo_of_7 : decode c_Mo_of 7 = .ok (.iload_n 1, 1) := by decide +kernel
theorem d_Mo_of_8 : decode c_Mo_of 8 = .ok (.imul, 1) := by decide +kernel
theorem d_Mo_of_9 : decode c_Mo_of 9 = .ok (.iload_n 2, 1) := by decide +kernel
theorem d_Mo_of_10 : decode c_Mo_of 10 = .ok (.iadd, 1) := by decide +kernel
theorem d_Mo_of_11 : decode c_Mo_of 11 = .ok (.iaload, 1) := by decide +kernel
theorem d_Mo_of_12 : decode c_Mo_of 12 = .ok (.ireturn, 1) := by decide +kernel
theorem d_Mo_count_0 : decode c_Mo_count 0 = .ok (.aload_n 0, 1) := by decide +kernel
theorem d_Mo_count_1 : decode c_Mo_count 1 = .ok (.iload_n 1, 1) := by decide +kernel
theorem d_Mo_count_2 : decode c_Mo_count 2 = .ok (.invokevirtual 36, 3) := by decide +kernel
theorem d_Mo_count_5 : decode c_Mo_count 5 = .ok (.ifCond .ne 29, 3) := by decide +kernel
theorem d_Mo_count_8 : decode c_Mo_count 8 = .ok (.aload_n 0, 1) := by decide +kernel
theorem d_Mo_count_9 : decode c_Mo_count 9 = .ok (.iconst 2, 1) := by decide +kernel
theorem d_Mo_count_10 : decode c_Mo_count 10 = .ok (.iload_n 2, 1) := by decide +kernel
theorem d_Mo_count_11 : decode c_Mo_count 11 = .ok (.aload_n 0, 1) := by decide +kernel
theorem d_Mo_count_12 : decode c_Mo_count 12 = .ok (.getfield 13, 3) := by decide +kernel
theorem d_Mo_count_15 : decode c_Mo_count 15 = .ok (.iload_n 1, 1) := by decide +kernel
theorem d_Mo_count_16 : decode c_Mo_count 16 = .ok (.iaload, 1) := by decide +kernel
theorem d_Mo_count_17 : decode c_Mo_count 17 = .ok (.invokestatic 44, 3) := by decide +kernel
theorem d_Mo_count_20 : decode c_Mo_count 20 = .ok (.ifCond .ne 7, 3) := by decide +kernel
theorem d_Mo_count_23 : decode c_Mo_count 23 = .ok (.iconst 1, 1) := by decide +kernel
theorem d_Mo_count_24 : decode c_Mo_count 24 = .ok (.goto 4, 3) := by decide +kernel
theorem d_Mo_count_27 : decode c_Mo_count 27 = .ok (.iconst 0, 1) := by decide +kernel
theorem d_Mo_count_28 : decode c_Mo_count 28 = .ok (.invokevirtual 28, 3) := by decide +kernel
theorem d_Mo_count_31 : decode c_Mo_count 31 = .ok (.ifCond .eq 5, 3) := by decide +kernel
theorem d_Mo_count_34 : decode c_Mo_count 34 = .ok (.iconst 0, 1) := by decide +kernel
theorem d_Mo_count_35 : decode c_Mo_count 35 = .ok (.ireturn, 1) := by decide +kernel
theorem d_Mo_count_36 : decode c_Mo_count 36 = .ok (.aload_n 0, 1) := by decide +kernel
theorem d_Mo_count_37 : decode c_Mo_count 37 = .ok (.iload_n 1, 1) := by decide +kernel
theorem d_Mo_count_38 : decode c_Mo_count 38 = .ok (.iload_n 2, 1) := by decide +kernel
theorem d_Mo_count_39 : decode c_Mo_count 39 = .ok (.invokevirtual 48, 3) := by decide +kernel
theorem d_Mo_count_42 : decode c_Mo_count 42 = .ok (.ireturn, 1) := by decide +kernel
theorem d_Mo_at_0 : decode c_Mo_at 0 = .ok (.aload_n 0, 1) := by decide +kernel
theorem d_Mo_at_1 : decode c_Mo_at 1 = .ok (.iload_n 1, 1) := by decide +kernel
theorem d_Mo_at_2 : decode c_Mo_at 2 = .ok (.invokevirtual 36, 3) := by decide +kernel
theorem d_Mo_at_5 : decode c_Mo_at 5 = .ok (.ifCond .eq 5, 3) := by decide +kernel
theorem d_Mo_at_8 : decode c_Mo_at 8 = .ok (.iconst 0, 1) := by decide +kernel
theorem d_Mo_at_9 : decode c_Mo_at 9 = .ok (.ireturn, 1) := by decide +kernel
theorem d_Mo_at_10 : decode c_Mo_at 10 = .ok (.iload_n 2, 1) := by decide +kernel
theorem d_Mo_at_11 : decode c_Mo_at 11 = .ok (.istore_n 3, 1) := by decide +kernel
theorem d_Mo_at_12 : decode c_Mo_at 12 = .ok (.iconst 0, 1) := by decide +kernel
theorem d_Mo_at_13 : decode c_Mo_at 13 = .ok (.istore 4, 2) := by decide +kernel
theorem d_Mo_at_15 : decode c_Mo_at 15 = .ok (.iload 4, 2) := by decide +kernel
theorem d_Mo_at_17 : decode c_Mo_at 17 = .ok (.sipush 4096, 3) := by decide +kernel
theorem d_Mo_at_20 : decode c_Mo_at 20 = .ok (.if_icmp .ge 32, 3) := by decide +kernel
theorem d_Mo_at_23 : decode c_Mo_at 23 = .ok (.aload_n 0, 1) := by decide +kernel
theorem d_Mo_at_24 : decode c_Mo_at 24 = .ok (.iload_n 1, 1) := by decide +kernel
theorem d_Mo_at_25 : decode c_Mo_at 25 = .ok (.iload 4, 2) := by decide +kernel
theorem d_Mo_at_27 : decode c_Mo_at 27 = .ok (.invokevirtual 48, 3) := by decide +kernel
theorem d_Mo_at_30 : decode c_Mo_at 30 = .ok (.ifCond .ne 6, 3) := by decide +kernel
theorem d_Mo_at_33 : decode c_Mo_at 33 = .ok (.goto 13, 3) := by decide +kernel
theorem d_Mo_at_36 : decode c_Mo_at 36 = .ok (.iload_n 3, 1) := by decide +kernel
theorem d_Mo_at_37 : decode c_Mo_at 37 = .ok (.ifCond .ne 6, 3) := by decide +kernel
theorem d_Mo_at_40 : decode c_Mo_at 40 = .ok (.iload 4, 2) := by decide +kernel
theorem d_Mo_at_42 : decode c_Mo_at 42 = .ok (.ireturn, 1) := by decide +kernel
theorem d_Mo_at_43 : decode c_Mo_at 43 = .ok (.iinc 3 (-1), 3) := by decide +kernel
theorem d_Mo_at_46 : decode c_Mo_at 46 = .ok (.iinc 4 1, 3) := by decide +kernel
theorem d_Mo_at_49 : decode c_Mo_at 49 = .ok (.goto (-34), 3) := by decide +kernel
theorem d_Mo_at_52 : decode c_Mo_at 52 = .ok (.aload_n 0, 1) := by decide +kernel
theorem d_Mo_at_53 : decode c_Mo_at 53 = .ok (.iconst 1, 1) := by decide +kernel
theorem d_Mo_at_54 : decode c_Mo_at 54 = .ok (.putfield 7, 3) := by decide +kernel
theorem d_Mo_at_57 : decode c_Mo_at 57 = .ok (.iconst 0, 1) := by decide +kernel
theorem d_Mo_at_58 : decode c_Mo_at 58 = .ok (.ireturn, 1) := by decide +kernel
theorem d_Mo_join_0 : decode c_Mo_join 0 = .ok (.aload_n 0, 1) := by decide +kernel
theorem d_Mo_join_1 : decode c_Mo_join 1 = .ok (.iload_n 1, 1) := by decide +kernel
theorem d_Mo_join_2 : decode c_Mo_join 2 = .ok (.invokevirtual 36, 3) := by decide +kernel
theorem d_Mo_join_5 : decode c_Mo_join 5 = .ok (.ifCond .ne 19, 3) := by decide +kernel
theorem d_Mo_join_8 : decode c_Mo_join 8 = .ok (.aload_n 0, 1) := by decide +kernel
theorem d_Mo_join_9 : decode c_Mo_join 9 = .ok (.iload_n 2, 1) := by decide +kernel
theorem d_Mo_join_10 : decode c_Mo_join 10 = .ok (.invokevirtual 36, 3) := by decide +kernel
theorem d_Mo_join_13 : decode c_Mo_join 13 = .ok (.ifCond .ne 11, 3) := by decide +kernel
theorem d_Mo_join_16 : decode c_Mo_join 16 = .ok (.aload_n 0, 1) := by decide +kernel
theorem d_Mo_join_17 : decode c_Mo_join 17 = .ok (.iload_n 3, 1) := by decide +kernel
theorem d_Mo_join_18 : decode c_Mo_join 18 = .ok (.invokevirtual 36, 3) := by decide +kernel
theorem d_Mo_join_21 : decode c_Mo_join 21 = .ok (.ifCond .eq 5, 3) := by decide +kernel
theorem d_Mo_join_24 : decode c_Mo_join 24 = .ok (.iconst 0, 1) := by decide +kernel
theorem d_Mo_join_25 : decode c_Mo_join 25 = .ok (.ireturn, 1) := by decide +kernel
theorem d_Mo_join_26 : decode c_Mo_join 26 = .ok (.aload_n 0, 1) := by decide +kernel
theorem d_Mo_join_27 : decode c_Mo_join 27 = .ok (.getfield 13, 3) := by decide +kernel
theorem d_Mo_join_30 : decode c_Mo_join 30 = .ok (.iload_n 2, 1) := by decide +kernel
theorem d_Mo_join_31 : decode c_Mo_join 31 = .ok (.iaload, 1) := by decide +kernel
theorem d_Mo_join_32 : decode c_Mo_join 32 = .ok (.aload_n 0, 1) := by decide +kernel
theorem d_Mo_join_33 : decode c_Mo_join 33 = .ok (.getfield 13, 3) := by decide +kernel
theorem d_Mo_join_36 : decode c_Mo_join 36 = .ok (.iload_n 3, 1) := by decide +kernel
theorem d_Mo_join_37 : decode c_Mo_join 37 = .ok (.iaload, 1) := by decide +kernel
theorem d_Mo_join_38 : decode c_Mo_join 38 = .ok (.iadd, 1) := by decide +kernel
theorem d_Mo_join_39 : decode c_Mo_join 39 = .ok (.iload 4, 2) := by decide +kernel
theorem d_Mo_join_41 : decode c_Mo_join 41 = .ok (.isub, 1) := by decide +kernel
theorem d_Mo_join_42 : decode c_Mo_join 42 = .ok (.istore 5, 2) := by decide +kernel
theorem d_Mo_join_44 : decode c_Mo_join 44 = .ok (.aload_n 0, 1) := by decide +kernel
theorem d_Mo_join_45 : decode c_Mo_join 45 = .ok (.iconst 2, 1) := by decide +kernel
theorem d_Mo_join_46 : decode c_Mo_join 46 = .ok (.iload 4, 2) := by decide +kernel
theorem d_Mo_join_48 : decode c_Mo_join 48 = .ok (.ifCond .lt 31, 3) := by decide +kernel
theorem d_Mo_join_51 : decode c_Mo_join 51 = .ok (.iload 4, 2) := by decide +kernel
theorem d_Mo_join_53 : decode c_Mo_join 53 = .ok (.aload_n 0, 1) := by decide +kernel
theorem d_Mo_join_54 : decode c_Mo_join 54 = .ok (.getfield 13, 3) := by decide +kernel
theorem d_Mo_join_57 : decode c_Mo_join 57 = .ok (.iload_n 2, 1) := by decide +kernel
theorem d_Mo_join_58 : decode c_Mo_join 58 = .ok (.iaload, 1) := by decide +kernel
theorem d_Mo_join_59 : decode c_Mo_join 59 = .ok (.if_icmp .gt 20, 3) := by decide +kernel
theorem d_Mo_join_62 : decode c_Mo_join 62 = .ok (.iload 4, 2) := by decide +kernel
theorem d_Mo_join_64 : decode c_Mo_join 64 = .ok (.aload_n 0, 1) := by decide +kernel
theorem d_Mo_join_65 : decode c_Mo_join 65 = .ok (.getfield 13, 3) := by decide +kernel
theorem d_Mo_join_68 : decode c_Mo_join 68 = .ok (.iload_n 3, 1) := by decide +kernel
theorem d_Mo_join_69 : decode c_Mo_join 69 = .ok (.iaload, 1) := by decide +kernel
theorem d_Mo_join_70 : decode c_Mo_join 70 = .ok (.if_icmp .gt 9, 3) := by decide +kernel
theorem d_Mo_join_73 : decode c_Mo_join 73 = .ok (.iload 5, 2) := by decide +kernel
theorem d_Mo_join_75 : decode c_Mo_join 75 = .ok (.iconst 3, 1) := by decide +kernel
theorem d_Mo_join_76 : decode c_Mo_join 76 = .ok (.if_icmp .le 7, 3) := by decide +kernel
theorem d_Mo_join_79 : decode c_Mo_join 79 = .ok (.iconst 1, 1) := by decide +kernel
theorem d_Mo_join_80 : decode c_Mo_join 80 = .ok (.goto 4, 3) := by decide +kernel
theorem d_Mo_join_83 : decode c_Mo_join 83 = .ok (.iconst 0, 1) := by decide +kernel
theorem d_Mo_join_84 : decode c_Mo_join 84 = .ok (.invokevirtual 28, 3) := by decide +kernel
theorem d_Mo_join_87 : decode c_Mo_join 87 = .ok (.ifCond .eq 5, 3) := by decide +kernel
theorem d_Mo_join_90 : decode c_Mo_join 90 = .ok (.iconst 0, 1) := by decide +kernel
theorem d_Mo_join_91 : decode c_Mo_join 91 = .ok (.ireturn, 1) := by decide +kernel
theorem d_Mo_join_92 : decode c_Mo_join 92 = .ok (.aload_n 0, 1) := by decide +kernel
theorem d_Mo_join_93 : decode c_Mo_join 93 = .ok (.invokevirtual 52, 3) := by decide +kernel
theorem d_Mo_join_96 : decode c_Mo_join 96 = .ok (.iconst 0, 1) := by decide +kernel
theorem d_Mo_join_97 : decode c_Mo_join 97 = .ok (.istore 6, 2) := by decide +kernel
theorem d_Mo_join_99 : decode c_Mo_join 99 = .ok (.iload 6, 2) := by decide +kernel
theorem d_Mo_join_101 : decode c_Mo_join 101 = .ok (.sipush 4096, 3) := by decide +kernel
theorem d_Mo_join_104 : decode c_Mo_join 104 = .ok (.if_icmp .ge 140, 3) := by decide +kernel
theorem d_Mo_join_107 : decode c_Mo_join 107 = .ok (.iload 6, 2) := by decide +kernel
theorem d_Mo_join_109 : decode c_Mo_join 109 = .ok (.iload 5, 2) := by decide +kernel
theorem d_Mo_join_111 : decode c_Mo_join 111 = .ok (.invokestatic 44, 3) := by decide +kernel
theorem d_Mo_join_114 : decode c_Mo_join 114 = .ok (.ifCond .ne 6, 3) := by decide +kernel
theorem d_Mo_join_117 : decode c_Mo_join 117 = .ok (.goto 121, 3) := by decide +kernel
theorem d_Mo_join_120 : decode c_Mo_join 120 = .ok (.iconst 0, 1) := by decide +kernel
theorem d_Mo_join_121 : decode c_Mo_join 121 = .ok (.istore 7, 2) := by decide +kernel
theorem d_Mo_join_123 : decode c_Mo_join 123 = .ok (.iconst 0, 1) := by decide +kernel
theorem d_Mo_join_124 : decode c_Mo_join 124 = .ok (.istore 8, 2) := by decide +kernel
theorem d_Mo_join_126 : decode c_Mo_join 126 = .ok (.iconst 0, 1) := by decide +kernel
theorem d_Mo_join_127 : decode c_Mo_join 127 = .ok (.istore 9, 2) := by decide +kernel
theorem d_Mo_join_129 : decode c_Mo_join 129 = .ok (.iload 9, 2) := by decide +kernel
theorem d_Mo_join_131 : decode c_Mo_join 131 = .ok (.aload_n 0, 1) := by decide +kernel
theorem d_Mo_join_132 : decode c_Mo_join 132 = .ok (.getfield 13, 3) := by decide +kernel
theorem d_Mo_join_135 : decode c_Mo_join 135 = .ok (.iload_n 2, 1) := by decide +kernel
theorem d_Mo_join_136 : decode c_Mo_join 136 = .ok (.iaload, 1) := by decide +kernel
theorem d_Mo_join_137 : decode c_Mo_join 137 = .ok (.if_icmp .ge 29, 3) := by decide +kernel
theorem d_Mo_join_140 : decode c_Mo_join 140 = .ok (.iload 7, 2) := by decide +kernel
theorem d_Mo_join_142 : decode c_Mo_join 142 = .ok (.iload 6, 2) := by decide +kernel
theorem d_Mo_join_144 : decode c_Mo_join 144 = .ok (.iload 9, 2) := by decide +kernel
theorem d_Mo_join_146 : decode c_Mo_join 146 = .ok (.invokestatic 55, 3) := by decide +kernel
theorem d_Mo_join_149 : decode c_Mo_join 149 = .ok (.bipush 8, 2) := by decide +kernel
theorem d_Mo_join_151 : decode c_Mo_join 151 = .ok (.iconst 4, 1) := by decide +kernel
theorem d_Mo_join_152 : decode c_Mo_join 152 = .ok (.iload 9, 2) := by decide +kernel
theorem d_Mo_join_154 : decode c_Mo_join 154 = .ok (.imul, 1) := by decide +kernel
theorem d_Mo_join_155 : decode c_Mo_join 155 = .ok (.isub, 1) := by decide +kernel
theorem d_Mo_join_156 : decode c_Mo_join 156 = .ok (.ishl, 1) := by decide +kernel
theorem d_Mo_join_157 : decode c_Mo_join 157 = .ok (.ior, 1) := by decide +kernel
theorem d_Mo_join_158 : decode c_Mo_join 158 = .ok (.istore 7, 2) := by decide +kernel
theorem d_Mo_join_160 : decode c_Mo_join 160 = .ok (.iinc 9 1, 3) := by decide +kernel
theorem d_Mo_join_163 : decode c_Mo_join 163 = .ok (.goto (-34), 3) := by decide +kernel
theorem d_Mo_join_166 : decode c_Mo_join 166 = .ok (.iconst 0, 1) := by decide +kernel
theorem d_Mo_join_167 : decode c_Mo_join 167 = .ok (.istore 9, 2) := by decide +kernel
theorem d_Mo_join_169 : decode c_Mo_join 169 = .ok (.iload 9, 2) := by decide +kernel
theorem d_Mo_join_171 : decode c_Mo_join 171 = .ok (.aload_n 0, 1) := by decide +kernel
theorem d_Mo_join_172 : decode c_Mo_join 172 = .ok (.getfield 13, 3) := by decide +kernel
theorem d_Mo_join_175 : decode c_Mo_join 175 = .ok (.iload_n 3, 1) := by decide +kernel
theorem d_Mo_join_176 : decode c_Mo_join 176 = .ok (.iaload, 1) := by decide +kernel
theorem d_Mo_join_177 : decode c_Mo_join 177 = .ok (.if_icmp .ge 39, 3) := by decide +kernel
theorem d_Mo_join_180 : decode c_Mo_join 180 = .ok (.iload 8, 2) := by decide +kernel
theorem d_Mo_join_182 : decode c_Mo_join 182 = .ok (.iload 6, 2) := by decide +kernel
theorem d_Mo_join_184 : decode c_Mo_join 184 = .ok (.aload_n 0, 1) := by decide +kernel
theorem d_Mo_join_185 : decode c_Mo_join 185 = .ok (.getfield 13, 3) := by decide +kernel
theorem d_Mo_join_188 : decode c_Mo_join 188 = .ok (.iload_n 2, 1) := by decide +kernel
theorem d_Mo_join_189 : decode c_Mo_join 189 = .ok (.iaload, 1) := by decide +kernel
theorem d_Mo_join_190 : decode c_Mo_join 190 = .ok (.iload 4, 2) := by decide +kernel
theorem d_Mo_join_192 : decode c_Mo_join 192 = .ok (.isub, 1) := by decide +kernel
theorem d_Mo_join_193 : decode c_Mo_join 193 = .ok (.iload 9, 2) := by decide +kernel
theorem d_Mo_join_195 : decode c_Mo_join 195 = .ok (.iadd, 1) := by decide +kernel
theorem d_Mo_join_196 : decode c_Mo_join 196 = .ok (.invokestatic 55, 3) := by decide +kernel
theorem d_Mo_join_199 : decode c_Mo_join 199 = .ok (.bipush 8, 2) := by decide +kernel
theorem d_Mo_join_201 : decode c_Mo_join 201 = .ok (.iconst 4, 1) := by decide +kernel
theorem d_Mo_join_202 : decode c_Mo_join 202 = .ok (.iload 9, 2) := by decide +kernel
theorem d_Mo_join_204 : decode c_Mo_join 204 = .ok (.imul, 1) := by decide +kernel
theorem d_Mo_join_205 : decode c_Mo_join 205 = .ok (.isub, 1) := by decide +kernel
theorem d_Mo_join_206 : decode c_Mo_join 206 = .ok (.ishl, 1) := by decide +kernel
theorem d_Mo_join_207 : decode c_Mo_join 207 = .ok (.ior, 1) := by decide +kernel
theorem d_Mo_join_208 : decode c_Mo_join 208 = .ok (.istore 8, 2) := by decide +kernel
theorem d_Mo_join_210 : decode c_Mo_join 210 = .ok (.iinc 9 1, 3) := by decide +kernel
theorem d_Mo_join_213 : decode c_Mo_join 213 = .ok (.goto (-44), 3) := by decide +kernel
theorem d_Mo_join_216 : decode c_Mo_join 216 = .ok (.aload_n 0, 1) := by decide +kernel
theorem d_Mo_join_217 : decode c_Mo_join 217 = .ok (.getfield 21, 3) := by decide +kernel
theorem d_Mo_join_220 : decode c_Mo_join 220 = .ok (.iload 6, 2) := by decide +kernel
theorem d_Mo_join_222 : decode c_Mo_join 222 = .ok (.aload_n 0, 1) := by decide +kernel
theorem d_Mo_join_223 : decode c_Mo_join 223 = .ok (.iload_n 2, 1) := by decide +kernel
theorem d_Mo_join_224 : decode c_Mo_join 224 = .ok (.iload 7, 2) := by decide +kernel
theorem d_Mo_join_226 : decode c_Mo_join 226 = .ok (.invokevirtual 48, 3) := by decide +kernel
theorem d_Mo_join_229 : decode c_Mo_join 229 = .ok (.aload_n 0, 1) := by decide +kernel
theorem d_Mo_join_230 : decode c_Mo_join 230 = .ok (.iload_n 3, 1) := by decide +kernel
theorem d_Mo_join_231 : decode c_Mo_join 231 = .ok (.iload 8, 2) := by decide +kernel
theorem d_Mo_join_233 : decode c_Mo_join 233 = .ok (.invokevirtual 48, 3) := by decide +kernel
theorem d_Mo_join_236 : decode c_Mo_join 236 = .ok (.imul, 1) := by decide +kernel
theorem d_Mo_join_237 : decode c_Mo_join 237 = .ok (.iastore, 1) := by decide +kernel
theorem d_Mo_join_238 : decode c_Mo_join 238 = .ok (.iinc 6 1, 3) := by decide +kernel
theorem d_Mo_join_241 : decode c_Mo_join 241 = .ok (.goto (-142), 3) := by decide +kernel
theorem d_Mo_join_244 : decode c_Mo_join 244 = .ok (.aload_n 0, 1) := by decide +kernel
theorem d_Mo_join_245 : decode c_Mo_join 245 = .ok (.iload_n 1, 1) := by decide +kernel
theorem d_Mo_join_246 : decode c_Mo_join 246 = .ok (.iload 5, 2) := by decide +kernel
theorem d_Mo_join_248 : decode c_Mo_join 248 = .ok (.iconst 3, 1) := by decide +kernel
theorem d_Mo_join_249 : decode c_Mo_join 249 = .ok (.invokevirtual 58, 3) := by decide +kernel
theorem d_Mo_join_252 : decode c_Mo_join 252 = .ok (.ireturn, 1) := by decide +kernel
theorem d_Mo_begin_0 : decode c_Mo_begin 0 = .ok (.iconst 0, 1) := by decide +kernel
theorem d_Mo_begin_1 : decode c_Mo_begin 1 = .ok (.istore_n 1, 1) := by decide +kernel
theorem d_Mo_begin_2 : decode c_Mo_begin 2 = .ok (.iload_n 1, 1) := by decide +kernel
theorem d_Mo_begin_3 : decode c_Mo_begin 3 = .ok (.sipush 4096, 3) := by decide +kernel
theorem d_Mo_begin_6 : decode c_Mo_begin 6 = .ok (.if_icmp .ge 16, 3) := by decide +kernel
theorem d_Mo_begin_9 : decode c_Mo_begin 9 = .ok (.aload_n 0, 1) := by decide +kernel
theorem d_Mo_begin_10 : decode c_Mo_begin 10 = .ok (.getfield 21, 3) := by decide +kernel
theorem d_Mo_begin_13 : decode c_Mo_begin 13 = .ok (.iload_n 1, 1) := by decide +kernel
theorem d_Mo_begin_14 : decode c_Mo_begin 14 = .ok (.iconst 0, 1) := by decide +kernel
theorem d_Mo_begin_15 : decode c_Mo_begin 15 = .ok (.iastore, 1) := by decide +kernel
theorem d_Mo_begin_16 : decode c_Mo_begin 16 = .ok (.iinc 1 1, 3) := by decide +kernel
theorem d_Mo_begin_19 : decode c_Mo_begin 19 = .ok (.goto (-17), 3) := by decide +kernel
theorem d_Mo_begin_22 : decode c_Mo_begin 22 = .ok (.return_, 1) := by decide +kernel
theorem d_Mo_number_0 : decode c_Mo_number 0 = .ok (.iload_n 0, 1) := by decide +kernel
theorem d_Mo_number_1 : decode c_Mo_number 1 = .ok (.bipush 8, 2) := by decide +kernel
theorem d_Mo_number_3 : decode c_Mo_number 3 = .ok (.iconst 4, 1) := by decide +kernel
theorem d_Mo_number_4 : decode c_Mo_number 4 = .ok (.iload_n 1, 1) := by decide +kernel
theorem d_Mo_number_5 : decode c_Mo_number 5 = .ok (.imul, 1) := by decide +kernel
theorem d_Mo_number_6 : decode c_Mo_number 6 = .ok (.isub, 1) := by decide +kernel
theorem d_Mo_number_7 : decode c_Mo_number 7 = .ok (.ishr, 1) := by decide +kernel
theorem d_Mo_number_8 : decode c_Mo_number 8 = .ok (.bipush 15, 2) := by decide +kernel
theorem d_Mo_number_10 : decode c_Mo_number 10 = .ok (.iand, 1) := by decide +kernel
theorem d_Mo_number_11 : decode c_Mo_number 11 = .ok (.ireturn, 1) := by decide +kernel
theorem d_Mo_keep_0 : decode c_Mo_keep 0 = .ok (.aload_n 0, 1) := by decide +kernel
theorem d_Mo_keep_1 : decode c_Mo_keep 1 = .ok (.getfield 21, 3) := by decide +kernel
theorem d_Mo_keep_4 : decode c_Mo_keep 4 = .ok (.iconst 0, 1) := by decide +kernel
theorem d_Mo_keep_5 : decode c_Mo_keep 5 = .ok (.invokestatic 32, 3) := by decide +kernel
theorem d_Mo_keep_8 : decode c_Mo_keep 8 = .ok (.istore 4, 2) := by decide +kernel
theorem d_Mo_keep_10 : decode c_Mo_keep 10 = .ok (.aload_n 0, 1) := by decide +kernel
theorem d_Mo_keep_11 : decode c_Mo_keep 11 = .ok (.iload_n 3, 1) := by decide +kernel
theorem d_Mo_keep_12 : decode c_Mo_keep 12 = .ok (.iload 4, 2) := by decide +kernel
theorem d_Mo_keep_14 : decode c_Mo_keep 14 = .ok (.sipush 300, 3) := by decide +kernel
theorem d_Mo_keep_17 : decode c_Mo_keep 17 = .ok (.if_icmp .le 7, 3) := by decide +kernel
theorem d_Mo_keep_20 : decode c_Mo_keep 20 = .ok (.iconst 1, 1) := by decide +kernel
theorem d_Mo_keep_21 : decode c_Mo_keep 21 = .ok (.goto 4, 3) := by decide +kernel
theorem d_Mo_keep_24 : decode c_Mo_keep 24 = .ok (.iconst 0, 1) := by decide +kernel
theorem d_Mo_keep_25 : decode c_Mo_keep 25 = .ok (.invokevirtual 28, 3) := by decide +kernel
theorem d_Mo_keep_28 : decode c_Mo_keep 28 = .ok (.ifCond .eq 5, 3) := by decide +kernel
theorem d_Mo_keep_31 : decode c_Mo_keep 31 = .ok (.iconst 0, 1) := by decide +kernel
theorem d_Mo_keep_32 : decode c_Mo_keep 32 = .ok (.ireturn, 1) := by decide +kernel
theorem d_Mo_keep_33 : decode c_Mo_keep 33 = .ok (.aload_n 0, 1) := by decide +kernel
theorem d_Mo_keep_34 : decode c_Mo_keep 34 = .ok (.getfield 13, 3) := by decide +kernel
theorem d_Mo_keep_37 : decode c_Mo_keep 37 = .ok (.iload_n 1, 1) := by decide +kernel
theorem d_Mo_keep_38 : decode c_Mo_keep 38 = .ok (.iload_n 2, 1) := by decide +kernel
theorem d_Mo_keep_39 : decode c_Mo_keep 39 = .ok (.iastore, 1) := by decide +kernel
theorem d_Mo_keep_40 : decode c_Mo_keep 40 = .ok (.iconst 0, 1) := by decide +kernel
theorem d_Mo_keep_41 : decode c_Mo_keep 41 = .ok (.istore 5, 2) := by decide +kernel
theorem d_Mo_keep_43 : decode c_Mo_keep 43 = .ok (.iload 5, 2) := by decide +kernel
theorem d_Mo_keep_45 : decode c_Mo_keep 45 = .ok (.sipush 4096, 3) := by decide +kernel
theorem d_Mo_keep_48 : decode c_Mo_keep 48 = .ok (.if_icmp .ge 29, 3) := by decide +kernel
theorem d_Mo_keep_51 : decode c_Mo_keep 51 = .ok (.aload_n 0, 1) := by decide +kernel
theorem d_Mo_keep_52 : decode c_Mo_keep 52 = .ok (.getfield 18, 3) := by decide +kernel
theorem d_Mo_keep_55 : decode c_Mo_keep 55 = .ok (.sipush 4096, 3) := by decide +kernel
theorem d_Mo_keep_58 : decode c_Mo_keep 58 = .ok (.iload_n 1, 1) := by decide +kernel
theorem d_Mo_keep_59 : decode c_Mo_keep 59 = .ok (.imul, 1) := by decide +kernel
theorem d_Mo_keep_60 : decode c_Mo_keep 60 = .ok (.iload 5, 2) := by decide +kernel
theorem d_Mo_keep_62 : decode c_Mo_keep 62 = .ok (.iadd, 1) := by decide +kernel
theorem d_Mo_keep_63 : decode c_Mo_keep 63 = .ok (.aload_n 0, 1) := by decide +kernel
theorem d_Mo_keep_64 : decode c_Mo_keep 64 = .ok (.getfield 21, 3) := by decide +kernel
theorem d_Mo_keep_67 : decode c_Mo_keep 67 = .ok (.iload 5, 2) := by decide +kernel
theorem d_Mo_keep_69 : decode c_Mo_keep 69 = .ok (.iaload, 1) := by decide +kernel
theorem d_Mo_keep_70 : decode c_Mo_keep 70 = .ok (.iastore, 1) := by decide +kernel
theorem d_Mo_keep_71 : decode c_Mo_keep 71 = .ok (.iinc 5 1, 3) := by decide +kernel
theorem d_Mo_keep_74 : decode c_Mo_keep 74 = .ok (.goto (-31), 3) := by decide +kernel
theorem d_Mo_keep_77 : decode c_Mo_keep 77 = .ok (.iload 4, 2) := by decide +kernel
theorem d_Mo_keep_79 : decode c_Mo_keep 79 = .ok (.ireturn, 1) := by decide +kernel
theorem d_Mo_narrow_0 : decode c_Mo_narrow 0 = .ok (.aload_n 0, 1) := by decide +kernel
theorem d_Mo_narrow_1 : decode c_Mo_narrow 1 = .ok (.iload_n 1, 1) := by decide +kernel
theorem d_Mo_narrow_2 : decode c_Mo_narrow 2 = .ok (.invokevirtual 36, 3) := by decide +kernel
theorem d_Mo_narrow_5 : decode c_Mo_narrow 5 = .ok (.ifCond .ne 41, 3) := by decide +kernel
theorem d_Mo_narrow_8 : decode c_Mo_narrow 8 = .ok (.aload_n 0, 1) := by decide +kernel
theorem d_Mo_narrow_9 : decode c_Mo_narrow 9 = .ok (.iload_n 2, 1) := by decide +kernel
theorem d_Mo_narrow_10 : decode c_Mo_narrow 10 = .ok (.invokevirtual 36, 3) := by decide +kernel
theorem d_Mo_narrow_13 : decode c_Mo_narrow 13 = .ok (.ifCond .ne 33, 3) := by decide +kernel
theorem d_Mo_narrow_16 : decode c_Mo_narrow 16 = .ok (.aload_n 0, 1) := by decide +kernel
theorem d_Mo_narrow_17 : decode c_Mo_narrow 17 = .ok (.iconst 2, 1) := by decide +kernel
theorem d_Mo_narrow_18 : decode c_Mo_narrow 18 = .ok (.iload_n 3, 1) := by decide +kernel
theorem d_Mo_narrow_19 : decode c_Mo_narrow 19 = .ok (.iconst 1, 1) := by decide +kernel
theorem d_Mo_narrow_20 : decode c_Mo_narrow 20 = .ok (.if_icmp .lt 15, 3) := by decide +kernel
theorem d_Mo_narrow_23 : decode c_Mo_narrow 23 = .ok (.iload_n 3, 1) := by decide +kernel
theorem d_Mo_narrow_24 : decode c_Mo_narrow 24 = .ok (.iconst 1, 1) := by decide +kernel
theorem d_Mo_narrow_25 : decode c_Mo_narrow 25 = .ok (.aload_n 0, 1) := by decide +kernel
theorem d_Mo_narrow_26 : decode c_Mo_narrow 26 = .ok (.getfield 13, 3) := by decide +kernel
theorem d_Mo_narrow_29 : decode c_Mo_narrow 29 = .ok (.iload_n 2, 1) := by decide +kernel
theorem d_Mo_narrow_30 : decode c_Mo_narrow 30 = .ok (.iaload, 1) := by decide +kernel
theorem d_Mo_narrow_31 : decode c_Mo_narrow 31 = .ok (.ishl, 1) := by decide +kernel
theorem d_Mo_narrow_32 : decode c_Mo_narrow 32 = .ok (.if_icmp .lt 7, 3) := by decide +kernel
theorem d_Mo_narrow_35 : decode c_Mo_narrow 35 = .ok (.iconst 1, 1) := by decide +kernel
theorem d_Mo_narrow_36 : decode c_Mo_narrow 36 = .ok (.goto 4, 3) := by decide +kernel
theorem d_Mo_narrow_39 : decode c_Mo_narrow 39 = .ok (.iconst 0, 1) := by decide +kernel
theorem d_Mo_narrow_40 : decode c_Mo_narrow 40 = .ok (.invokevirtual 28, 3) := by decide +kernel
theorem d_Mo_narrow_43 : decode c_Mo_narrow 43 = .ok (.ifCond .eq 5, 3) := by decide +kernel
theorem d_Mo_narrow_46 : decode c_Mo_narrow 46 = .ok (.iconst 0, 1) := by decide +kernel
theorem d_Mo_narrow_47 : decode c_Mo_narrow 47 = .ok (.ireturn, 1) := by decide +kernel
theorem d_Mo_narrow_48 : decode c_Mo_narrow 48 = .ok (.aload_n 0, 1) := by decide +kernel
theorem d_Mo_narrow_49 : decode c_Mo_narrow 49 = .ok (.invokevirtual 52, 3) := by decide +kernel
theorem d_Mo_narrow_52 : decode c_Mo_narrow 52 = .ok (.iconst 0, 1) := by decide +kernel
theorem d_Mo_narrow_53 : decode c_Mo_narrow 53 = .ok (.istore 4, 2) := by decide +kernel
theorem d_Mo_narrow_55 : decode c_Mo_narrow 55 = .ok (.iload 4, 2) := by decide +kernel
theorem d_Mo_narrow_57 : decode c_Mo_narrow 57 = .ok (.sipush 4096, 3) := by decide +kernel
theorem d_Mo_narrow_60 : decode c_Mo_narrow 60 = .ok (.if_icmp .ge 87, 3) := by decide +kernel
theorem d_Mo_narrow_63 : decode c_Mo_narrow 63 = .ok (.iconst 0, 1) := by decide +kernel
theorem d_Mo_narrow_64 : decode c_Mo_narrow 64 = .ok (.istore 5, 2) := by decide +kernel
theorem d_Mo_narrow_66 : decode c_Mo_narrow 66 = .ok (.iconst 0, 1) := by decide +kernel
theorem d_Mo_narrow_67 : decode c_Mo_narrow 67 = .ok (.istore 6, 2) := by decide +kernel
theorem d_Mo_narrow_69 : decode c_Mo_narrow 69 = .ok (.iconst 0, 1) := by decide +kernel
theorem d_Mo_narrow_70 : decode c_Mo_narrow 70 = .ok (.istore 7, 2) := by decide +kernel
theorem d_Mo_narrow_72 : decode c_Mo_narrow 72 = .ok (.iload 7, 2) := by decide +kernel
theorem d_Mo_narrow_74 : decode c_Mo_narrow 74 = .ok (.aload_n 0, 1) := by decide +kernel
theorem d_Mo_narrow_75 : decode c_Mo_narrow 75 = .ok (.getfield 13, 3) := by decide +kernel
theorem d_Mo_narrow_78 : decode c_Mo_narrow 78 = .ok (.iload_n 2, 1) := by decide +kernel
theorem d_Mo_narrow_79 : decode c_Mo_narrow 79 = .ok (.iaload, 1) := by decide +kernel
theorem d_Mo_narrow_80 : decode c_Mo_narrow 80 = .ok (.if_icmp .ge 44, 3) := by decide +kernel
theorem d_Mo_narrow_83 : decode c_Mo_narrow 83 = .ok (.iload_n 3, 1) := by decide +kernel
theorem d_Mo_narrow_84 : decode c_Mo_narrow 84 = .ok (.iload 7, 2) := by decide +kernel
theorem d_Mo_narrow_86 : decode c_Mo_narrow 86 = .ok (.ishr, 1) := by decide +kernel
theorem d_Mo_narrow_87 : decode c_Mo_narrow 87 = .ok (.iconst 1, 1) := by decide +kernel
theorem d_Mo_narrow_88 : decode c_Mo_narrow 88 = .ok (.iand, 1) := by decide +kernel
theorem d_Mo_narrow_89 : decode c_Mo_narrow 89 = .ok (.ifCond .ne 6, 3) := by decide +kernel
theorem d_Mo_narrow_92 : decode c_Mo_narrow 92 = .ok (.goto 26, 3) := by decide +kernel
theorem d_Mo_narrow_95 : decode c_Mo_narrow 95 = .ok (.iload 5, 2) := by decide +kernel
theorem d_Mo_narrow_97 : decode c_Mo_narrow 97 = .ok (.iload 4, 2) := by decide +kernel
theorem d_Mo_narrow_99 : decode c_Mo_narrow 99 = .ok (.iload 7, 2) := by decide +kernel
theorem d_Mo_narrow_101 : decode c_Mo_narrow 101 = .ok (.invokestatic 55, 3) := by decide +kernel
theorem d_Mo_narrow_104 : decode c_Mo_narrow 104 = .ok (.bipush 8, 2) := by decide +kernel
theorem d_Mo_narrow_106 : decode c_Mo_narrow 106 = .ok (.iconst 4, 1) := by decide +kernel
theorem d_Mo_narrow_107 : decode c_Mo_narrow 107 = .ok (.iload 6, 2) := by decide +kernel
theorem d_Mo_narrow_109 : decode c_Mo_narrow 109 = .ok (.imul, 1) := by decide +kernel
theorem d_Mo_narrow_110 : decode c_Mo_narrow 110 = .ok (.isub, 1) := by decide +kernel
theorem d_Mo_narrow_111 : decode c_Mo_narrow 111 = .ok (.ishl, 1) := by decide +kernel
theorem d_Mo_narrow_112 : decode c_Mo_narrow 112 = .ok (.ior, 1) := by decide +kernel
theorem d_Mo_narrow_113 : decode c_Mo_narrow 113 = .ok (.istore 5, 2) := by decide +kernel
theorem d_Mo_narrow_115 : decode c_Mo_narrow 115 = .ok (.iinc 6 1, 3) := by decide +kernel
theorem d_Mo_narrow_118 : decode c_Mo_narrow 118 = .ok (.iinc 7 1, 3) := by decide +kernel
theorem d_Mo_narrow_121 : decode c_Mo_narrow 121 = .ok (.goto (-49), 3) := by decide +kernel
theorem d_Mo_narrow_124 : decode c_Mo_narrow 124 = .ok (.aload_n 0, 1) := by decide +kernel
theorem d_Mo_narrow_125 : decode c_Mo_narrow 125 = .ok (.getfield 21, 3) := by decide +kernel
theorem d_Mo_narrow_128 : decode c_Mo_narrow 128 = .ok (.iload 5, 2) := by decide +kernel
theorem d_Mo_narrow_130 : decode c_Mo_narrow 130 = .ok (.dup2, 1) := by decide +kernel
theorem d_Mo_narrow_131 : decode c_Mo_narrow 131 = .ok (.iaload, 1) := by decide +kernel
theorem d_Mo_narrow_132 : decode c_Mo_narrow 132 = .ok (.aload_n 0, 1) := by decide +kernel
theorem d_Mo_narrow_133 : decode c_Mo_narrow 133 = .ok (.iload_n 2, 1) := by decide +kernel
theorem d_Mo_narrow_134 : decode c_Mo_narrow 134 = .ok (.iload 4, 2) := by decide +kernel
theorem d_Mo_narrow_136 : decode c_Mo_narrow 136 = .ok (.invokevirtual 48, 3) := by decide +kernel
theorem d_Mo_narrow_139 : decode c_Mo_narrow 139 = .ok (.iadd, 1) := by decide +kernel
theorem d_Mo_narrow_140 : decode c_Mo_narrow 140 = .ok (.iastore, 1) := by decide +kernel
theorem d_Mo_narrow_141 : decode c_Mo_narrow 141 = .ok (.iinc 4 1, 3) := by decide +kernel
theorem d_Mo_narrow_144 : decode c_Mo_narrow 144 = .ok (.goto (-89), 3) := by decide +kernel
theorem d_Mo_narrow_147 : decode c_Mo_narrow 147 = .ok (.aload_n 0, 1) := by decide +kernel
theorem d_Mo_narrow_148 : decode c_Mo_narrow 148 = .ok (.iload_n 1, 1) := by decide +kernel
theorem d_Mo_narrow_149 : decode c_Mo_narrow 149 = .ok (.iload_n 3, 1) := by decide +kernel
theorem d_Mo_narrow_150 : decode c_Mo_narrow 150 = .ok (.invokestatic 62, 3) := by decide +kernel
theorem d_Mo_narrow_153 : decode c_Mo_narrow 153 = .ok (.iconst 3, 1) := by decide +kernel
theorem d_Mo_narrow_154 : decode c_Mo_narrow 154 = .ok (.invokevirtual 58, 3) := by decide +kernel
theorem d_Mo_narrow_157 : decode c_Mo_narrow 157 = .ok (.ireturn, 1) := by decide +kernel
theorem d_Mo_bits_0 : decode c_Mo_bits 0 = .ok (.iconst 0, 1) := by decide +kernel
theorem d_Mo_bits_1 : decode c_Mo_bits 1 = .ok (.istore_n 1, 1) := by decide +kernel
theorem d_Mo_bits_2 : decode c_Mo_bits 2 = .ok (.iconst 0, 1) := by decide +kernel
theorem d_Mo_bits_3 : decode c_Mo_bits 3 = .ok (.istore_n 2, 1) := by decide +kernel
theorem d_Mo_bits_4 : decode c_Mo_bits 4 = .ok (.iload_n 2, 1) := by decide +kernel
theorem d_Mo_bits_5 : decode c_Mo_bits 5 = .ok (.bipush 16, 2) := by decide +kernel
theorem d_Mo_bits_7 : decode c_Mo_bits 7 = .ok (.if_icmp .ge 17, 3) := by decide +kernel
theorem d_Mo_bits_10 : decode c_Mo_bits 10 = .ok (.iload_n 1, 1) := by decide +kernel
theorem d_Mo_bits_11 : decode c_Mo_bits 11 = .ok (.iload_n 0, 1) := by decide +kernel
theorem d_Mo_bits_12 : decode c_Mo_bits 12 = .ok (.iload_n 2, 1) := by decide +kernel
theorem d_Mo_bits_13 : decode c_Mo_bits 13 = .ok (.ishr, 1) := by decide +kernel
theorem d_Mo_bits_14 : decode c_Mo_bits 14 = .ok (.iconst 1, 1) := by decide +kernel
theorem d_Mo_bits_15 : decode c_Mo_bits 15 = .ok (.iand, 1) := by decide +kernel
theorem d_Mo_bits_16 : decode c_Mo_bits 16 = .ok (.iadd, 1) := by decide +kernel
theorem d_Mo_bits_17 : decode c_Mo_bits 17 = .ok (.istore_n 1, 1) := by decide +kernel
theorem d_Mo_bits_18 : decode c_Mo_bits 18 = .ok (.iinc 2 1, 3) := by decide +kernel
theorem d_Mo_bits_21 : decode c_Mo_bits 21 = .ok (.goto (-17), 3) := by decide +kernel
theorem d_Mo_bits_24 : decode c_Mo_bits 24 = .ok (.iload_n 1, 1) := by decide +kernel
theorem d_Mo_bits_25 : decode c_Mo_bits 25 = .ok (.ireturn, 1) := by decide +kernel
theorem d_Mo_pick_0 : decode c_Mo_pick 0 = .ok (.aload_n 0, 1) := by decide +kernel
theorem d_Mo_pick_1 : decode c_Mo_pick 1 = .ok (.iload_n 1, 1) := by decide +kernel
theorem d_Mo_pick_2 : decode c_Mo_pick 2 = .ok (.invokevirtual 36, 3) := by decide +kernel
theorem d_Mo_pick_5 : decode c_Mo_pick 5 = .ok (.ifCond .ne 50, 3) := by decide +kernel
theorem d_Mo_pick_8 : decode c_Mo_pick 8 = .ok (.aload_n 0, 1) := by decide +kernel
theorem d_Mo_pick_9 : decode c_Mo_pick 9 = .ok (.iload_n 2, 1) := by decide +kernel
theorem d_Mo_pick_10 : decode c_Mo_pick 10 = .ok (.invokevirtual 36, 3) := by decide +kernel
theorem d_Mo_pick_13 : decode c_Mo_pick 13 = .ok (.ifCond .ne 42, 3) := by decide +kernel
theorem d_Mo_pick_16 : decode c_Mo_pick 16 = .ok (.aload_n 0, 1) := by decide +kernel
theorem d_Mo_pick_17 : decode c_Mo_pick 17 = .ok (.iconst 2, 1) := by decide +kernel
theorem d_Mo_pick_18 : decode c_Mo_pick 18 = .ok (.iload_n 3, 1) := by decide +kernel
theorem d_Mo_pick_19 : decode c_Mo_pick 19 = .ok (.ifCond .lt 25, 3) := by decide +kernel
theorem d_Mo_pick_22 : decode c_Mo_pick 22 = .ok (.iload_n 3, 1) := by decide +kernel
theorem d_Mo_pick_23 : decode c_Mo_pick 23 = .ok (.aload_n 0, 1) := by decide +kernel
theorem d_Mo_pick_24 : decode c_Mo_pick 24 = .ok (.getfield 13, 3) := by decide +kernel
theorem d_Mo_pick_27 : decode c_Mo_pick 27 = .ok (.iload_n 2, 1) := by decide +kernel
theorem d_Mo_pick_28 : decode c_Mo_pick 28 = .ok (.iaload, 1) := by decide +kernel
theorem d_Mo_pick_29 : decode c_Mo_pick 29 = .ok (.if_icmp .ge 15, 3) := by decide +kernel
theorem d_Mo_pick_32 : decode c_Mo_pick 32 = .ok (.iload 4, 2) := by decide +kernel
theorem d_Mo_pick_34 : decode c_Mo_pick 34 = .ok (.ifCond .lt 10, 3) := by decide +kernel
theorem d_Mo_pick_37 : decode c_Mo_pick 37 = .ok (.iload 4, 2) := by decide +kernel
theorem d_Mo_pick_39 : decode c_Mo_pick 39 = .ok (.bipush 15, 2) := by decide +kernel
theorem d_Mo_pick_41 : decode c_Mo_pick 41 = .ok (.if_icmp .le 7, 3) := by decide +kernel
theorem d_Mo_pick_44 : decode c_Mo_pick 44 = .ok (.iconst 1, 1) := by decide +kernel
theorem d_Mo_pick_45 : decode c_Mo_pick 45 = .ok (.goto 4, 3) := by decide +kernel
theorem d_Mo_pick_48 : decode c_Mo_pick 48 = .ok (.iconst 0, 1) := by decide +kernel
theorem d_Mo_pick_49 : decode c_Mo_pick 49 = .ok (.invokevirtual 28, 3) := by decide +kernel
theorem d_Mo_pick_52 : decode c_Mo_pick 52 = .ok (.ifCond .eq 5, 3) := by decide +kernel
theorem d_Mo_pick_55 : decode c_Mo_pick 55 = .ok (.iconst 0, 1) := by decide +kernel
theorem d_Mo_pick_56 : decode c_Mo_pick 56 = .ok (.ireturn, 1) := by decide +kernel
theorem d_Mo_pick_57 : decode c_Mo_pick 57 = .ok (.aload_n 0, 1) := by decide +kernel
theorem d_Mo_pick_58 : decode c_Mo_pick 58 = .ok (.invokevirtual 52, 3) := by decide +kernel
theorem d_Mo_pick_61 : decode c_Mo_pick 61 = .ok (.iconst 0, 1) := by decide +kernel
theorem d_Mo_pick_62 : decode c_Mo_pick 62 = .ok (.istore 5, 2) := by decide +kernel
theorem d_Mo_pick_64 : decode c_Mo_pick 64 = .ok (.iload 5, 2) := by decide +kernel
theorem d_Mo_pick_66 : decode c_Mo_pick 66 = .ok (.sipush 4096, 3) := by decide +kernel
theorem d_Mo_pick_69 : decode c_Mo_pick 69 = .ok (.if_icmp .ge 34, 3) := by decide +kernel
theorem d_Mo_pick_72 : decode c_Mo_pick 72 = .ok (.iload 5, 2) := by decide +kernel
theorem d_Mo_pick_74 : decode c_Mo_pick 74 = .ok (.iload_n 3, 1) := by decide +kernel
theorem d_Mo_pick_75 : decode c_Mo_pick 75 = .ok (.invokestatic 55, 3) := by decide +kernel
theorem d_Mo_pick_78 : decode c_Mo_pick 78 = .ok (.iload 4, 2) := by decide +kernel
theorem d_Mo_pick_80 : decode c_Mo_pick 80 = .ok (.if_icmp .ne 17, 3) := by decide +kernel
theorem d_Mo_pick_83 : decode c_Mo_pick 83 = .ok (.aload_n 0, 1) := by decide +kernel
theorem d_Mo_pick_84 : decode c_Mo_pick 84 = .ok (.getfield 21, 3) := by decide +kernel
theorem d_Mo_pick_87 : decode c_Mo_pick 87 = .ok (.iload 5, 2) := by decide +kernel
theorem d_Mo_pick_89 : decode c_Mo_pick 89 = .ok (.aload_n 0, 1) := by decide +kernel
theorem d_Mo_pick_90 : decode c_Mo_pick 90 = .ok (.iload_n 2, 1) := by decide +kernel
theorem d_Mo_pick_91 : decode c_Mo_pick 91 = .ok (.iload 5, 2) := by decide +kernel
theorem d_Mo_pick_93 : decode c_Mo_pick 93 = .ok (.invokevirtual 48, 3) := by decide +kernel
theorem d_Mo_pick_96 : decode c_Mo_pick 96 = .ok (.iastore, 1) := by decide +kernel
theorem d_Mo_pick_97 : decode c_Mo_pick 97 = .ok (.iinc 5 1, 3) := by decide +kernel
theorem d_Mo_pick_100 : decode c_Mo_pick 100 = .ok (.goto (-36), 3) := by decide +kernel
theorem d_Mo_pick_103 : decode c_Mo_pick 103 = .ok (.aload_n 0, 1) := by decide +kernel
theorem d_Mo_pick_104 : decode c_Mo_pick 104 = .ok (.iload_n 1, 1) := by decide +kernel
theorem d_Mo_pick_105 : decode c_Mo_pick 105 = .ok (.aload_n 0, 1) := by decide +kernel
theorem d_Mo_pick_106 : decode c_Mo_pick 106 = .ok (.getfield 13, 3) := by decide +kernel
theorem d_Mo_pick_109 : decode c_Mo_pick 109 = .ok (.iload_n 2, 1) := by decide +kernel
theorem d_Mo_pick_110 : decode c_Mo_pick 110 = .ok (.iaload, 1) := by decide +kernel
theorem d_Mo_pick_111 : decode c_Mo_pick 111 = .ok (.iconst 3, 1) := by decide +kernel
theorem d_Mo_pick_112 : decode c_Mo_pick 112 = .ok (.invokevirtual 58, 3) := by decide +kernel
theorem d_Mo_pick_115 : decode c_Mo_pick 115 = .ok (.ireturn, 1) := by decide +kernel
theorem d_Mo_alter_0 : decode c_Mo_alter 0 = .ok (.aload_n 0, 1) := by decide +kernel
theorem d_Mo_alter_1 : decode c_Mo_alter 1 = .ok (.iload_n 1, 1) := by decide +kernel
theorem d_Mo_alter_2 : decode c_Mo_alter 2 = .ok (.invokevirtual 36, 3) := by decide +kernel
theorem d_Mo_alter_5 : decode c_Mo_alter 5 = .ok (.ifCond .ne 58, 3) := by decide +kernel
theorem d_Mo_alter_8 : decode c_Mo_alter 8 = .ok (.aload_n 0, 1) := by decide +kernel
theorem d_Mo_alter_9 : decode c_Mo_alter 9 = .ok (.iload_n 3, 1) := by decide +kernel
theorem d_Mo_alter_10 : decode c_Mo_alter 10 = .ok (.invokevirtual 36, 3) := by decide +kernel
theorem d_Mo_alter_13 : decode c_Mo_alter 13 = .ok (.ifCond .ne 50, 3) := by decide +kernel
theorem d_Mo_alter_16 : decode c_Mo_alter 16 = .ok (.aload_n 0, 1) := by decide +kernel
theorem d_Mo_alter_17 : decode c_Mo_alter 17 = .ok (.iload 4, 2) := by decide +kernel
theorem d_Mo_alter_19 : decode c_Mo_alter 19 = .ok (.invokevirtual 36, 3) := by decide +kernel
theorem d_Mo_alter_22 : decode c_Mo_alter 22 = .ok (.ifCond .ne 41, 3) := by decide +kernel
theorem d_Mo_alter_25 : decode c_Mo_alter 25 = .ok (.aload_n 0, 1) := by decide +kernel
theorem d_Mo_alter_26 : decode c_Mo_alter 26 = .ok (.iconst 2, 1) := by decide +kernel
theorem d_Mo_alter_27 : decode c_Mo_alter 27 = .ok (.iload_n 2, 1) := by decide +kernel
theorem d_Mo_alter_28 : decode c_Mo_alter 28 = .ok (.ifCond .lt 24, 3) := by decide +kernel
theorem d_Mo_alter_31 : decode c_Mo_alter 31 = .ok (.iload_n 2, 1) := by decide +kernel
theorem d_Mo_alter_32 : decode c_Mo_alter 32 = .ok (.iconst 5, 1) := by decide +kernel
theorem d_Mo_alter_33 : decode c_Mo_alter 33 = .ok (.if_icmp .gt 19, 3) := by decide +kernel
theorem d_Mo_alter_36 : decode c_Mo_alter 36 = .ok (.aload_n 0, 1) := by decide +kernel
theorem d_Mo_alter_37 : decode c_Mo_alter 37 = .ok (.getfield 13, 3) := by decide +kernel
theorem d_Mo_alter_40 : decode c_Mo_alter 40 = .ok (.iload_n 3, 1) := by decide +kernel
theorem d_Mo_alter_41 : decode c_Mo_alter 41 = .ok (.iaload, 1) := by decide +kernel
theorem d_Mo_alter_42 : decode c_Mo_alter 42 = .ok (.aload_n 0, 1) := by decide +kernel
theorem d_Mo_alter_43 : decode c_Mo_alter 43 = .ok (.getfield 13, 3) := by decide +kernel
theorem d_Mo_alter_46 : decode c_Mo_alter 46 = .ok (.iload 4, 2) := by decide +kernel
theorem d_Mo_alter_48 : decode c_Mo_alter 48 = .ok (.iaload, 1) := by decide +kernel
theorem d_Mo_alter_49 : decode c_Mo_alter 49 = .ok (.if_icmp .eq 7, 3) := by decide +kernel
theorem d_Mo_alter_52 : decode c_Mo_alter 52 = .ok (.iconst 1, 1) := by decide +kernel
theorem d_Mo_alter_53 : decode c_Mo_alter 53 = .ok (.goto 4, 3) := by decide +kernel
theorem d_Mo_alter_56 : decode c_Mo_alter 56 = .ok (.iconst 0, 1) := by decide +kernel
theorem d_Mo_alter_57 : decode c_Mo_alter 57 = .ok (.invokevirtual 28, 3) := by decide +kernel
theorem d_Mo_alter_60 : decode c_Mo_alter 60 = .ok (.ifCond .eq 5, 3) := by decide +kernel
theorem d_Mo_alter_63 : decode c_Mo_alter 63 = .ok (.iconst 0, 1) := by decide +kernel
theorem d_Mo_alter_64 : decode c_Mo_alter 64 = .ok (.ireturn, 1) := by decide +kernel
theorem d_Mo_alter_65 : decode c_Mo_alter 65 = .ok (.aload_n 0, 1) := by decide +kernel
theorem d_Mo_alter_66 : decode c_Mo_alter 66 = .ok (.invokevirtual 52, 3) := by decide +kernel
theorem d_Mo_alter_69 : decode c_Mo_alter 69 = .ok (.iconst 0, 1) := by decide +kernel
theorem d_Mo_alter_70 : decode c_Mo_alter 70 = .ok (.istore 5, 2) := by decide +kernel
theorem d_Mo_alter_72 : decode c_Mo_alter 72 = .ok (.iload 5, 2) := by decide +kernel
theorem d_Mo_alter_74 : decode c_Mo_alter 74 = .ok (.sipush 4096, 3) := by decide +kernel
theorem d_Mo_alter_77 : decode c_Mo_alter 77 = .ok (.if_icmp .ge 35, 3) := by decide +kernel
theorem d_Mo_alter_80 : decode c_Mo_alter 80 = .ok (.aload_n 0, 1) := by decide +kernel
theorem d_Mo_alter_81 : decode c_Mo_alter 81 = .ok (.getfield 21, 3) := by decide +kernel
theorem d_Mo_alter_84 : decode c_Mo_alter 84 = .ok (.iload 5, 2) := by decide +kernel
theorem d_Mo_alter_86 : decode c_Mo_alter 86 = .ok (.iload_n 2, 1) := by decide +kernel
theorem d_Mo_alter_87 : decode c_Mo_alter 87 = .ok (.aload_n 0, 1) := by decide +kernel
theorem d_Mo_alter_88 : decode c_Mo_alter 88 = .ok (.iload_n 3, 1) := by decide +kernel
theorem d_Mo_alter_89 : decode c_Mo_alter 89 = .ok (.iload 5, 2) := by decide +kernel
theorem d_Mo_alter_91 : decode c_Mo_alter 91 = .ok (.invokevirtual 48, 3) := by decide +kernel
theorem d_Mo_alter_94 : decode c_Mo_alter 94 = .ok (.aload_n 0, 1) := by decide +kernel
theorem d_Mo_alter_95 : decode c_Mo_alter 95 = .ok (.iload 4, 2) := by decide +kernel
theorem d_Mo_alter_97 : decode c_Mo_alter 97 = .ok (.iload 5, 2) := by decide +kernel
theorem d_Mo_alter_99 : decode c_Mo_alter 99 = .ok (.invokevirtual 48, 3) := by decide +kernel
theorem d_Mo_alter_102 : decode c_Mo_alter 102 = .ok (.invokestatic 65, 3) := by decide +kernel
theorem d_Mo_alter_105 : decode c_Mo_alter 105 = .ok (.iastore, 1) := by decide +kernel
theorem d_Mo_alter_106 : decode c_Mo_alter 106 = .ok (.iinc 5 1, 3) := by decide +kernel
theorem d_Mo_alter_109 : decode c_Mo_alter 109 = .ok (.goto (-37), 3) := by decide +kernel
theorem d_Mo_alter_112 : decode c_Mo_alter 112 = .ok (.aload_n 0, 1) := by decide +kernel
theorem d_Mo_alter_113 : decode c_Mo_alter 113 = .ok (.iload_n 1, 1) := by decide +kernel
theorem d_Mo_alter_114 : decode c_Mo_alter 114 = .ok (.aload_n 0, 1) := by decide +kernel
theorem d_Mo_alter_115 : decode c_Mo_alter 115 = .ok (.getfield 13, 3) := by decide +kernel
theorem d_Mo_alter_118 : decode c_Mo_alter 118 = .ok (.iload_n 3, 1) := by decide +kernel
theorem d_Mo_alter_119 : decode c_Mo_alter 119 = .ok (.iaload, 1) := by decide +kernel
theorem d_Mo_alter_120 : decode c_Mo_alter 120 = .ok (.iconst 3, 1) := by decide +kernel
theorem d_Mo_alter_121 : decode c_Mo_alter 121 = .ok (.invokevirtual 58, 3) := by decide +kernel
theorem d_Mo_alter_124 : decode c_Mo_alter 124 = .ok (.ireturn, 1) := by decide +kernel
theorem d_Mo_altered_0 : decode c_Mo_altered 0 = .ok (.iload_n 0, 1) := by decide +kernel
theorem d_Mo_altered_1 : decode c_Mo_altered 1 = .ok (.tableswitch 77 0 4 #[35, 39, 43, 53, 63], 35) := by decide +kernel
theorem d_Mo_altered_36 : decode c_Mo_altered 36 = .ok (.iload_n 1, 1) := by decide +kernel
theorem d_Mo_altered_37 : decode c_Mo_altered 37 = .ok (.iload_n 2, 1) := by decide +kernel
theorem d_Mo_altered_38 : decode c_Mo_altered 38 = .ok (.iadd, 1) := by decide +kernel
theorem d_Mo_altered_39 : decode c_Mo_altered 39 = .ok (.ireturn, 1) := by decide +kernel
theorem d_Mo_altered_40 : decode c_Mo_altered 40 = .ok (.iload_n 1, 1) := by decide +kernel
theorem d_Mo_altered_41 : decode c_Mo_altered 41 = .ok (.iload_n 2, 1) := by decide +kernel
theorem d_Mo_altered_42 : decode c_Mo_altered 42 = .ok (.isub, 1) := by decide +kernel
theorem d_Mo_altered_43 : decode c_Mo_altered 43 = .ok (.ireturn, 1) := by decide +kernel
theorem d_Mo_altered_44 : decode c_Mo_altered 44 = .ok (.iload_n 2, 1) := by decide +kernel
theorem d_Mo_altered_45 : decode c_Mo_altered 45 = .ok (.ifCond .eq 7, 3) := by decide +kernel
theorem d_Mo_altered_48 : decode c_Mo_altered 48 = .ok (.iload_n 1, 1) := by decide +kernel
theorem d_Mo_altered_49 : decode c_Mo_altered 49 = .ok (.goto 4, 3) := by decide +kernel
theorem d_Mo_altered_52 : decode c_Mo_altered 52 = .ok (.iconst 0, 1) := by decide +kernel
theorem d_Mo_altered_53 : decode c_Mo_altered 53 = .ok (.ireturn, 1) := by decide +kernel
theorem d_Mo_altered_54 : decode c_Mo_altered 54 = .ok (.iload_n 2, 1) := by decide +kernel
theorem d_Mo_altered_55 : decode c_Mo_altered 55 = .ok (.ifCond .ne 7, 3) := by decide +kernel
theorem d_Mo_altered_58 : decode c_Mo_altered 58 = .ok (.iload_n 1, 1) := by decide +kernel
theorem d_Mo_altered_59 : decode c_Mo_altered 59 = .ok (.goto 4, 3) := by decide +kernel
theorem d_Mo_altered_62 : decode c_Mo_altered 62 = .ok (.iconst 0, 1) := by decide +kernel
theorem d_Mo_altered_63 : decode c_Mo_altered 63 = .ok (.ireturn, 1) := by decide +kernel
theorem d_Mo_altered_64 : decode c_Mo_altered 64 = .ok (.iload_n 1, 1) := by decide +kernel
theorem d_Mo_altered_65 : decode c_Mo_altered 65 = .ok (.ifCond .ne 7, 3) := by decide +kernel
theorem d_Mo_altered_68 : decode c_Mo_altered 68 = .ok (.iload_n 2, 1) := by decide +kernel
theorem d_Mo_altered_69 : decode c_Mo_altered 69 = .ok (.ifCond .eq 7, 3) := by decide +kernel
theorem d_Mo_altered_72 : decode c_Mo_altered 72 = .ok (.iconst 1, 1) := by decide +kernel
theorem d_Mo_altered_73 : decode c_Mo_altered 73 = .ok (.goto 4, 3) := by decide +kernel
theorem d_Mo_altered_76 : decode c_Mo_altered 76 = .ok (.iconst 0, 1) := by decide +kernel
theorem d_Mo_altered_77 : decode c_Mo_altered 77 = .ok (.ireturn, 1) := by decide +kernel
theorem d_Mo_altered_78 : decode c_Mo_altered 78 = .ok (.iload_n 1, 1) := by decide +kernel
theorem d_Mo_altered_79 : decode c_Mo_altered 79 = .ok (.ifCond .eq 7, 3) := by decide +kernel
theorem d_Mo_altered_82 : decode c_Mo_altered 82 = .ok (.iload_n 2, 1) := by decide +kernel
theorem d_Mo_altered_83 : decode c_Mo_altered 83 = .ok (.ifCond .ne 7, 3) := by decide +kernel
theorem d_Mo_altered_86 : decode c_Mo_altered 86 = .ok (.iconst 0, 1) := by decide +kernel
theorem d_Mo_altered_87 : decode c_Mo_altered 87 = .ok (.goto 13, 3) := by decide +kernel
theorem d_Mo_altered_90 : decode c_Mo_altered 90 = .ok (.iload_n 1, 1) := by decide +kernel
theorem d_Mo_altered_91 : decode c_Mo_altered 91 = .ok (.iload_n 2, 1) := by decide +kernel
theorem d_Mo_altered_92 : decode c_Mo_altered 92 = .ok (.if_icmp .ge 7, 3) := by decide +kernel
theorem d_Mo_altered_95 : decode c_Mo_altered 95 = .ok (.iload_n 1, 1) := by decide +kernel
theorem d_Mo_altered_96 : decode c_Mo_altered 96 = .ok (.goto 4, 3) := by decide +kernel
theorem d_Mo_altered_99 : decode c_Mo_altered 99 = .ok (.iload_n 2, 1) := by decide +kernel
theorem d_Mo_altered_100 : decode c_Mo_altered 100 = .ok (.ireturn, 1) := by decide +kernel
theorem d_Mo_reach_0 : decode c_Mo_reach 0 = .ok (.aload_n 0, 1) := by decide +kernel
theorem d_Mo_reach_1 : decode c_Mo_reach 1 = .ok (.iload_n 1, 1) := by decide +kernel
theorem d_Mo_reach_2 : decode c_Mo_reach 2 = .ok (.invokevirtual 36, 3) := by decide +kernel
theorem d_Mo_reach_5 : decode c_Mo_reach 5 = .ok (.ifCond .ne 34, 3) := by decide +kernel
theorem d_Mo_reach_8 : decode c_Mo_reach 8 = .ok (.aload_n 0, 1) := by decide +kernel
theorem d_Mo_reach_9 : decode c_Mo_reach 9 = .ok (.iload_n 2, 1) := by decide +kernel
theorem d_Mo_reach_10 : decode c_Mo_reach 10 = .ok (.invokevirtual 36, 3) := by decide +kernel
theorem d_Mo_reach_13 : decode c_Mo_reach 13 = .ok (.ifCond .ne 26, 3) := by decide +kernel
theorem d_Mo_reach_16 : decode c_Mo_reach 16 = .ok (.aload_n 0, 1) := by decide +kernel
theorem d_Mo_reach_17 : decode c_Mo_reach 17 = .ok (.iconst 2, 1) := by decide +kernel
theorem d_Mo_reach_18 : decode c_Mo_reach 18 = .ok (.aload_n 0, 1) := by decide +kernel
theorem d_Mo_reach_19 : decode c_Mo_reach 19 = .ok (.getfield 13, 3) := by decide +kernel
theorem d_Mo_reach_22 : decode c_Mo_reach 22 = .ok (.iload_n 2, 1) := by decide +kernel
theorem d_Mo_reach_23 : decode c_Mo_reach 23 = .ok (.iaload, 1) := by decide +kernel
theorem d_Mo_reach_24 : decode c_Mo_reach 24 = .ok (.iconst 2, 1) := by decide +kernel
theorem d_Mo_reach_25 : decode c_Mo_reach 25 = .ok (.if_icmp .eq 7, 3) := by decide +kernel
theorem d_Mo_reach_28 : decode c_Mo_reach 28 = .ok (.iconst 1, 1) := by decide +kernel
theorem d_Mo_reach_29 : decode c_Mo_reach 29 = .ok (.goto 4, 3) := by decide +kernel
theorem d_Mo_reach_32 : decode c_Mo_reach 32 = .ok (.iconst 0, 1) := by decide +kernel
theorem d_Mo_reach_33 : decode c_Mo_reach 33 = .ok (.invokevirtual 28, 3) := by decide +kernel
theorem d_Mo_reach_36 : decode c_Mo_reach 36 = .ok (.ifCond .eq 5, 3) := by decide +kernel
theorem d_Mo_reach_39 : decode c_Mo_reach 39 = .ok (.iconst 0, 1) := by decide +kernel
theorem d_Mo_reach_40 : decode c_Mo_reach 40 = .ok (.ireturn, 1) := by decide +kernel
theorem d_Mo_reach_41 : decode c_Mo_reach 41 = .ok (.iconst 0, 1) := by decide +kernel
theorem d_Mo_reach_42 : decode c_Mo_reach 42 = .ok (.istore_n 3, 1) := by decide +kernel
theorem d_Mo_reach_43 : decode c_Mo_reach 43 = .ok (.iload_n 3, 1) := by decide +kernel
theorem d_Mo_reach_44 : decode c_Mo_reach 44 = .ok (.bipush 16, 2) := by decide +kernel
theorem d_Mo_reach_46 : decode c_Mo_reach 46 = .ok (.if_icmp .ge 61, 3) := by decide +kernel
theorem d_Mo_reach_49 : decode c_Mo_reach 49 = .ok (.iconst 0, 1) := by decide +kernel
theorem d_Mo_reach_50 : decode c_Mo_reach 50 = .ok (.istore 4, 2) := by decide +kernel
theorem d_Mo_reach_52 : decode c_Mo_reach 52 = .ok (.iload 4, 2) := by decide +kernel
theorem d_Mo_reach_54 : decode c_Mo_reach 54 = .ok (.bipush 16, 2) := by decide +kernel
theorem d_Mo_reach_56 : decode c_Mo_reach 56 = .ok (.if_icmp .ge 45, 3) := by decide +kernel
theorem d_Mo_reach_59 : decode c_Mo_reach 59 = .ok (.aload_n 0, 1) := by decide +kernel
theorem d_Mo_reach_60 : decode c_Mo_reach 60 = .ok (.getfield 24, 3) := by decide +kernel
theorem d_Mo_reach_63 : decode c_Mo_reach 63 = .ok (.bipush 16, 2) := by decide +kernel
theorem d_Mo_reach_65 : decode c_Mo_reach 65 = .ok (.iload_n 3, 1) := by decide +kernel
theorem d_Mo_reach_66 : decode c_Mo_reach 66 = .ok (.imul, 1) := by decide +kernel
theorem d_Mo_reach_67 : decode c_Mo_reach 67 = .ok (.iload 4, 2) := by decide +kernel
theorem d_Mo_reach_69 : decode c_Mo_reach 69 = .ok (.iadd, 1) := by decide +kernel
theorem d_Mo_reach_70 : decode c_Mo_reach 70 = .ok (.aload_n 0, 1) := by decide +kernel
theorem d_Mo_reach_71 : decode c_Mo_reach 71 = .ok (.iload_n 2, 1) := by decide +kernel
theorem d_Mo_reach_72 : decode c_Mo_reach 72 = .ok (.sipush 256, 3) := by decide +kernel
theorem d_Mo_reach_75 : decode c_Mo_reach 75 = .ok (.iload_n 3, 1) := by decide +kernel
theorem d_Mo_reach_76 : decode c_Mo_reach 76 = .ok (.imul, 1) := by decide +kernel
theorem d_Mo_reach_77 : decode c_Mo_reach 77 = .ok (.bipush 16, 2) := by decide +kernel
theorem d_Mo_reach_79 : decode c_Mo_reach 79 = .ok (.iload 4, 2) := by decide +kernel
theorem d_Mo_reach_81 : decode c_Mo_reach 81 = .ok (.imul, 1) := by decide +kernel
theorem d_Mo_reach_82 : decode c_Mo_reach 82 = .ok (.iadd, 1) := by decide +kernel
theorem d_Mo_reach_83 : decode c_Mo_reach 83 = .ok (.invokevirtual 48, 3) := by decide +kernel
theorem d_Mo_reach_86 : decode c_Mo_reach 86 = .ok (.ifCond .eq 7, 3) := by decide +kernel
theorem d_Mo_reach_89 : decode c_Mo_reach 89 = .ok (.iconst 1, 1) := by decide +kernel
theorem d_Mo_reach_90 : decode c_Mo_reach 90 = .ok (.goto 4, 3) := by decide +kernel
theorem d_Mo_reach_93 : decode c_Mo_reach 93 = .ok (.iconst 0, 1) := by decide +kernel
theorem d_Mo_reach_94 : decode c_Mo_reach 94 = .ok (.bastore, 1) := by decide +kernel
theorem d_Mo_reach_95 : decode c_Mo_reach 95 = .ok (.iinc 4 1, 3) := by decide +kernel
theorem d_Mo_reach_98 : decode c_Mo_reach 98 = .ok (.goto (-46), 3) := by decide +kernel
theorem d_Mo_reach_101 : decode c_Mo_reach 101 = .ok (.iinc 3 1, 3) := by decide +kernel
theorem d_Mo_reach_104 : decode c_Mo_reach 104 = .ok (.goto (-61), 3) := by decide +kernel
theorem d_Mo_reach_107 : decode c_Mo_reach 107 = .ok (.iconst 1, 1) := by decide +kernel
theorem d_Mo_reach_108 : decode c_Mo_reach 108 = .ok (.istore_n 3, 1) := by decide +kernel
theorem d_Mo_reach_109 : decode c_Mo_reach 109 = .ok (.iload_n 3, 1) := by decide +kernel
theorem d_Mo_reach_110 : decode c_Mo_reach 110 = .ok (.ifCond .eq 161, 3) := by decide +kernel
theorem d_Mo_reach_113 : decode c_Mo_reach 113 = .ok (.iconst 0, 1) := by decide +kernel
theorem d_Mo_reach_114 : decode c_Mo_reach 114 = .ok (.istore_n 3, 1) := by decide +kernel
theorem d_Mo_reach_115 : decode c_Mo_reach 115 = .ok (.iconst 0, 1) := by decide +kernel
theorem d_Mo_reach_116 : decode c_Mo_reach 116 = .ok (.istore 4, 2) := by decide +kernel
theorem d_Mo_reach_118 : decode c_Mo_reach 118 = .ok (.iload 4, 2) := by decide +kernel
theorem d_Mo_reach_120 : decode c_Mo_reach 120 = .ok (.bipush 16, 2) := by decide +kernel
theorem d_Mo_reach_122 : decode c_Mo_reach 122 = .ok (.if_icmp .ge 146, 3) := by decide +kernel
theorem d_Mo_reach_125 : decode c_Mo_reach 125 = .ok (.iconst 0, 1) := by decide +kernel
theorem d_Mo_reach_126 : decode c_Mo_reach 126 = .ok (.istore 5, 2) := by decide +kernel
theorem d_Mo_reach_128 : decode c_Mo_reach 128 = .ok (.iload 5, 2) := by decide +kernel
theorem d_Mo_reach_130 : decode c_Mo_reach 130 = .ok (.bipush 16, 2) := by decide +kernel
theorem d_Mo_reach_132 : decode c_Mo_reach 132 = .ok (.if_icmp .ge 130, 3) := by decide +kernel
theorem d_Mo_reach_135 : decode c_Mo_reach 135 = .ok (.aload_n 0, 1) := by decide +kernel
theorem d_Mo_reach_136 : decode c_Mo_reach 136 = .ok (.getfield 24, 3) := by decide +kernel
theorem d_Mo_reach_139 : decode c_Mo_reach 139 = .ok (.bipush 16, 2) := by decide +kernel
theorem d_Mo_reach_141 : decode c_Mo_reach 141 = .ok (.iload 4, 2) := by decide +kernel
theorem d_Mo_reach_143 : decode c_Mo_reach 143 = .ok (.imul, 1) := by decide +kernel
theorem d_Mo_reach_144 : decode c_Mo_reach 144 = .ok (.iload 5, 2) := by decide +kernel
theorem d_Mo_reach_146 : decode c_Mo_reach 146 = .ok (.iadd, 1) := by decide +kernel
theorem d_Mo_reach_147 : decode c_Mo_reach 147 = .ok (.baload, 1) := by decide +kernel
theorem d_Mo_reach_148 : decode c_Mo_reach 148 = .ok (.istore 6, 2) := by decide +kernel
theorem d_Mo_reach_150 : decode c_Mo_reach 150 = .ok (.iconst 0, 1) := by decide +kernel
theorem d_Mo_reach_151 : decode c_Mo_reach 151 = .ok (.istore 7, 2) := by decide +kernel
theorem d_Mo_reach_153 : decode c_Mo_reach 153 = .ok (.iload 7, 2) := by decide +kernel
theorem d_Mo_reach_155 : decode c_Mo_reach 155 = .ok (.bipush 16, 2) := by decide +kernel
theorem d_Mo_reach_157 : decode c_Mo_reach 157 = .ok (.if_icmp .ge 53, 3) := by decide +kernel
theorem d_Mo_reach_160 : decode c_Mo_reach 160 = .ok (.iload 6, 2) := by decide +kernel
theorem d_Mo_reach_162 : decode c_Mo_reach 162 = .ok (.ifCond .ne 35, 3) := by decide +kernel
theorem d_Mo_reach_165 : decode c_Mo_reach 165 = .ok (.aload_n 0, 1) := by decide +kernel
theorem d_Mo_reach_166 : decode c_Mo_reach 166 = .ok (.getfield 24, 3) := by decide +kernel
theorem d_Mo_reach_169 : decode c_Mo_reach 169 = .ok (.bipush 16, 2) := by decide +kernel
theorem d_Mo_reach_171 : decode c_Mo_reach 171 = .ok (.iload 4, 2) := by decide +kernel
theorem d_Mo_reach_173 : decode c_Mo_reach 173 = .ok (.imul, 1) := by decide +kernel
theorem d_Mo_reach_174 : decode c_Mo_reach 174 = .ok (.iload 7, 2) := by decide +kernel
theorem d_Mo_reach_176 : decode c_Mo_reach 176 = .ok (.iadd, 1) := by decide +kernel
theorem d_Mo_reach_177 : decode c_Mo_reach 177 = .ok (.baload, 1) := by decide +kernel
theorem d_Mo_reach_178 : decode c_Mo_reach 178 = .ok (.ifCond .eq 23, 3) := by decide +kernel
theorem d_Mo_reach_181 : decode c_Mo_reach 181 = .ok (.aload_n 0, 1) := by decide +kernel
theorem d_Mo_reach_182 : decode c_Mo_reach 182 = .ok (.getfield 24, 3) := by decide +kernel
theorem d_Mo_reach_185 : decode c_Mo_reach 185 = .ok (.bipush 16, 2) := by decide +kernel
theorem d_Mo_reach_187 : decode c_Mo_reach 187 = .ok (.iload 7, 2) := by decide +kernel
theorem d_Mo_reach_189 : decode c_Mo_reach 189 = .ok (.imul, 1) := by decide +kernel
theorem d_Mo_reach_190 : decode c_Mo_reach 190 = .ok (.iload 5, 2) := by decide +kernel
theorem d_Mo_reach_192 : decode c_Mo_reach 192 = .ok (.iadd, 1) := by decide +kernel
theorem d_Mo_reach_193 : decode c_Mo_reach 193 = .ok (.baload, 1) := by decide +kernel
theorem d_Mo_reach_194 : decode c_Mo_reach 194 = .ok (.ifCond .eq 7, 3) := by decide +kernel
theorem d_Mo_reach_197 : decode c_Mo_reach 197 = .ok (.iconst 1, 1) := by decide +kernel
theorem d_Mo_reach_198 : decode c_Mo_reach 198 = .ok (.goto 4, 3) := by decide +kernel
theorem d_Mo_reach_201 : decode c_Mo_reach 201 = .ok (.iconst 0, 1) := by decide +kernel
theorem d_Mo_reach_202 : decode c_Mo_reach 202 = .ok (.istore 6, 2) := by decide +kernel
theorem d_Mo_reach_204 : decode c_Mo_reach 204 = .ok (.iinc 7 1, 3) := by decide +kernel
theorem d_Mo_reach_207 : decode c_Mo_reach 207 = .ok (.goto (-54), 3) := by decide +kernel
theorem d_Mo_reach_210 : decode c_Mo_reach 210 = .ok (.iload_n 3, 1) := by decide +kernel
theorem d_Mo_reach_211 : decode c_Mo_reach 211 = .ok (.ifCond .ne 24, 3) := by decide +kernel
theorem d_Mo_reach_214 : decode c_Mo_reach 214 = .ok (.iload 6, 2) := by decide +kernel
theorem d_Mo_reach_216 : decode c_Mo_reach 216 = .ok (.ifCond .eq 23, 3) := by decide +kernel
theorem d_Mo_reach_219 : decode c_Mo_reach 219 = .ok (.aload_n 0, 1) := by decide +kernel
theorem d_Mo_reach_220 : decode c_Mo_reach 220 = .ok (.getfield 24, 3) := by decide +kernel
theorem d_Mo_reach_223 : decode c_Mo_reach 223 = .ok (.bipush 16, 2) := by decide +kernel
theorem d_Mo_reach_225 : decode c_Mo_reach 225 = .ok (.iload 4, 2) := by decide +kernel
theorem d_Mo_reach_227 : decode c_Mo_reach 227 = .ok (.imul, 1) := by decide +kernel
theorem d_Mo_reach_228 : decode c_Mo_reach 228 = .ok (.iload 5, 2) := by decide +kernel
theorem d_Mo_reach_230 : decode c_Mo_reach 230 = .ok (.iadd, 1) := by decide +kernel
theorem d_Mo_reach_231 : decode c_Mo_reach 231 = .ok (.baload, 1) := by decide +kernel
theorem d_Mo_reach_232 : decode c_Mo_reach 232 = .ok (.ifCond .ne 7, 3) := by decide +kernel
theorem d_Mo_reach_235 : decode c_Mo_reach 235 = .ok (.iconst 1, 1) := by decide +kernel
theorem d_Mo_reach_236 : decode c_Mo_reach 236 = .ok (.goto 4, 3) := by decide +kernel
theorem d_Mo_reach_239 : decode c_Mo_reach 239 = .ok (.iconst 0, 1) := by decide +kernel
theorem d_Mo_reach_240 : decode c_Mo_reach 240 = .ok (.istore_n 3, 1) := by decide +kernel
theorem d_Mo_reach_241 : decode c_Mo_reach 241 = .ok (.aload_n 0, 1) := by decide +kernel
theorem d_Mo_reach_242 : decode c_Mo_reach 242 = .ok (.getfield 24, 3) := by decide +kernel
theorem d_Mo_reach_245 : decode c_Mo_reach 245 = .ok (.bipush 16, 2) := by decide +kernel
theorem d_Mo_reach_247 : decode c_Mo_reach 247 = .ok (.iload 4, 2) := by decide +kernel
theorem d_Mo_reach_249 : decode c_Mo_reach 249 = .ok (.imul, 1) := by decide +kernel
theorem d_Mo_reach_250 : decode c_Mo_reach 250 = .ok (.iload 5, 2) := by decide +kernel
theorem d_Mo_reach_252 : decode c_Mo_reach 252 = .ok (.iadd, 1) := by decide +kernel
theorem d_Mo_reach_253 : decode c_Mo_reach 253 = .ok (.iload 6, 2) := by decide +kernel
theorem d_Mo_reach_255 : decode c_Mo_reach 255 = .ok (.bastore, 1) := by decide +kernel
theorem d_Mo_reach_256 : decode c_Mo_reach 256 = .ok (.iinc 5 1, 3) := by decide +kernel
theorem d_Mo_reach_259 : decode c_Mo_reach 259 = .ok (.goto (-131), 3) := by decide +kernel
theorem d_Mo_reach_262 : decode c_Mo_reach 262 = .ok (.iinc 4 1, 3) := by decide +kernel
theorem d_Mo_reach_265 : decode c_Mo_reach 265 = .ok (.goto (-147), 3) := by decide +kernel
theorem d_Mo_reach_268 : decode c_Mo_reach 268 = .ok (.goto (-159), 3) := by decide +kernel
theorem d_Mo_reach_271 : decode c_Mo_reach 271 = .ok (.aload_n 0, 1) := by decide +kernel
theorem d_Mo_reach_272 : decode c_Mo_reach 272 = .ok (.invokevirtual 52, 3) := by decide +kernel
theorem d_Mo_reach_275 : decode c_Mo_reach 275 = .ok (.iconst 0, 1) := by decide +kernel
theorem d_Mo_reach_276 : decode c_Mo_reach 276 = .ok (.istore 4, 2) := by decide +kernel
theorem d_Mo_reach_278 : decode c_Mo_reach 278 = .ok (.iload 4, 2) := by decide +kernel
theorem d_Mo_reach_280 : decode c_Mo_reach 280 = .ok (.bipush 16, 2) := by decide +kernel
theorem d_Mo_reach_282 : decode c_Mo_reach 282 = .ok (.if_icmp .ge 59, 3) := by decide +kernel
theorem d_Mo_reach_285 : decode c_Mo_reach 285 = .ok (.iconst 0, 1) := by decide +kernel
theorem d_Mo_reach_286 : decode c_Mo_reach 286 = .ok (.istore 5, 2) := by decide +kernel
theorem d_Mo_reach_288 : decode c_Mo_reach 288 = .ok (.iload 5, 2) := by decide +kernel
theorem d_Mo_reach_290 : decode c_Mo_reach 290 = .ok (.bipush 16, 2) := by decide +kernel
theorem d_Mo_reach_292 : decode c_Mo_reach 292 = .ok (.if_icmp .ge 43, 3) := by decide +kernel
theorem d_Mo_reach_295 : decode c_Mo_reach 295 = .ok (.aload_n 0, 1) := by decide +kernel
theorem d_Mo_reach_296 : decode c_Mo_reach 296 = .ok (.getfield 24, 3) := by decide +kernel
theorem d_Mo_reach_299 : decode c_Mo_reach 299 = .ok (.bipush 16, 2) := by decide +kernel
theorem d_Mo_reach_301 : decode c_Mo_reach 301 = .ok (.iload 4, 2) := by decide +kernel
theorem d_Mo_reach_303 : decode c_Mo_reach 303 = .ok (.imul, 1) := by decide +kernel
theorem d_Mo_reach_304 : decode c_Mo_reach 304 = .ok (.iload 5, 2) := by decide +kernel
theorem d_Mo_reach_306 : decode c_Mo_reach 306 = .ok (.iadd, 1) := by decide +kernel
theorem d_Mo_reach_307 : decode c_Mo_reach 307 = .ok (.baload, 1) := by decide +kernel
theorem d_Mo_reach_308 : decode c_Mo_reach 308 = .ok (.ifCond .eq 21, 3) := by decide +kernel
theorem d_Mo_reach_311 : decode c_Mo_reach 311 = .ok (.aload_n 0, 1) := by decide +kernel
theorem d_Mo_reach_312 : decode c_Mo_reach 312 = .ok (.getfield 21, 3) := by decide +kernel
theorem d_Mo_reach_315 : decode c_Mo_reach 315 = .ok (.sipush 256, 3) := by decide +kernel
theorem d_Mo_reach_318 : decode c_Mo_reach 318 = .ok (.iload 4, 2) := by decide +kernel
theorem d_Mo_reach_320 : decode c_Mo_reach 320 = .ok (.imul, 1) := by decide +kernel
theorem d_Mo_reach_321 : decode c_Mo_reach 321 = .ok (.bipush 16, 2) := by decide +kernel
theorem d_Mo_reach_323 : decode c_Mo_reach 323 = .ok (.iload 5, 2) := by decide +kernel
theorem d_Mo_reach_325 : decode c_Mo_reach 325 = .ok (.imul, 1) := by decide +kernel
theorem d_Mo_reach_326 : decode c_Mo_reach 326 = .ok (.iadd, 1) := by decide +kernel
theorem d_Mo_reach_327 : decode c_Mo_reach 327 = .ok (.iconst 1, 1) := by decide +kernel
theorem d_Mo_reach_328 : decode c_Mo_reach 328 = .ok (.iastore, 1) := by decide +kernel
theorem d_Mo_reach_329 : decode c_Mo_reach 329 = .ok (.iinc 5 1, 3) := by decide +kernel
theorem d_Mo_reach_332 : decode c_Mo_reach 332 = .ok (.goto (-44), 3) := by decide +kernel
theorem d_Mo_reach_335 : decode c_Mo_reach 335 = .ok (.iinc 4 1, 3) := by decide +kernel
theorem d_Mo_reach_338 : decode c_Mo_reach 338 = .ok (.goto (-60), 3) := by decide +kernel
theorem d_Mo_reach_341 : decode c_Mo_reach 341 = .ok (.aload_n 0, 1) := by decide +kernel
theorem d_Mo_reach_342 : decode c_Mo_reach 342 = .ok (.iload_n 1, 1) := by decide +kernel
theorem d_Mo_reach_343 : decode c_Mo_reach 343 = .ok (.iconst 2, 1) := by decide +kernel
theorem d_Mo_reach_344 : decode c_Mo_reach 344 = .ok (.iconst 3, 1) := by decide +kernel
theorem d_Mo_reach_345 : decode c_Mo_reach 345 = .ok (.invokevirtual 58, 3) := by decide +kernel
theorem d_Mo_reach_348 : decode c_Mo_reach 348 = .ok (.ireturn, 1) := by decide +kernel
theorem d_Mo_turn_0 : decode c_Mo_turn 0 = .ok (.aload_n 0, 1) := by decide +kernel
theorem d_Mo_turn_1 : decode c_Mo_turn 1 = .ok (.iload_n 1, 1) := by decide +kernel
theorem d_Mo_turn_2 : decode c_Mo_turn 2 = .ok (.invokevirtual 36, 3) := by decide +kernel
theorem d_Mo_turn_5 : decode c_Mo_turn 5 = .ok (.ifCond .ne 11, 3) := by decide +kernel
theorem d_Mo_turn_8 : decode c_Mo_turn 8 = .ok (.aload_n 0, 1) := by decide +kernel
theorem d_Mo_turn_9 : decode c_Mo_turn 9 = .ok (.iload_n 2, 1) := by decide +kernel
theorem d_Mo_turn_10 : decode c_Mo_turn 10 = .ok (.invokevirtual 36, 3) := by decide +kernel
theorem d_Mo_turn_13 : decode c_Mo_turn 13 = .ok (.ifCond .eq 5, 3) := by decide +kernel
theorem d_Mo_turn_16 : decode c_Mo_turn 16 = .ok (.iconst 0, 1) := by decide +kernel
theorem d_Mo_turn_17 : decode c_Mo_turn 17 = .ok (.ireturn, 1) := by decide +kernel
theorem d_Mo_turn_18 : decode c_Mo_turn 18 = .ok (.aload_n 0, 1) := by decide +kernel
theorem d_Mo_turn_19 : decode c_Mo_turn 19 = .ok (.invokevirtual 52, 3) := by decide +kernel
theorem d_Mo_turn_22 : decode c_Mo_turn 22 = .ok (.aload_n 0, 1) := by decide +kernel
theorem d_Mo_turn_23 : decode c_Mo_turn 23 = .ok (.getfield 13, 3) := by decide +kernel
theorem d_Mo_turn_26 : decode c_Mo_turn 26 = .ok (.iload_n 2, 1) := by decide +kernel
theorem d_Mo_turn_27 : decode c_Mo_turn 27 = .ok (.iaload, 1) := by decide +kernel
theorem d_Mo_turn_28 : decode c_Mo_turn 28 = .ok (.istore_n 3, 1) := by decide +kernel
theorem d_Mo_turn_29 : decode c_Mo_turn 29 = .ok (.iconst 0, 1) := by decide +kernel
theorem d_Mo_turn_30 : decode c_Mo_turn 30 = .ok (.istore 4, 2) := by decide +kernel
theorem d_Mo_turn_32 : decode c_Mo_turn 32 = .ok (.iload 4, 2) := by decide +kernel
theorem d_Mo_turn_34 : decode c_Mo_turn 34 = .ok (.sipush 4096, 3) := by decide +kernel
theorem d_Mo_turn_37 : decode c_Mo_turn 37 = .ok (.if_icmp .ge 74, 3) := by decide +kernel
theorem d_Mo_turn_40 : decode c_Mo_turn 40 = .ok (.iconst 0, 1) := by decide +kernel
theorem d_Mo_turn_41 : decode c_Mo_turn 41 = .ok (.istore 5, 2) := by decide +kernel
theorem d_Mo_turn_43 : decode c_Mo_turn 43 = .ok (.iconst 0, 1) := by decide +kernel
theorem d_Mo_turn_44 : decode c_Mo_turn 44 = .ok (.istore 6, 2) := by decide +kernel
theorem d_Mo_turn_46 : decode c_Mo_turn 46 = .ok (.iload 6, 2) := by decide +kernel
theorem d_Mo_turn_48 : decode c_Mo_turn 48 = .ok (.iload_n 3, 1) := by decide +kernel
theorem d_Mo_turn_49 : decode c_Mo_turn 49 = .ok (.if_icmp .ge 33, 3) := by decide +kernel
theorem d_Mo_turn_52 : decode c_Mo_turn 52 = .ok (.iload 5, 2) := by decide +kernel
theorem d_Mo_turn_54 : decode c_Mo_turn 54 = .ok (.iload 4, 2) := by decide +kernel
theorem d_Mo_turn_56 : decode c_Mo_turn 56 = .ok (.iload 6, 2) := by decide +kernel
theorem d_Mo_turn_58 : decode c_Mo_turn 58 = .ok (.invokestatic 55, 3) := by decide +kernel
theorem d_Mo_turn_61 : decode c_Mo_turn 61 = .ok (.bipush 8, 2) := by decide +kernel
theorem d_Mo_turn_63 : decode c_Mo_turn 63 = .ok (.iconst 4, 1) := by decide +kernel
theorem d_Mo_turn_64 : decode c_Mo_turn 64 = .ok (.iload_n 3, 1) := by decide +kernel
theorem d_Mo_turn_65 : decode c_Mo_turn 65 = .ok (.iconst 1, 1) := by decide +kernel
theorem d_Mo_turn_66 : decode c_Mo_turn 66 = .ok (.isub, 1) := by decide +kernel
theorem d_Mo_turn_67 : decode c_Mo_turn 67 = .ok (.iload 6, 2) := by decide +kernel
theorem d_Mo_turn_69 : decode c_Mo_turn 69 = .ok (.isub, 1) := by decide +kernel
theorem d_Mo_turn_70 : decode c_Mo_turn 70 = .ok (.imul, 1) := by decide +kernel
theorem d_Mo_turn_71 : decode c_Mo_turn 71 = .ok (.isub, 1) := by decide +kernel
theorem d_Mo_turn_72 : decode c_Mo_turn 72 = .ok (.ishl, 1) := by decide +kernel
theorem d_Mo_turn_73 : decode c_Mo_turn 73 = .ok (.ior, 1) := by decide +kernel
theorem d_Mo_turn_74 : decode c_Mo_turn 74 = .ok (.istore 5, 2) := by decide +kernel
theorem d_Mo_turn_76 : decode c_Mo_turn 76 = .ok (.iinc 6 1, 3) := by decide +kernel
theorem d_Mo_turn_79 : decode c_Mo_turn 79 = .ok (.goto (-33), 3) := by decide +kernel
theorem d_Mo_turn_82 : decode c_Mo_turn 82 = .ok (.iload 4, 2) := by decide +kernel
theorem d_Mo_turn_84 : decode c_Mo_turn 84 = .ok (.iload_n 3, 1) := by decide +kernel
theorem d_Mo_turn_85 : decode c_Mo_turn 85 = .ok (.invokestatic 44, 3) := by decide +kernel
theorem d_Mo_turn_88 : decode c_Mo_turn 88 = .ok (.ifCond .eq 17, 3) := by decide +kernel
theorem d_Mo_turn_91 : decode c_Mo_turn 91 = .ok (.aload_n 0, 1) := by decide +kernel
theorem d_Mo_turn_92 : decode c_Mo_turn 92 = .ok (.getfield 21, 3) := by decide +kernel
theorem d_Mo_turn_95 : decode c_Mo_turn 95 = .ok (.iload 5, 2) := by decide +kernel
theorem d_Mo_turn_97 : decode c_Mo_turn 97 = .ok (.aload_n 0, 1) := by decide +kernel
theorem d_Mo_turn_98 : decode c_Mo_turn 98 = .ok (.iload_n 2, 1) := by decide +kernel
theorem d_Mo_turn_99 : decode c_Mo_turn 99 = .ok (.iload 4, 2) := by decide +kernel
theorem d_Mo_turn_101 : decode c_Mo_turn 101 = .ok (.invokevirtual 48, 3) := by decide +kernel
theorem d_Mo_turn_104 : decode c_Mo_turn 104 = .ok (.iastore, 1) := by decide +kernel
theorem d_Mo_turn_105 : decode c_Mo_turn 105 = .ok (.iinc 4 1, 3) := by decide +kernel
theorem d_Mo_turn_108 : decode c_Mo_turn 108 = .ok (.goto (-76), 3) := by decide +kernel
theorem d_Mo_turn_111 : decode c_Mo_turn 111 = .ok (.aload_n 0, 1) := by decide +kernel
theorem d_Mo_turn_112 : decode c_Mo_turn 112 = .ok (.iload_n 1, 1) := by decide +kernel
theorem d_Mo_turn_113 : decode c_Mo_turn 113 = .ok (.iload_n 3, 1) := by decide +kernel
theorem d_Mo_turn_114 : decode c_Mo_turn 114 = .ok (.iconst 3, 1) := by decide +kernel
theorem d_Mo_turn_115 : decode c_Mo_turn 115 = .ok (.invokevirtual 58, 3) := by decide +kernel
theorem d_Mo_turn_118 : decode c_Mo_turn 118 = .ok (.ireturn, 1) := by decide +kernel
theorem d_Mo_about_0 : decode c_Mo_about 0 = .ok (.aload_n 0, 1) := by decide +kernel
theorem d_Mo_about_1 : decode c_Mo_about 1 = .ok (.iload_n 1, 1) := by decide +kernel
theorem d_Mo_about_2 : decode c_Mo_about 2 = .ok (.invokevirtual 36, 3) := by decide +kernel
theorem d_Mo_about_5 : decode c_Mo_about 5 = .ok (.ifCond .ne 25, 3) := by decide +kernel
theorem d_Mo_about_8 : decode c_Mo_about 8 = .ok (.aload_n 0, 1) := by decide +kernel
theorem d_Mo_about_9 : decode c_Mo_about 9 = .ok (.iconst 2, 1) := by decide +kernel
theorem d_Mo_about_10 : decode c_Mo_about 10 = .ok (.iload_n 2, 1) := by decide +kernel
theorem d_Mo_about_11 : decode c_Mo_about 11 = .ok (.ifCond .lt 8, 3) := by decide +kernel
theorem d_Mo_about_14 : decode c_Mo_about 14 = .ok (.iload_n 2, 1) := by decide +kernel
theorem d_Mo_about_15 : decode c_Mo_about 15 = .ok (.iconst 4, 1) := by decide +kernel
theorem d_Mo_about_16 : decode c_Mo_about 16 = .ok (.if_icmp .le 7, 3) := by decide +kernel
theorem d_Mo_about_19 : decode c_Mo_about 19 = .ok (.iconst 1, 1) := by decide +kernel
theorem d_Mo_about_20 : decode c_Mo_about 20 = .ok (.goto 4, 3) := by decide +kernel
theorem d_Mo_about_23 : decode c_Mo_about 23 = .ok (.iconst 0, 1) := by decide +kernel
theorem d_Mo_about_24 : decode c_Mo_about 24 = .ok (.invokevirtual 28, 3) := by decide +kernel
theorem d_Mo_about_27 : decode c_Mo_about 27 = .ok (.ifCond .eq 5, 3) := by decide +kernel
theorem d_Mo_about_30 : decode c_Mo_about 30 = .ok (.lconst 0, 1) := by decide +kernel
theorem d_Mo_about_31 : decode c_Mo_about 31 = .ok (.lreturn, 1) := by decide +kernel
theorem d_Mo_about_32 : decode c_Mo_about 32 = .ok (.iconst 0, 1) := by decide +kernel
theorem d_Mo_about_33 : decode c_Mo_about 33 = .ok (.istore_n 3, 1) := by decide +kernel
theorem d_Mo_about_34 : decode c_Mo_about 34 = .ok (.lconst 0, 1) := by decide +kernel
theorem d_Mo_about_35 : decode c_Mo_about 35 = .ok (.lstore 4, 2) := by decide +kernel
theorem d_Mo_about_37 : decode c_Mo_about 37 = .ok (.iconst 0, 1) := by decide +kernel
theorem d_Mo_about_38 : decode c_Mo_about 38 = .ok (.istore 6, 2) := by decide +kernel
theorem d_Mo_about_40 : decode c_Mo_about 40 = .ok (.iconst 0, 1) := by decide +kernel
theorem d_Mo_about_41 : decode c_Mo_about 41 = .ok (.istore 7, 2) := by decide +kernel
theorem d_Mo_about_43 : decode c_Mo_about 43 = .ok (.iconst 0, 1) := by decide +kernel
theorem d_Mo_about_44 : decode c_Mo_about 44 = .ok (.istore 8, 2) := by decide +kernel
theorem d_Mo_about_46 : decode c_Mo_about 46 = .ok (.iload 8, 2) := by decide +kernel
theorem d_Mo_about_48 : decode c_Mo_about 48 = .ok (.sipush 4096, 3) := by decide +kernel
theorem d_Mo_about_51 : decode c_Mo_about 51 = .ok (.if_icmp .ge 74, 3) := by decide +kernel
theorem d_Mo_about_54 : decode c_Mo_about 54 = .ok (.aload_n 0, 1) := by decide +kernel
theorem d_Mo_about_55 : decode c_Mo_about 55 = .ok (.iload_n 1, 1) := by decide +kernel
theorem d_Mo_about_56 : decode c_Mo_about 56 = .ok (.iload 8, 2) := by decide +kernel
theorem d_Mo_about_58 : decode c_Mo_about 58 = .ok (.invokevirtual 48, 3) := by decide +kernel
theorem d_Mo_about_61 : decode c_Mo_about 61 = .ok (.istore 9, 2) := by decide +kernel
theorem d_Mo_about_63 : decode c_Mo_about 63 = .ok (.iload 9, 2) := by decide +kernel
theorem d_Mo_about_65 : decode c_Mo_about 65 = .ok (.ifCond .ne 6, 3) := by decide +kernel
theorem d_Mo_about_68 : decode c_Mo_about 68 = .ok (.goto 51, 3) := by decide +kernel
theorem d_Mo_about_71 : decode c_Mo_about 71 = .ok (.iload_n 3, 1) := by decide +kernel
theorem d_Mo_about_72 : decode c_Mo_about 72 = .ok (.iconst 1, 1) := by decide +kernel
theorem d_Mo_about_73 : decode c_Mo_about 73 = .ok (.iload 8, 2) := by decide +kernel
theorem d_Mo_about_75 : decode c_Mo_about 75 = .ok (.iconst 0, 1) := by decide +kernel
theorem d_Mo_about_76 : decode c_Mo_about 76 = .ok (.invokestatic 55, 3) := by decide +kernel
theorem d_Mo_about_79 : decode c_Mo_about 79 = .ok (.ishl, 1) := by decide +kernel
theorem d_Mo_about_80 : decode c_Mo_about 80 = .ok (.ior, 1) := by decide +kernel
theorem d_Mo_about_81 : decode c_Mo_about 81 = .ok (.istore_n 3, 1) := by decide +kernel
theorem d_Mo_about_82 : decode c_Mo_about 82 = .ok (.lload 4, 2) := by decide +kernel
theorem d_Mo_about_84 : decode c_Mo_about 84 = .ok (.iload 9, 2) := by decide +kernel
theorem d_Mo_about_86 : decode c_Mo_about 86 = .ok (.i2l, 1) := by decide +kernel
theorem d_Mo_about_87 : decode c_Mo_about 87 = .ok (.ladd, 1) := by decide +kernel
theorem d_Mo_about_88 : decode c_Mo_about 88 = .ok (.lstore 4, 2) := by decide +kernel
theorem d_Mo_about_90 : decode c_Mo_about 90 = .ok (.iload 7, 2) := by decide +kernel
theorem d_Mo_about_92 : decode c_Mo_about 92 = .ok (.ifCond .eq 20, 3) := by decide +kernel
theorem d_Mo_about_95 : decode c_Mo_about 95 = .ok (.iload 9, 2) := by decide +kernel
theorem d_Mo_about_97 : decode c_Mo_about 97 = .ok (.iload 6, 2) := by decide +kernel
theorem d_Mo_about_99 : decode c_Mo_about 99 = .ok (.if_icmp .le 8, 3) := by decide +kernel
theorem d_Mo_about_102 : decode c_Mo_about 102 = .ok (.iload 9, 2) := by decide +kernel
theorem d_Mo_about_104 : decode c_Mo_about 104 = .ok (.goto 10, 3) := by decide +kernel
theorem d_Mo_about_107 : decode c_Mo_about 107 = .ok (.iload 6, 2) := by decide +kernel
theorem d_Mo_about_109 : decode c_Mo_about 109 = .ok (.goto 5, 3) := by decide +kernel
theorem d_Mo_about_112 : decode c_Mo_about 112 = .ok (.iload 9, 2) := by decide +kernel
theorem d_Mo_about_114 : decode c_Mo_about 114 = .ok (.istore 6, 2) := by decide +kernel
theorem d_Mo_about_116 : decode c_Mo_about 116 = .ok (.iconst 1, 1) := by decide +kernel
theorem d_Mo_about_117 : decode c_Mo_about 117 = .ok (.istore 7, 2) := by decide +kernel
theorem d_Mo_about_119 : decode c_Mo_about 119 = .ok (.iinc 8 1, 3) := by decide +kernel
theorem d_Mo_about_122 : decode c_Mo_about 122 = .ok (.goto (-76), 3) := by decide +kernel
theorem d_Mo_about_125 : decode c_Mo_about 125 = .ok (.iload_n 2, 1) := by decide +kernel
theorem d_Mo_about_126 : decode c_Mo_about 126 = .ok (.tableswitch 54 0 3 #[30, 38, 45, 51], 30) := by decide +kernel
theorem d_Mo_about_156 : decode c_Mo_about 156 = .ok (.aload_n 0, 1) := by decide +kernel
theorem d_Mo_about_157 : decode c_Mo_about 157 = .ok (.getfield 13, 3) := by decide +kernel
theorem d_Mo_about_160 : decode c_Mo_about 160 = .ok (.iload_n 1, 1) := by decide +kernel
theorem d_Mo_about_161 : decode c_Mo_about 161 = .ok (.iaload, 1) := by decide +kernel
theorem d_Mo_about_162 : decode c_Mo_about 162 = .ok (.i2l, 1) := by decide +kernel
theorem d_Mo_about_163 : decode c_Mo_about 163 = .ok (.lreturn, 1) := by decide +kernel
theorem d_Mo_about_164 : decode c_Mo_about 164 = .ok (.aload_n 0, 1) := by decide +kernel
theorem d_Mo_about_165 : decode c_Mo_about 165 = .ok (.iload_n 1, 1) := by decide +kernel
theorem d_Mo_about_166 : decode c_Mo_about 166 = .ok (.invokevirtual 40, 3) := by decide +kernel
theorem d_Mo_about_169 : decode c_Mo_about 169 = .ok (.i2l, 1) := by decide +kernel
theorem d_Mo_about_170 : decode c_Mo_about 170 = .ok (.lreturn, 1) := by decide +kernel
theorem d_Mo_about_171 : decode c_Mo_about 171 = .ok (.iload_n 3, 1) := by decide +kernel
theorem d_Mo_about_172 : decode c_Mo_about 172 = .ok (.invokestatic 62, 3) := by decide +kernel
theorem d_Mo_about_175 : decode c_Mo_about 175 = .ok (.i2l, 1) := by decide +kernel
theorem d_Mo_about_176 : decode c_Mo_about 176 = .ok (.lreturn, 1) := by decide +kernel
theorem d_Mo_about_177 : decode c_Mo_about 177 = .ok (.lload 4, 2) := by decide +kernel
theorem d_Mo_about_179 : decode c_Mo_about 179 = .ok (.lreturn, 1) := by decide +kernel
theorem d_Mo_about_180 : decode c_Mo_about 180 = .ok (.iload 6, 2) := by decide +kernel
theorem d_Mo_about_182 : decode c_Mo_about 182 = .ok (.i2l, 1) := by decide +kernel
theorem d_Mo_about_183 : decode c_Mo_about 183 = .ok (.lreturn, 1) := by decide +kernel
theorem d_Mo_same_0 : decode c_Mo_same 0 = .ok (.aload_n 0, 1) := by decide +kernel
theorem d_Mo_same_1 : decode c_Mo_same 1 = .ok (.iload_n 1, 1) := by decide +kernel
theorem d_Mo_same_2 : decode c_Mo_same 2 = .ok (.invokevirtual 36, 3) := by decide +kernel
theorem d_Mo_same_5 : decode c_Mo_same 5 = .ok (.ifCond .ne 11, 3) := by decide +kernel
theorem d_Mo_same_8 : decode c_Mo_same 8 = .ok (.aload_n 0, 1) := by decide +kernel
theorem d_Mo_same_9 : decode c_Mo_same 9 = .ok (.iload_n 2, 1) := by decide +kernel
theorem d_Mo_same_10 : decode c_Mo_same 10 = .ok (.invokevirtual 36, 3) := by decide +kernel
theorem d_Mo_same_13 : decode c_Mo_same 13 = .ok (.ifCond .eq 5, 3) := by decide +kernel
theorem d_Mo_same_16 : decode c_Mo_same 16 = .ok (.iconst 0, 1) := by decide +kernel
theorem d_Mo_same_17 : decode c_Mo_same 17 = .ok (.ireturn, 1) := by decide +kernel
theorem d_Mo_same_18 : decode c_Mo_same 18 = .ok (.aload_n 0, 1) := by decide +kernel
theorem d_Mo_same_19 : decode c_Mo_same 19 = .ok (.getfield 13, 3) := by decide +kernel
theorem d_Mo_same_22 : decode c_Mo_same 22 = .ok (.iload_n 1, 1) := by decide +kernel
theorem d_Mo_same_23 : decode c_Mo_same 23 = .ok (.iaload, 1) := by decide +kernel
theorem d_Mo_same_24 : decode c_Mo_same 24 = .ok (.aload_n 0, 1) := by decide +kernel
theorem d_Mo_same_25 : decode c_Mo_same 25 = .ok (.getfield 13, 3) := by decide +kernel
theorem d_Mo_same_28 : decode c_Mo_same 28 = .ok (.iload_n 2, 1) := by decide +kernel
theorem d_Mo_same_29 : decode c_Mo_same 29 = .ok (.iaload, 1) := by decide +kernel
theorem d_Mo_same_30 : decode c_Mo_same 30 = .ok (.if_icmp .ne 7, 3) := by decide +kernel
theorem d_Mo_same_33 : decode c_Mo_same 33 = .ok (.iconst 1, 1) := by decide +kernel
theorem d_Mo_same_34 : decode c_Mo_same 34 = .ok (.goto 4, 3) := by decide +kernel
theorem d_Mo_same_37 : decode c_Mo_same 37 = .ok (.iconst 0, 1) := by decide +kernel
theorem d_Mo_same_38 : decode c_Mo_same 38 = .ok (.istore_n 3, 1) := by decide +kernel
theorem d_Mo_same_39 : decode c_Mo_same 39 = .ok (.iconst 0, 1) := by decide +kernel
theorem d_Mo_same_40 : decode c_Mo_same 40 = .ok (.istore 4, 2) := by decide +kernel
theorem d_Mo_same_42 : decode c_Mo_same 42 = .ok (.iload 4, 2) := by decide +kernel
theorem d_Mo_same_44 : decode c_Mo_same 44 = .ok (.sipush 4096, 3) := by decide +kernel
theorem d_Mo_same_47 : decode c_Mo_same 47 = .ok (.if_icmp .ge 36, 3) := by decide +kernel
theorem d_Mo_same_50 : decode c_Mo_same 50 = .ok (.iload_n 3, 1) := by decide +kernel
theorem d_Mo_same_51 : decode c_Mo_same 51 = .ok (.ifCond .eq 24, 3) := by decide +kernel
theorem d_Mo_same_54 : decode c_Mo_same 54 = .ok (.aload_n 0, 1) := by decide +kernel
theorem d_Mo_same_55 : decode c_Mo_same 55 = .ok (.iload_n 1, 1) := by decide +kernel
theorem d_Mo_same_56 : decode c_Mo_same 56 = .ok (.iload 4, 2) := by decide +kernel
theorem d_Mo_same_58 : decode c_Mo_same 58 = .ok (.invokevirtual 48, 3) := by decide +kernel
theorem d_Mo_same_61 : decode c_Mo_same 61 = .ok (.aload_n 0, 1) := by decide +kernel
theorem d_Mo_same_62 : decode c_Mo_same 62 = .ok (.iload_n 2, 1) := by decide +kernel
theorem d_Mo_same_63 : decode c_Mo_same 63 = .ok (.iload 4, 2) := by decide +kernel
theorem d_Mo_same_65 : decode c_Mo_same 65 = .ok (.invokevirtual 48, 3) := by decide +kernel
theorem d_Mo_same_68 : decode c_Mo_same 68 = .ok (.if_icmp .ne 7, 3) := by decide +kernel
theorem d_Mo_same_71 : decode c_Mo_same 71 = .ok (.iconst 1, 1) := by decide +kernel
theorem d_Mo_same_72 : decode c_Mo_same 72 = .ok (.goto 4, 3) := by decide +kernel
theorem d_Mo_same_75 : decode c_Mo_same 75 = .ok (.iconst 0, 1) := by decide +kernel
theorem d_Mo_same_76 : decode c_Mo_same 76 = .ok (.istore_n 3, 1) := by decide +kernel
theorem d_Mo_same_77 : decode c_Mo_same 77 = .ok (.iinc 4 1, 3) := by decide +kernel
theorem d_Mo_same_80 : decode c_Mo_same 80 = .ok (.goto (-38), 3) := by decide +kernel
theorem d_Mo_same_83 : decode c_Mo_same 83 = .ok (.iload_n 3, 1) := by decide +kernel
theorem d_Mo_same_84 : decode c_Mo_same 84 = .ok (.ireturn, 1) := by decide +kernel
