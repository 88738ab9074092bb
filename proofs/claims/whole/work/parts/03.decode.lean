theorem d_Sh_init_0 : decode c_Sh_init 0 = .ok (.aload_n 0, 1) := by decide +kernel
theorem d_Sh_init_1 : decode c_Sh_init 1 = .ok (.invokespecial 3, 3) := by decide +kernel
theorem d_Sh_init_4 : decode c_Sh_init 4 = .ok (.aload_n 0, 1) := by decide +kernel
theorem d_Sh_init_5 : decode c_Sh_init 5 = .ok (.bipush 8, 2) := by decide +kernel
theorem d_Sh_init_7 : decode c_Sh_init 7 = .ok (.anewarray 9, 3) := by decide +kernel
theorem d_Sh_init_10 : decode c_Sh_init 10 = .ok (.putfield 11, 3) := by decide +kernel
theorem d_Sh_init_13 : decode c_Sh_init 13 = .ok (.iconst 0, 1) := by decide +kernel
theorem d_Sh_init_14 : decode c_Sh_init 14 = .ok (.istore_n 1, 1) := by decide +kernel
theorem d_Sh_init_15 : decode c_Sh_init 15 = .ok (.iload_n 1, 1) := by decide +kernel
theorem d_Sh_init_16 : decode c_Sh_init 16 = .ok (.bipush 8, 2) := by decide +kernel
theorem d_Sh_init_18 : decode c_Sh_init 18 = .ok (.if_icmp .ge 22, 3) := by decide +kernel
theorem d_Sh_init_21 : decode c_Sh_init 21 = .ok (.aload_n 0, 1) := by decide +kernel
theorem d_Sh_init_22 : decode c_Sh_init 22 = .ok (.getfield 11, 3) := by decide +kernel
theorem d_Sh_init_25 : decode c_Sh_init 25 = .ok (.iload_n 1, 1) := by decide +kernel
theorem d_Sh_init_26 : decode c_Sh_init 26 = .ok (.new 9, 3) := by decide +kernel
theorem d_Sh_init_29 : decode c_Sh_init 29 = .ok (.dup, 1) := by decide +kernel
theorem d_Sh_init_30 : decode c_Sh_init 30 = .ok (.invokespecial 15, 3) := by decide +kernel
theorem d_Sh_init_33 : decode c_Sh_init 33 = .ok (.aastore, 1) := by decide +kernel
theorem d_Sh_init_34 : decode c_Sh_init 34 = .ok (.iinc 1 1, 3) := by decide +kernel
theorem d_Sh_init_37 : decode c_Sh_init 37 = .ok (.goto (-22), 3) := by decide +kernel
theorem d_Sh_init_40 : decode c_Sh_init 40 = .ok (.aload_n 0, 1) := by decide +kernel
theorem d_Sh_init_41 : decode c_Sh_init 41 = .ok (.new 9, 3) := by decide +kernel
theorem d_Sh_init_44 : decode c_Sh_init 44 = .ok (.dup, 1) := by decide +kernel
theorem d_Sh_init_45 : decode c_Sh_init 45 = .ok (.invokespecial 15, 3) := by decide +kernel
theorem d_Sh_init_48 : decode c_Sh_init 48 = .ok (.putfield 16, 3) := by decide +kernel
theorem d_Sh_init_51 : decode c_Sh_init 51 = .ok (.aload_n 0, 1) := by decide +kernel
theorem d_Sh_init_52 : decode c_Sh_init 52 = .ok (.bipush 16, 2) := by decide +kernel
theorem d_Sh_init_54 : decode c_Sh_init 54 = .ok (.newarray .int, 2) := by decide +kernel
theorem d_Sh_init_56 : decode c_Sh_init 56 = .ok (.putfield 20, 3) := by decide +kernel
theorem d_Sh_init_59 : decode c_Sh_init 59 = .ok (.return_, 1) := by decide +kernel
theorem d_Rel_init_0 : decode c_Rel_init 0 = .ok (.aload_n 0, 1) := by decide +kernel
theorem d_Rel_init_1 : decode c_Rel_init 1 = .ok (.invokespecial 3, 3) := by decide +kernel
theorem d_Rel_init_4 : decode c_Rel_init 4 = .ok (.aload_n 0, 1) := by decide +kernel
theorem d_Rel_init_5 : decode c_Rel_init 5 = .ok (.sipush 300, 3) := by decide +kernel
theorem d_Rel_init_8 : decode c_Rel_init 8 = .ok (.newarray .int, 2) := by decide +kernel
theorem d_Rel_init_10 : decode c_Rel_init 10 = .ok (.putfield 9, 3) := by decide +kernel
theorem d_Rel_init_13 : decode c_Rel_init 13 = .ok (.aload_n 0, 1) := by decide +kernel
theorem d_Rel_init_14 : decode c_Rel_init 14 = .ok (.sipush 300, 3) := by decide +kernel
theorem d_Rel_init_17 : decode c_Rel_init 17 = .ok (.newarray .int, 2) := by decide +kernel
theorem d_Rel_init_19 : decode c_Rel_init 19 = .ok (.putfield 15, 3) := by decide +kernel
theorem d_Rel_init_22 : decode c_Rel_init 22 = .ok (.aload_n 0, 1) := by decide +kernel
theorem d_Rel_init_23 : decode c_Rel_init 23 = .ok (.iconst 1, 1) := by decide +kernel
theorem d_Rel_init_24 : decode c_Rel_init 24 = .ok (.putfield 18, 3) := by decide +kernel
theorem d_Rel_init_27 : decode c_Rel_init 27 = .ok (.aload_n 0, 1) := by decide +kernel
theorem d_Rel_init_28 : decode c_Rel_init 28 = .ok (.iconst 0, 1) := by decide +kernel
theorem d_Rel_init_29 : decode c_Rel_init 29 = .ok (.putfield 22, 3) := by decide +kernel
theorem d_Rel_init_32 : decode c_Rel_init 32 = .ok (.return_, 1) := by decide +kernel
theorem d_Sh_width_0 : decode c_Sh_width 0 = .ok (.aload_n 0, 1) := by decide +kernel
theorem d_Sh_width_1 : decode c_Sh_width 1 = .ok (.iload_n 1, 1) := by decide +kernel
theorem d_Sh_width_2 : decode c_Sh_width 2 = .ok (.invokevirtual 24, 3) := by decide +kernel
theorem d_Sh_width_5 : decode c_Sh_width 5 = .ok (.astore_n 3, 1) := by decide +kernel
theorem d_Sh_width_6 : decode c_Sh_width 6 = .ok (.iload_n 2, 1) := by decide +kernel
theorem d_Sh_width_7 : decode c_Sh_width 7 = .ok (.iconst 1, 1) := by decide +kernel
theorem d_Sh_width_8 : decode c_Sh_width 8 = .ok (.if_icmp .lt 12, 3) := by decide +kernel
theorem d_Sh_width_11 : decode c_Sh_width 11 = .ok (.iload_n 2, 1) := by decide +kernel
theorem d_Sh_width_12 : decode c_Sh_width 12 = .ok (.iconst 3, 1) := by decide +kernel
theorem d_Sh_width_13 : decode c_Sh_width 13 = .ok (.if_icmp .gt 7, 3) := by decide +kernel
theorem d_Sh_width_16 : decode c_Sh_width 16 = .ok (.iconst 1, 1) := by decide +kernel
theorem d_Sh_width_17 : decode c_Sh_width 17 = .ok (.goto 4, 3) := by decide +kernel
theorem d_Sh_width_20 : decode c_Sh_width 20 = .ok (.iconst 0, 1) := by decide +kernel
theorem d_Sh_width_21 : decode c_Sh_width 21 = .ok (.invokestatic 28, 3) := by decide +kernel
theorem d_Sh_width_24 : decode c_Sh_width 24 = .ok (.aload_n 3, 1) := by decide +kernel
theorem d_Sh_width_25 : decode c_Sh_width 25 = .ok (.getfield 32, 3) := by decide +kernel
theorem d_Sh_width_28 : decode c_Sh_width 28 = .ok (.istore 4, 2) := by decide +kernel
theorem d_Sh_width_30 : decode c_Sh_width 30 = .ok (.aload_n 3, 1) := by decide +kernel
theorem d_Sh_width_31 : decode c_Sh_width 31 = .ok (.iload_n 2, 1) := by decide +kernel
theorem d_Sh_width_32 : decode c_Sh_width 32 = .ok (.invokevirtual 36, 3) := by decide +kernel
theorem d_Sh_width_35 : decode c_Sh_width 35 = .ok (.iload 4, 2) := by decide +kernel
theorem d_Sh_width_37 : decode c_Sh_width 37 = .ok (.ireturn, 1) := by decide +kernel
theorem d_Sh_relationOf_0 : decode c_Sh_relationOf 0 = .ok (.iload_n 1, 1) := by decide +kernel
theorem d_Sh_relationOf_1 : decode c_Sh_relationOf 1 = .ok (.invokestatic 63, 3) := by decide +kernel
theorem d_Sh_relationOf_4 : decode c_Sh_relationOf 4 = .ok (.aload_n 0, 1) := by decide +kernel
theorem d_Sh_relationOf_5 : decode c_Sh_relationOf 5 = .ok (.getfield 11, 3) := by decide +kernel
theorem d_Sh_relationOf_8 : decode c_Sh_relationOf 8 = .ok (.iload_n 1, 1) := by decide +kernel
theorem d_Sh_relationOf_9 : decode c_Sh_relationOf 9 = .ok (.aaload, 1) := by decide +kernel
theorem d_Sh_relationOf_10 : decode c_Sh_relationOf 10 = .ok (.areturn, 1) := by decide +kernel
theorem d_Sh_mustBeRelation_0 : decode c_Sh_mustBeRelation 0 = .ok (.iload_n 0, 1) := by decide +kernel
theorem d_Sh_mustBeRelation_1 : decode c_Sh_mustBeRelation 1 = .ok (.ifCond .lt 9, 3) := by decide +kernel
theorem d_Sh_mustBeRelation_4 : decode c_Sh_mustBeRelation 4 = .ok (.iload_n 0, 1) := by decide +kernel
theorem d_Sh_mustBeRelation_5 : decode c_Sh_mustBeRelation 5 = .ok (.bipush 8, 2) := by decide +kernel
theorem d_Sh_mustBeRelation_7 : decode c_Sh_mustBeRelation 7 = .ok (.if_icmp .lt 11, 3) := by decide +kernel
theorem d_Sh_mustBeRelation_10 : decode c_Sh_mustBeRelation 10 = .ok (.new 57, 3) := by decide +kernel
theorem d_Sh_mustBeRelation_13 : decode c_Sh_mustBeRelation 13 = .ok (.dup, 1) := by decide +kernel
theorem d_Sh_mustBeRelation_14 : decode c_Sh_mustBeRelation 14 = .ok (.invokespecial 59, 3) := by decide +kernel
theorem d_Sh_mustBeRelation_17 : decode c_Sh_mustBeRelation 17 = .ok (.athrow, 1) := by decide +kernel
theorem d_Sh_mustBeRelation_18 : decode c_Sh_mustBeRelation 18 = .ok (.return_, 1) := by decide +kernel
theorem d_Sh_refuseUnless_0 : decode c_Sh_refuseUnless 0 = .ok (.iload_n 0, 1) := by decide +kernel
theorem d_Sh_refuseUnless_1 : decode c_Sh_refuseUnless 1 = .ok (.ifCond .ne 11, 3) := by decide +kernel
theorem d_Sh_refuseUnless_4 : decode c_Sh_refuseUnless 4 = .ok (.new 123, 3) := by decide +kernel
theorem d_Sh_refuseUnless_7 : decode c_Sh_refuseUnless 7 = .ok (.dup, 1) := by decide +kernel
theorem d_Sh_refuseUnless_8 : decode c_Sh_refuseUnless 8 = .ok (.invokespecial 125, 3) := by decide +kernel
theorem d_Sh_refuseUnless_11 : decode c_Sh_refuseUnless 11 = .ok (.athrow, 1) := by decide +kernel
theorem d_Sh_refuseUnless_12 : decode c_Sh_refuseUnless 12 = .ok (.return_, 1) := by decide +kernel
theorem d_Rel_startAnew_0 : decode c_Rel_startAnew 0 = .ok (.aload_n 0, 1) := by decide +kernel
theorem d_Rel_startAnew_1 : decode c_Rel_startAnew 1 = .ok (.iload_n 1, 1) := by decide +kernel
theorem d_Rel_startAnew_2 : decode c_Rel_startAnew 2 = .ok (.putfield 18, 3) := by decide +kernel
theorem d_Rel_startAnew_5 : decode c_Rel_startAnew 5 = .ok (.aload_n 0, 1) := by decide +kernel
theorem d_Rel_startAnew_6 : decode c_Rel_startAnew 6 = .ok (.iconst 0, 1) := by decide +kernel
theorem d_Rel_startAnew_7 : decode c_Rel_startAnew 7 = .ok (.putfield 22, 3) := by decide +kernel
theorem d_Rel_startAnew_10 : decode c_Rel_startAnew 10 = .ok (.return_, 1) := by decide +kernel
theorem d_Sh_put_0 : decode c_Sh_put 0 = .ok (.aload_n 0, 1) := by decide +kernel
theorem d_Sh_put_1 : decode c_Sh_put 1 = .ok (.iload_n 1, 1) := by decide +kernel
theorem d_Sh_put_2 : decode c_Sh_put 2 = .ok (.invokevirtual 24, 3) := by decide +kernel
theorem d_Sh_put_5 : decode c_Sh_put 5 = .ok (.astore 4, 2) := by decide +kernel
theorem d_Sh_put_7 : decode c_Sh_put 7 = .ok (.iload_n 2, 1) := by decide +kernel
theorem d_Sh_put_8 : decode c_Sh_put 8 = .ok (.aload 4, 2) := by decide +kernel
theorem d_Sh_put_10 : decode c_Sh_put 10 = .ok (.getfield 40, 3) := by decide +kernel
theorem d_Sh_put_13 : decode c_Sh_put 13 = .ok (.invokestatic 43, 3) := by decide +kernel
theorem d_Sh_put_16 : decode c_Sh_put 16 = .ok (.invokestatic 28, 3) := by decide +kernel
theorem d_Sh_put_19 : decode c_Sh_put 19 = .ok (.aload 4, 2) := by decide +kernel
theorem d_Sh_put_21 : decode c_Sh_put 21 = .ok (.iload_n 2, 1) := by decide +kernel
theorem d_Sh_put_22 : decode c_Sh_put 22 = .ok (.iload_n 3, 1) := by decide +kernel
theorem d_Sh_put_23 : decode c_Sh_put 23 = .ok (.invokevirtual 47, 3) := by decide +kernel
theorem d_Sh_put_26 : decode c_Sh_put 26 = .ok (.invokestatic 50, 3) := by decide +kernel
theorem d_Sh_put_29 : decode c_Sh_put 29 = .ok (.aload 4, 2) := by decide +kernel
theorem d_Sh_put_31 : decode c_Sh_put 31 = .ok (.iload_n 2, 1) := by decide +kernel
theorem d_Sh_put_32 : decode c_Sh_put 32 = .ok (.invokevirtual 53, 3) := by decide +kernel
theorem d_Sh_put_35 : decode c_Sh_put 35 = .ok (.ireturn, 1) := by decide +kernel
theorem d_Sh_isTuple_0 : decode c_Sh_isTuple 0 = .ok (.iload_n 0, 1) := by decide +kernel
theorem d_Sh_isTuple_1 : decode c_Sh_isTuple 1 = .ok (.ifCond .lt 27, 3) := by decide +kernel
theorem d_Sh_isTuple_4 : decode c_Sh_isTuple 4 = .ok (.iload_n 0, 1) := by decide +kernel
theorem d_Sh_isTuple_5 : decode c_Sh_isTuple 5 = .ok (.sipush 4096, 3) := by decide +kernel
theorem d_Sh_isTuple_8 : decode c_Sh_isTuple 8 = .ok (.if_icmp .ge 20, 3) := by decide +kernel
theorem d_Sh_isTuple_11 : decode c_Sh_isTuple 11 = .ok (.iload_n 0, 1) := by decide +kernel
theorem d_Sh_isTuple_12 : decode c_Sh_isTuple 12 = .ok (.iconst 1, 1) := by decide +kernel
theorem d_Sh_isTuple_13 : decode c_Sh_isTuple 13 = .ok (.iload_n 1, 1) := by decide +kernel
theorem d_Sh_isTuple_14 : decode c_Sh_isTuple 14 = .ok (.invokestatic 132, 3) := by decide +kernel
theorem d_Sh_isTuple_17 : decode c_Sh_isTuple 17 = .ok (.ishl, 1) := by decide +kernel
theorem d_Sh_isTuple_18 : decode c_Sh_isTuple 18 = .ok (.iconst 1, 1) := by decide +kernel
theorem d_Sh_isTuple_19 : decode c_Sh_isTuple 19 = .ok (.isub, 1) := by decide +kernel
theorem d_Sh_isTuple_20 : decode c_Sh_isTuple 20 = .ok (.iand, 1) := by decide +kernel
theorem d_Sh_isTuple_21 : decode c_Sh_isTuple 21 = .ok (.ifCond .ne 7, 3) := by decide +kernel
theorem d_Sh_isTuple_24 : decode c_Sh_isTuple 24 = .ok (.iconst 1, 1) := by decide +kernel
theorem d_Sh_isTuple_25 : decode c_Sh_isTuple 25 = .ok (.goto 4, 3) := by decide +kernel
theorem d_Sh_isTuple_28 : decode c_Sh_isTuple 28 = .ok (.iconst 0, 1) := by decide +kernel
theorem d_Sh_isTuple_29 : decode c_Sh_isTuple 29 = .ok (.ireturn, 1) := by decide +kernel
theorem d_Sh_bitsBehind_0 : decode c_Sh_bitsBehind 0 = .ok (.bipush 12, 2) := by decide +kernel
theorem d_Sh_bitsBehind_2 : decode c_Sh_bitsBehind 2 = .ok (.iconst 4, 1) := by decide +kernel
theorem d_Sh_bitsBehind_3 : decode c_Sh_bitsBehind 3 = .ok (.iload_n 0, 1) := by decide +kernel
theorem d_Sh_bitsBehind_4 : decode c_Sh_bitsBehind 4 = .ok (.imul, 1) := by decide +kernel
theorem d_Sh_bitsBehind_5 : decode c_Sh_bitsBehind 5 = .ok (.isub, 1) := by decide +kernel
theorem d_Sh_bitsBehind_6 : decode c_Sh_bitsBehind 6 = .ok (.ireturn, 1) := by decide +kernel
theorem d_Rel_raise_0 : decode c_Rel_raise 0 = .ok (.aload_n 0, 1) := by decide +kernel
theorem d_Rel_raise_1 : decode c_Rel_raise 1 = .ok (.iload_n 1, 1) := by decide +kernel
theorem d_Rel_raise_2 : decode c_Rel_raise 2 = .ok (.invokevirtual 25, 3) := by decide +kernel
theorem d_Rel_raise_5 : decode c_Rel_raise 5 = .ok (.istore_n 3, 1) := by decide +kernel
theorem d_Rel_raise_6 : decode c_Rel_raise 6 = .ok (.aload_n 0, 1) := by decide +kernel
theorem d_Rel_raise_7 : decode c_Rel_raise 7 = .ok (.iload_n 3, 1) := by decide +kernel
theorem d_Rel_raise_8 : decode c_Rel_raise 8 = .ok (.iload_n 1, 1) := by decide +kernel
theorem d_Rel_raise_9 : decode c_Rel_raise 9 = .ok (.invokevirtual 29, 3) := by decide +kernel
theorem d_Rel_raise_12 : decode c_Rel_raise 12 = .ok (.ifCond .eq 11, 3) := by decide +kernel
theorem d_Rel_raise_15 : decode c_Rel_raise 15 = .ok (.aload_n 0, 1) := by decide +kernel
theorem d_Rel_raise_16 : decode c_Rel_raise 16 = .ok (.iload_n 3, 1) := by decide +kernel
theorem d_Rel_raise_17 : decode c_Rel_raise 17 = .ok (.iload_n 2, 1) := by decide +kernel
theorem d_Rel_raise_18 : decode c_Rel_raise 18 = .ok (.invokevirtual 33, 3) := by decide +kernel
theorem d_Rel_raise_21 : decode c_Rel_raise 21 = .ok (.iconst 1, 1) := by decide +kernel
theorem d_Rel_raise_22 : decode c_Rel_raise 22 = .ok (.ireturn, 1) := by decide +kernel
theorem d_Rel_raise_23 : decode c_Rel_raise 23 = .ok (.iload_n 2, 1) := by decide +kernel
theorem d_Rel_raise_24 : decode c_Rel_raise 24 = .ok (.ifCond .ne 5, 3) := by decide +kernel
theorem d_Rel_raise_27 : decode c_Rel_raise 27 = .ok (.iconst 1, 1) := by decide +kernel
theorem d_Rel_raise_28 : decode c_Rel_raise 28 = .ok (.ireturn, 1) := by decide +kernel
theorem d_Rel_raise_29 : decode c_Rel_raise 29 = .ok (.aload_n 0, 1) := by decide +kernel
theorem d_Rel_raise_30 : decode c_Rel_raise 30 = .ok (.getfield 22, 3) := by decide +kernel
theorem d_Rel_raise_33 : decode c_Rel_raise 33 = .ok (.sipush 300, 3) := by decide +kernel
theorem d_Rel_raise_36 : decode c_Rel_raise 36 = .ok (.if_icmp .lt 5, 3) := by decide +kernel
theorem d_Rel_raise_39 : decode c_Rel_raise 39 = .ok (.iconst 0, 1) := by decide +kernel
theorem d_Rel_raise_40 : decode c_Rel_raise 40 = .ok (.ireturn, 1) := by decide +kernel
theorem d_Rel_raise_41 : decode c_Rel_raise 41 = .ok (.aload_n 0, 1) := by decide +kernel
theorem d_Rel_raise_42 : decode c_Rel_raise 42 = .ok (.iload_n 3, 1) := by decide +kernel
theorem d_Rel_raise_43 : decode c_Rel_raise 43 = .ok (.iload_n 1, 1) := by decide +kernel
theorem d_Rel_raise_44 : decode c_Rel_raise 44 = .ok (.iload_n 2, 1) := by decide +kernel
theorem d_Rel_raise_45 : decode c_Rel_raise 45 = .ok (.invokevirtual 37, 3) := by decide +kernel
theorem d_Rel_raise_48 : decode c_Rel_raise 48 = .ok (.iconst 1, 1) := by decide +kernel
theorem d_Rel_raise_49 : decode c_Rel_raise 49 = .ok (.ireturn, 1) := by decide +kernel
theorem d_Rel_placeOf_0 : decode c_Rel_placeOf 0 = .ok (.iconst 0, 1) := by decide +kernel
theorem d_Rel_placeOf_1 : decode c_Rel_placeOf 1 = .ok (.istore_n 2, 1) := by decide +kernel
theorem d_Rel_placeOf_2 : decode c_Rel_placeOf 2 = .ok (.sipush 256, 3) := by decide +kernel
theorem d_Rel_placeOf_5 : decode c_Rel_placeOf 5 = .ok (.istore_n 3, 1) := by decide +kernel
theorem d_Rel_placeOf_6 : decode c_Rel_placeOf 6 = .ok (.iload_n 3, 1) := by decide +kernel
theorem d_Rel_placeOf_7 : decode c_Rel_placeOf 7 = .ok (.ifCond .le 38, 3) := by decide +kernel
theorem d_Rel_placeOf_10 : decode c_Rel_placeOf 10 = .ok (.iload_n 2, 1) := by decide +kernel
theorem d_Rel_placeOf_11 : decode c_Rel_placeOf 11 = .ok (.iload_n 3, 1) := by decide +kernel
theorem d_Rel_placeOf_12 : decode c_Rel_placeOf 12 = .ok (.iadd, 1) := by decide +kernel
theorem d_Rel_placeOf_13 : decode c_Rel_placeOf 13 = .ok (.aload_n 0, 1) := by decide +kernel
theorem d_Rel_placeOf_14 : decode c_Rel_placeOf 14 = .ok (.getfield 22, 3) := by decide +kernel
theorem d_Rel_placeOf_17 : decode c_Rel_placeOf 17 = .ok (.if_icmp .gt 21, 3) := by decide +kernel
theorem d_Rel_placeOf_20 : decode c_Rel_placeOf 20 = .ok (.aload_n 0, 1) := by decide +kernel
theorem d_Rel_placeOf_21 : decode c_Rel_placeOf 21 = .ok (.getfield 9, 3) := by decide +kernel
theorem d_Rel_placeOf_24 : decode c_Rel_placeOf 24 = .ok (.iload_n 2, 1) := by decide +kernel
theorem d_Rel_placeOf_25 : decode c_Rel_placeOf 25 = .ok (.iload_n 3, 1) := by decide +kernel
theorem d_Rel_placeOf_26 : decode c_Rel_placeOf 26 = .ok (.iadd, 1) := by decide +kernel
theorem d_Rel_placeOf_27 : decode c_Rel_placeOf 27 = .ok (.iconst 1, 1) := by decide +kernel
theorem d_Rel_placeOf_28 : decode c_Rel_placeOf 28 = .ok (.isub, 1) := by decide +kernel
theorem d_Rel_placeOf_29 : decode c_Rel_placeOf 29 = .ok (.iaload, 1) := by decide +kernel
theorem d_Rel_placeOf_30 : decode c_Rel_placeOf 30 = .ok (.iload_n 1, 1) := by decide +kernel
theorem d_Rel_placeOf_31 : decode c_Rel_placeOf 31 = .ok (.if_icmp .ge 7, 3) := by decide +kernel
theorem d_Rel_placeOf_34 : decode c_Rel_placeOf 34 = .ok (.iload_n 2, 1) := by decide +kernel
theorem d_Rel_placeOf_35 : decode c_Rel_placeOf 35 = .ok (.iload_n 3, 1) := by decide +kernel
theorem d_Rel_placeOf_36 : decode c_Rel_placeOf 36 = .ok (.iadd, 1) := by decide +kernel
theorem d_Rel_placeOf_37 : decode c_Rel_placeOf 37 = .ok (.istore_n 2, 1) := by decide +kernel
theorem d_Rel_placeOf_38 : decode c_Rel_placeOf 38 = .ok (.iload_n 3, 1) := by decide +kernel
theorem d_Rel_placeOf_39 : decode c_Rel_placeOf 39 = .ok (.iconst 2, 1) := by decide +kernel
theorem d_Rel_placeOf_40 : decode c_Rel_placeOf 40 = .ok (.idiv, 1) := by decide +kernel
theorem d_Rel_placeOf_41 : decode c_Rel_placeOf 41 = .ok (.istore_n 3, 1) := by decide +kernel
theorem d_Rel_placeOf_42 : decode c_Rel_placeOf 42 = .ok (.goto (-36), 3) := by decide +kernel
theorem d_Rel_placeOf_45 : decode c_Rel_placeOf 45 = .ok (.iload_n 2, 1) := by decide +kernel
theorem d_Rel_placeOf_46 : decode c_Rel_placeOf 46 = .ok (.ireturn, 1) := by decide +kernel
theorem d_Rel_holdsAt_0 : decode c_Rel_holdsAt 0 = .ok (.iload_n 1, 1) := by decide +kernel
theorem d_Rel_holdsAt_1 : decode c_Rel_holdsAt 1 = .ok (.aload_n 0, 1) := by decide +kernel
theorem d_Rel_holdsAt_2 : decode c_Rel_holdsAt 2 = .ok (.getfield 22, 3) := by decide +kernel
theorem d_Rel_holdsAt_5 : decode c_Rel_holdsAt 5 = .ok (.if_icmp .ge 17, 3) := by decide +kernel
theorem d_Rel_holdsAt_8 : decode c_Rel_holdsAt 8 = .ok (.aload_n 0, 1) := by decide +kernel
theorem d_Rel_holdsAt_9 : decode c_Rel_holdsAt 9 = .ok (.getfield 9, 3) := by decide +kernel
theorem d_Rel_holdsAt_12 : decode c_Rel_holdsAt 12 = .ok (.iload_n 1, 1) := by decide +kernel
theorem d_Rel_holdsAt_13 : decode c_Rel_holdsAt 13 = .ok (.iaload, 1) := by decide +kernel
theorem d_Rel_holdsAt_14 : decode c_Rel_holdsAt 14 = .ok (.iload_n 2, 1) := by decide +kernel
theorem d_Rel_holdsAt_15 : decode c_Rel_holdsAt 15 = .ok (.if_icmp .ne 7, 3) := by decide +kernel
theorem d_Rel_holdsAt_18 : decode c_Rel_holdsAt 18 = .ok (.iconst 1, 1) := by decide +kernel
theorem d_Rel_holdsAt_19 : decode c_Rel_holdsAt 19 = .ok (.goto 4, 3) := by decide +kernel
theorem d_Rel_holdsAt_22 : decode c_Rel_holdsAt 22 = .ok (.iconst 0, 1) := by decide +kernel
theorem d_Rel_holdsAt_23 : decode c_Rel_holdsAt 23 = .ok (.ireturn, 1) := by decide +kernel
theorem d_Rel_raiseAt_0 : decode c_Rel_raiseAt 0 = .ok (.aload_n 0, 1) := by decide +kernel
theorem d_Rel_raiseAt_1 : decode c_Rel_raiseAt 1 = .ok (.getfield 15, 3) := by decide +kernel
theorem d_Rel_raiseAt_4 : decode c_Rel_raiseAt 4 = .ok (.iload_n 1, 1) := by decide +kernel
theorem d_Rel_raiseAt_5 : decode c_Rel_raiseAt 5 = .ok (.dup2, 1) := by decide +kernel
theorem d_Rel_raiseAt_6 : decode c_Rel_raiseAt 6 = .ok (.iaload, 1) := by decide +kernel
theorem d_Rel_raiseAt_7 : decode c_Rel_raiseAt 7 = .ok (.iload_n 2, 1) := by decide +kernel
theorem d_Rel_raiseAt_8 : decode c_Rel_raiseAt 8 = .ok (.iadd, 1) := by decide +kernel
theorem d_Rel_raiseAt_9 : decode c_Rel_raiseAt 9 = .ok (.iastore, 1) := by decide +kernel
theorem d_Rel_raiseAt_10 : decode c_Rel_raiseAt 10 = .ok (.aload_n 0, 1) := by decide +kernel
theorem d_Rel_raiseAt_11 : decode c_Rel_raiseAt 11 = .ok (.getfield 15, 3) := by decide +kernel
theorem d_Rel_raiseAt_14 : decode c_Rel_raiseAt 14 = .ok (.iload_n 1, 1) := by decide +kernel
theorem d_Rel_raiseAt_15 : decode c_Rel_raiseAt 15 = .ok (.iaload, 1) := by decide +kernel
theorem d_Rel_raiseAt_16 : decode c_Rel_raiseAt 16 = .ok (.ifCond .ne 8, 3) := by decide +kernel
theorem d_Rel_raiseAt_19 : decode c_Rel_raiseAt 19 = .ok (.aload_n 0, 1) := by decide +kernel
theorem d_Rel_raiseAt_20 : decode c_Rel_raiseAt 20 = .ok (.iload_n 1, 1) := by decide +kernel
theorem d_Rel_raiseAt_21 : decode c_Rel_raiseAt 21 = .ok (.invokevirtual 55, 3) := by decide +kernel
theorem d_Rel_raiseAt_24 : decode c_Rel_raiseAt 24 = .ok (.return_, 1) := by decide +kernel
theorem d_Rel_removeAt_0 : decode c_Rel_removeAt 0 = .ok (.aload_n 0, 1) := by decide +kernel
theorem d_Rel_removeAt_1 : decode c_Rel_removeAt 1 = .ok (.dup, 1) := by decide +kernel
theorem d_Rel_removeAt_2 : decode c_Rel_removeAt 2 = .ok (.getfield 22, 3) := by decide +kernel
theorem d_Rel_removeAt_5 : decode c_Rel_removeAt 5 = .ok (.iconst 1, 1) := by decide +kernel
theorem d_Rel_removeAt_6 : decode c_Rel_removeAt 6 = .ok (.isub, 1) := by decide +kernel
theorem d_Rel_removeAt_7 : decode c_Rel_removeAt 7 = .ok (.putfield 22, 3) := by decide +kernel
theorem d_Rel_removeAt_10 : decode c_Rel_removeAt 10 = .ok (.aload_n 0, 1) := by decide +kernel
theorem d_Rel_removeAt_11 : decode c_Rel_removeAt 11 = .ok (.getfield 9, 3) := by decide +kernel
theorem d_Rel_removeAt_14 : decode c_Rel_removeAt 14 = .ok (.iload_n 1, 1) := by decide +kernel
theorem d_Rel_removeAt_15 : decode c_Rel_removeAt 15 = .ok (.iconst 1, 1) := by decide +kernel
theorem d_Rel_removeAt_16 : decode c_Rel_removeAt 16 = .ok (.iadd, 1) := by decide +kernel
theorem d_Rel_removeAt_17 : decode c_Rel_removeAt 17 = .ok (.aload_n 0, 1) := by decide +kernel
theorem d_Rel_removeAt_18 : decode c_Rel_removeAt 18 = .ok (.getfield 9, 3) := by decide +kernel
theorem d_Rel_removeAt_21 : decode c_Rel_removeAt 21 = .ok (.iload_n 1, 1) := by decide +kernel
theorem d_Rel_removeAt_22 : decode c_Rel_removeAt 22 = .ok (.aload_n 0, 1) := by decide +kernel
theorem d_Rel_removeAt_23 : decode c_Rel_removeAt 23 = .ok (.getfield 22, 3) := by decide +kernel
theorem d_Rel_removeAt_26 : decode c_Rel_removeAt 26 = .ok (.iload_n 1, 1) := by decide +kernel
theorem d_Rel_removeAt_27 : decode c_Rel_removeAt 27 = .ok (.isub, 1) := by decide +kernel
theorem d_Rel_removeAt_28 : decode c_Rel_removeAt 28 = .ok (.invokestatic 59, 3) := by decide +kernel
theorem d_Rel_removeAt_31 : decode c_Rel_removeAt 31 = .ok (.aload_n 0, 1) := by decide +kernel
theorem d_Rel_removeAt_32 : decode c_Rel_removeAt 32 = .ok (.getfield 15, 3) := by decide +kernel
theorem d_Rel_removeAt_35 : decode c_Rel_removeAt 35 = .ok (.iload_n 1, 1) := by decide +kernel
theorem d_Rel_removeAt_36 : decode c_Rel_removeAt 36 = .ok (.iconst 1, 1) := by decide +kernel
theorem d_Rel_removeAt_37 : decode c_Rel_removeAt 37 = .ok (.iadd, 1) := by decide +kernel
theorem d_Rel_removeAt_38 : decode c_Rel_removeAt 38 = .ok (.aload_n 0, 1) := by decide +kernel
theorem d_Rel_removeAt_39 : decode c_Rel_removeAt 39 = .ok (.getfield 15, 3) := by decide +kernel
theorem d_Rel_removeAt_42 : decode c_Rel_removeAt 42 = .ok (.iload_n 1, 1) := by decide +kernel
theorem d_Rel_removeAt_43 : decode c_Rel_removeAt 43 = .ok (.aload_n 0, 1) := by decide +kernel
theorem d_Rel_removeAt_44 : decode c_Rel_removeAt 44 = .ok (.getfield 22, 3) := by decide +kernel
theorem d_Rel_removeAt_47 : decode c_Rel_removeAt 47 = .ok (.iload_n 1, 1) := by decide +kernel
theorem d_Rel_removeAt_48 : decode c_Rel_removeAt 48 = .ok (.isub, 1) := by decide +kernel
theorem d_Rel_removeAt_49 : decode c_Rel_removeAt 49 = .ok (.invokestatic 59, 3) := by decide +kernel
theorem d_Rel_removeAt_52 : decode c_Rel_removeAt 52 = .ok (.return_, 1) := by decide +kernel
theorem d_Rel_insertAt_0 : decode c_Rel_insertAt 0 = .ok (.aload_n 0, 1) := by decide +kernel
theorem d_Rel_insertAt_1 : decode c_Rel_insertAt 1 = .ok (.getfield 9, 3) := by decide +kernel
theorem d_Rel_insertAt_4 : decode c_Rel_insertAt 4 = .ok (.iload_n 1, 1) := by decide +kernel
theorem d_Rel_insertAt_5 : decode c_Rel_insertAt 5 = .ok (.aload_n 0, 1) := by decide +kernel
theorem d_Rel_insertAt_6 : decode c_Rel_insertAt 6 = .ok (.getfield 9, 3) := by decide +kernel
theorem d_Rel_insertAt_9 : decode c_Rel_insertAt 9 = .ok (.iload_n 1, 1) := by decide +kernel
theorem d_Rel_insertAt_10 : decode c_Rel_insertAt 10 = .ok (.iconst 1, 1) := by decide +kernel
theorem d_Rel_insertAt_11 : decode c_Rel_insertAt 11 = .ok (.iadd, 1) := by decide +kernel
theorem d_Rel_insertAt_12 : decode c_Rel_insertAt 12 = .ok (.aload_n 0, 1) := by decide +kernel
theorem d_Rel_insertAt_13 : decode c_Rel_insertAt 13 = .ok (.getfield 22, 3) := by decide +kernel
theorem d_Rel_insertAt_16 : decode c_Rel_insertAt 16 = .ok (.iload_n 1, 1) := by decide +kernel
theorem d_Rel_insertAt_17 : decode c_Rel_insertAt 17 = .ok (.isub, 1) := by decide +kernel
theorem d_Rel_insertAt_18 : decode c_Rel_insertAt 18 = .ok (.invokestatic 59, 3) := by decide +kernel
theorem d_Rel_insertAt_21 : decode c_Rel_insertAt 21 = .ok (.aload_n 0, 1) := by decide +kernel
theorem d_Rel_insertAt_22 : decode c_Rel_insertAt 22 = .ok (.getfield 15, 3) := by decide +kernel
theorem d_Rel_insertAt_25 : decode c_Rel_insertAt 25 = .ok (.iload_n 1, 1) := by decide +kernel
theorem d_Rel_insertAt_26 : decode c_Rel_insertAt 26 = .ok (.aload_n 0, 1) := by decide +kernel
theorem d_Rel_insertAt_27 : decode c_Rel_insertAt 27 = .ok (.getfield 15, 3) := by decide +kernel
theorem d_Rel_insertAt_30 : decode c_Rel_insertAt 30 = .ok (.iload_n 1, 1) := by decide +kernel
theorem d_Rel_insertAt_31 : decode c_Rel_insertAt 31 = .ok (.iconst 1, 1) := by decide +kernel
theorem d_Rel_insertAt_32 : decode c_Rel_insertAt 32 = .ok (.iadd, 1) := by decide +kernel
theorem d_Rel_insertAt_33 : decode c_Rel_insertAt 33 = .ok (.aload_n 0, 1) := by decide +kernel
theorem d_Rel_insertAt_34 : decode c_Rel_insertAt 34 = .ok (.getfield 22, 3) := by decide +kernel
theorem d_Rel_insertAt_37 : decode c_Rel_insertAt 37 = .ok (.iload_n 1, 1) := by decide +kernel
theorem d_Rel_insertAt_38 : decode c_Rel_insertAt 38 = .ok (.isub, 1) := by decide +kernel
theorem d_Rel_insertAt_39 : decode c_Rel_insertAt 39 = .ok (.invokestatic 59, 3) := by decide +kernel
theorem d_Rel_insertAt_42 : decode c_Rel_insertAt 42 = .ok (.aload_n 0, 1) := by decide +kernel
theorem d_Rel_insertAt_43 : decode c_Rel_insertAt 43 = .ok (.getfield 9, 3) := by decide +kernel
theorem d_Rel_insertAt_46 : decode c_Rel_insertAt 46 = .ok (.iload_n 1, 1) := by decide +kernel
theorem d_Rel_insertAt_47 : decode c_Rel_insertAt 47 = .ok (.iload_n 2, 1) := by decide +kernel
theorem d_Rel_insertAt_48 : decode c_Rel_insertAt 48 = .ok (.iastore, 1) := by decide +kernel
theorem d_Rel_insertAt_49 : decode c_Rel_insertAt 49 = .ok (.aload_n 0, 1) := by decide +kernel
theorem d_Rel_insertAt_50 : decode c_Rel_insertAt 50 = .ok (.getfield 15, 3) := by decide +kernel
theorem d_Rel_insertAt_53 : decode c_Rel_insertAt 53 = .ok (.iload_n 1, 1) := by decide +kernel
theorem d_Rel_insertAt_54 : decode c_Rel_insertAt 54 = .ok (.iload_n 3, 1) := by decide +kernel
theorem d_Rel_insertAt_55 : decode c_Rel_insertAt 55 = .ok (.iastore, 1) := by decide +kernel
theorem d_Rel_insertAt_56 : decode c_Rel_insertAt 56 = .ok (.aload_n 0, 1) := by decide +kernel
theorem d_Rel_insertAt_57 : decode c_Rel_insertAt 57 = .ok (.dup, 1) := by decide +kernel
theorem d_Rel_insertAt_58 : decode c_Rel_insertAt 58 = .ok (.getfield 22, 3) := by decide +kernel
theorem d_Rel_insertAt_61 : decode c_Rel_insertAt 61 = .ok (.iconst 1, 1) := by decide +kernel
theorem d_Rel_insertAt_62 : decode c_Rel_insertAt 62 = .ok (.iadd, 1) := by decide +kernel
theorem d_Rel_insertAt_63 : decode c_Rel_insertAt 63 = .ok (.putfield 22, 3) := by decide +kernel
theorem d_Rel_insertAt_66 : decode c_Rel_insertAt 66 = .ok (.return_, 1) := by decide +kernel
theorem d_Sh_refuseIfFull_0 : decode c_Sh_refuseIfFull 0 = .ok (.iload_n 0, 1) := by decide +kernel
theorem d_Sh_refuseIfFull_1 : decode c_Sh_refuseIfFull 1 = .ok (.ifCond .ne 11, 3) := by decide +kernel
theorem d_Sh_refuseIfFull_4 : decode c_Sh_refuseIfFull 4 = .ok (.new 126, 3) := by decide +kernel
theorem d_Sh_refuseIfFull_7 : decode c_Sh_refuseIfFull 7 = .ok (.dup, 1) := by decide +kernel
theorem d_Sh_refuseIfFull_8 : decode c_Sh_refuseIfFull 8 = .ok (.invokespecial 128, 3) := by decide +kernel
theorem d_Sh_refuseIfFull_11 : decode c_Sh_refuseIfFull 11 = .ok (.athrow, 1) := by decide +kernel
theorem d_Sh_refuseIfFull_12 : decode c_Sh_refuseIfFull 12 = .ok (.return_, 1) := by decide +kernel
theorem d_Rel_countOf_0 : decode c_Rel_countOf 0 = .ok (.aload_n 0, 1) := by decide +kernel
theorem d_Rel_countOf_1 : decode c_Rel_countOf 1 = .ok (.iload_n 1, 1) := by decide +kernel
theorem d_Rel_countOf_2 : decode c_Rel_countOf 2 = .ok (.invokevirtual 25, 3) := by decide +kernel
theorem d_Rel_countOf_5 : decode c_Rel_countOf 5 = .ok (.istore_n 2, 1) := by decide +kernel
theorem d_Rel_countOf_6 : decode c_Rel_countOf 6 = .ok (.aload_n 0, 1) := by decide +kernel
theorem d_Rel_countOf_7 : decode c_Rel_countOf 7 = .ok (.iload_n 2, 1) := by decide +kernel
theorem d_Rel_countOf_8 : decode c_Rel_countOf 8 = .ok (.iload_n 1, 1) := by decide +kernel
theorem d_Rel_countOf_9 : decode c_Rel_countOf 9 = .ok (.invokevirtual 29, 3) := by decide +kernel
theorem d_Rel_countOf_12 : decode c_Rel_countOf 12 = .ok (.ifCond .eq 12, 3) := by decide +kernel
theorem d_Rel_countOf_15 : decode c_Rel_countOf 15 = .ok (.aload_n 0, 1) := by decide +kernel
theorem d_Rel_countOf_16 : decode c_Rel_countOf 16 = .ok (.getfield 15, 3) := by decide +kernel
theorem d_Rel_countOf_19 : decode c_Rel_countOf 19 = .ok (.iload_n 2, 1) := by decide +kernel
theorem d_Rel_countOf_20 : decode c_Rel_countOf 20 = .ok (.iaload, 1) := by decide +kernel
theorem d_Rel_countOf_21 : decode c_Rel_countOf 21 = .ok (.goto 4, 3) := by decide +kernel
theorem d_Rel_countOf_24 : decode c_Rel_countOf 24 = .ok (.iconst 0, 1) := by decide +kernel
theorem d_Rel_countOf_25 : decode c_Rel_countOf 25 = .ok (.ireturn, 1) := by decide +kernel
theorem d_Sh_count_0 : decode c_Sh_count 0 = .ok (.aload_n 0, 1) := by decide +kernel
theorem d_Sh_count_1 : decode c_Sh_count 1 = .ok (.iload_n 1, 1) := by decide +kernel
theorem d_Sh_count_2 : decode c_Sh_count 2 = .ok (.invokevirtual 24, 3) := by decide +kernel
theorem d_Sh_count_5 : decode c_Sh_count 5 = .ok (.astore_n 3, 1) := by decide +kernel
theorem d_Sh_count_6 : decode c_Sh_count 6 = .ok (.iload_n 2, 1) := by decide +kernel
theorem d_Sh_count_7 : decode c_Sh_count 7 = .ok (.aload_n 3, 1) := by decide +kernel
theorem d_Sh_count_8 : decode c_Sh_count 8 = .ok (.getfield 40, 3) := by decide +kernel
theorem d_Sh_count_11 : decode c_Sh_count 11 = .ok (.invokestatic 43, 3) := by decide +kernel
theorem d_Sh_count_14 : decode c_Sh_count 14 = .ok (.invokestatic 28, 3) := by decide +kernel
theorem d_Sh_count_17 : decode c_Sh_count 17 = .ok (.aload_n 3, 1) := by decide +kernel
theorem d_Sh_count_18 : decode c_Sh_count 18 = .ok (.iload_n 2, 1) := by decide +kernel
theorem d_Sh_count_19 : decode c_Sh_count 19 = .ok (.invokevirtual 53, 3) := by decide +kernel
theorem d_Sh_count_22 : decode c_Sh_count 22 = .ok (.ireturn, 1) := by decide +kernel
theorem d_Sh_at_0 : decode c_Sh_at 0 = .ok (.aload_n 0, 1) := by decide +kernel
theorem d_Sh_at_1 : decode c_Sh_at 1 = .ok (.iload_n 1, 1) := by decide +kernel
theorem d_Sh_at_2 : decode c_Sh_at 2 = .ok (.invokevirtual 24, 3) := by decide +kernel
theorem d_Sh_at_5 : decode c_Sh_at 5 = .ok (.astore_n 3, 1) := by decide +kernel
theorem d_Sh_at_6 : decode c_Sh_at 6 = .ok (.iload_n 2, 1) := by decide +kernel
theorem d_Sh_at_7 : decode c_Sh_at 7 = .ok (.ifCond .lt 11, 3) := by decide +kernel
theorem d_Sh_at_10 : decode c_Sh_at 10 = .ok (.iload_n 2, 1) := by decide +kernel
theorem d_Sh_at_11 : decode c_Sh_at 11 = .ok (.aload_n 3, 1) := by decide +kernel
theorem d_Sh_at_12 : decode c_Sh_at 12 = .ok (.getfield 32, 3) := by decide +kernel
theorem d_Sh_at_15 : decode c_Sh_at 15 = .ok (.if_icmp .lt 11, 3) := by decide +kernel
theorem d_Sh_at_18 : decode c_Sh_at 18 = .ok (.new 57, 3) := by decide +kernel
theorem d_Sh_at_21 : decode c_Sh_at 21 = .ok (.dup, 1) := by decide +kernel
theorem d_Sh_at_22 : decode c_Sh_at 22 = .ok (.invokespecial 59, 3) := by decide +kernel
theorem d_Sh_at_25 : decode c_Sh_at 25 = .ok (.athrow, 1) := by decide +kernel
theorem d_Sh_at_26 : decode c_Sh_at 26 = .ok (.aload_n 3, 1) := by decide +kernel
theorem d_Sh_at_27 : decode c_Sh_at 27 = .ok (.getfield 60, 3) := by decide +kernel
theorem d_Sh_at_30 : decode c_Sh_at 30 = .ok (.iload_n 2, 1) := by decide +kernel
theorem d_Sh_at_31 : decode c_Sh_at 31 = .ok (.iaload, 1) := by decide +kernel
theorem d_Sh_at_32 : decode c_Sh_at 32 = .ok (.ireturn, 1) := by decide +kernel
theorem d_Sh_join_0 : decode c_Sh_join 0 = .ok (.iload_n 1, 1) := by decide +kernel
theorem d_Sh_join_1 : decode c_Sh_join 1 = .ok (.invokestatic 63, 3) := by decide +kernel
theorem d_Sh_join_4 : decode c_Sh_join 4 = .ok (.aload_n 0, 1) := by decide +kernel
theorem d_Sh_join_5 : decode c_Sh_join 5 = .ok (.iload_n 2, 1) := by decide +kernel
theorem d_Sh_join_6 : decode c_Sh_join 6 = .ok (.invokevirtual 24, 3) := by decide +kernel
theorem d_Sh_join_9 : decode c_Sh_join 9 = .ok (.astore 5, 2) := by decide +kernel
theorem d_Sh_join_11 : decode c_Sh_join 11 = .ok (.aload_n 0, 1) := by decide +kernel
theorem d_Sh_join_12 : decode c_Sh_join 12 = .ok (.iload_n 3, 1) := by decide +kernel
theorem d_Sh_join_13 : decode c_Sh_join 13 = .ok (.invokevirtual 24, 3) := by decide +kernel
theorem d_Sh_join_16 : decode c_Sh_join 16 = .ok (.astore 6, 2) := by decide +kernel
theorem d_Sh_join_18 : decode c_Sh_join 18 = .ok (.iload 4, 2) := by decide +kernel
theorem d_Sh_join_20 : decode c_Sh_join 20 = .ok (.ifCond .lt 27, 3) := by decide +kernel
theorem d_Sh_join_23 : decode c_Sh_join 23 = .ok (.iload 4, 2) := by decide +kernel
theorem d_Sh_join_25 : decode c_Sh_join 25 = .ok (.aload 5, 2) := by decide +kernel
theorem d_Sh_join_27 : decode c_Sh_join 27 = .ok (.getfield 40, 3) := by decide +kernel
theorem d_Sh_join_30 : decode c_Sh_join 30 = .ok (.if_icmp .gt 17, 3) := by decide +kernel
theorem d_Sh_join_33 : decode c_Sh_join 33 = .ok (.iload 4, 2) := by decide +kernel
theorem d_Sh_join_35 : decode c_Sh_join 35 = .ok (.aload 6, 2) := by decide +kernel
theorem d_Sh_join_37 : decode c_Sh_join 37 = .ok (.getfield 40, 3) := by decide +kernel
theorem d_Sh_join_40 : decode c_Sh_join 40 = .ok (.if_icmp .gt 7, 3) := by decide +kernel
theorem d_Sh_join_43 : decode c_Sh_join 43 = .ok (.iconst 1, 1) := by decide +kernel
theorem d_Sh_join_44 : decode c_Sh_join 44 = .ok (.goto 4, 3) := by decide +kernel
theorem d_Sh_join_47 : decode c_Sh_join 47 = .ok (.iconst 0, 1) := by decide +kernel
theorem d_Sh_join_48 : decode c_Sh_join 48 = .ok (.invokestatic 28, 3) := by decide +kernel
theorem d_Sh_join_51 : decode c_Sh_join 51 = .ok (.aload 5, 2) := by decide +kernel
theorem d_Sh_join_53 : decode c_Sh_join 53 = .ok (.getfield 40, 3) := by decide +kernel
theorem d_Sh_join_56 : decode c_Sh_join 56 = .ok (.aload 6, 2) := by decide +kernel
theorem d_Sh_join_58 : decode c_Sh_join 58 = .ok (.getfield 40, 3) := by decide +kernel
theorem d_Sh_join_61 : decode c_Sh_join 61 = .ok (.iadd, 1) := by decide +kernel
theorem d_Sh_join_62 : decode c_Sh_join 62 = .ok (.iload 4, 2) := by decide +kernel
theorem d_Sh_join_64 : decode c_Sh_join 64 = .ok (.isub, 1) := by decide +kernel
theorem d_Sh_join_65 : decode c_Sh_join 65 = .ok (.istore 7, 2) := by decide +kernel
theorem d_Sh_join_67 : decode c_Sh_join 67 = .ok (.iload 7, 2) := by decide +kernel
theorem d_Sh_join_69 : decode c_Sh_join 69 = .ok (.iconst 3, 1) := by decide +kernel
theorem d_Sh_join_70 : decode c_Sh_join 70 = .ok (.if_icmp .gt 7, 3) := by decide +kernel
theorem d_Sh_join_73 : decode c_Sh_join 73 = .ok (.iconst 1, 1) := by decide +kernel
theorem d_Sh_join_74 : decode c_Sh_join 74 = .ok (.goto 4, 3) := by decide +kernel
theorem d_Sh_join_77 : decode c_Sh_join 77 = .ok (.iconst 0, 1) := by decide +kernel
theorem d_Sh_join_78 : decode c_Sh_join 78 = .ok (.invokestatic 28, 3) := by decide +kernel
theorem d_Sh_join_81 : decode c_Sh_join 81 = .ok (.aload_n 0, 1) := by decide +kernel
theorem d_Sh_join_82 : decode c_Sh_join 82 = .ok (.getfield 16, 3) := by decide +kernel
theorem d_Sh_join_85 : decode c_Sh_join 85 = .ok (.iload 7, 2) := by decide +kernel
theorem d_Sh_join_87 : decode c_Sh_join 87 = .ok (.invokevirtual 36, 3) := by decide +kernel
theorem d_Sh_join_90 : decode c_Sh_join 90 = .ok (.iconst 1, 1) := by decide +kernel
theorem d_Sh_join_91 : decode c_Sh_join 91 = .ok (.istore 8, 2) := by decide +kernel
theorem d_Sh_join_93 : decode c_Sh_join 93 = .ok (.iconst 0, 1) := by decide +kernel
theorem d_Sh_join_94 : decode c_Sh_join 94 = .ok (.istore 9, 2) := by decide +kernel
theorem d_Sh_join_96 : decode c_Sh_join 96 = .ok (.iload 9, 2) := by decide +kernel
theorem d_Sh_join_98 : decode c_Sh_join 98 = .ok (.aload 5, 2) := by decide +kernel
theorem d_Sh_join_100 : decode c_Sh_join 100 = .ok (.getfield 32, 3) := by decide +kernel
theorem d_Sh_join_103 : decode c_Sh_join 103 = .ok (.if_icmp .ge 28, 3) := by decide +kernel
theorem d_Sh_join_106 : decode c_Sh_join 106 = .ok (.iload 8, 2) := by decide +kernel
theorem d_Sh_join_108 : decode c_Sh_join 108 = .ok (.ifCond .eq 23, 3) := by decide +kernel
theorem d_Sh_join_111 : decode c_Sh_join 111 = .ok (.aload_n 0, 1) := by decide +kernel
theorem d_Sh_join_112 : decode c_Sh_join 112 = .ok (.aload 5, 2) := by decide +kernel
theorem d_Sh_join_114 : decode c_Sh_join 114 = .ok (.iload 9, 2) := by decide +kernel
theorem d_Sh_join_116 : decode c_Sh_join 116 = .ok (.aload 6, 2) := by decide +kernel
theorem d_Sh_join_118 : decode c_Sh_join 118 = .ok (.iload 4, 2) := by decide +kernel
theorem d_Sh_join_120 : decode c_Sh_join 120 = .ok (.invokevirtual 66, 3) := by decide +kernel
theorem d_Sh_join_123 : decode c_Sh_join 123 = .ok (.istore 8, 2) := by decide +kernel
theorem d_Sh_join_125 : decode c_Sh_join 125 = .ok (.iinc 9 1, 3) := by decide +kernel
theorem d_Sh_join_128 : decode c_Sh_join 128 = .ok (.goto (-32), 3) := by decide +kernel
theorem d_Sh_join_131 : decode c_Sh_join 131 = .ok (.iload 8, 2) := by decide +kernel
theorem d_Sh_join_133 : decode c_Sh_join 133 = .ok (.invokestatic 50, 3) := by decide +kernel
theorem d_Sh_join_136 : decode c_Sh_join 136 = .ok (.aload_n 0, 1) := by decide +kernel
theorem d_Sh_join_137 : decode c_Sh_join 137 = .ok (.iload_n 1, 1) := by decide +kernel
theorem d_Sh_join_138 : decode c_Sh_join 138 = .ok (.invokevirtual 70, 3) := by decide +kernel
theorem d_Sh_join_141 : decode c_Sh_join 141 = .ok (.ireturn, 1) := by decide +kernel
theorem d_Sh_joinOne_0 : decode c_Sh_joinOne 0 = .ok (.aload_n 1, 1) := by decide +kernel
theorem d_Sh_joinOne_1 : decode c_Sh_joinOne 1 = .ok (.getfield 60, 3) := by decide +kernel
theorem d_Sh_joinOne_4 : decode c_Sh_joinOne 4 = .ok (.iload_n 2, 1) := by decide +kernel
theorem d_Sh_joinOne_5 : decode c_Sh_joinOne 5 = .ok (.iaload, 1) := by decide +kernel
theorem d_Sh_joinOne_6 : decode c_Sh_joinOne 6 = .ok (.istore 5, 2) := by decide +kernel
theorem d_Sh_joinOne_8 : decode c_Sh_joinOne 8 = .ok (.iload 5, 2) := by decide +kernel
theorem d_Sh_joinOne_10 : decode c_Sh_joinOne 10 = .ok (.aload_n 1, 1) := by decide +kernel
theorem d_Sh_joinOne_11 : decode c_Sh_joinOne 11 = .ok (.getfield 40, 3) := by decide +kernel
theorem d_Sh_joinOne_14 : decode c_Sh_joinOne 14 = .ok (.iload 4, 2) := by decide +kernel
theorem d_Sh_joinOne_16 : decode c_Sh_joinOne 16 = .ok (.invokestatic 129, 3) := by decide +kernel
theorem d_Sh_joinOne_19 : decode c_Sh_joinOne 19 = .ok (.istore 6, 2) := by decide +kernel
theorem d_Sh_joinOne_21 : decode c_Sh_joinOne 21 = .ok (.aload_n 3, 1) := by decide +kernel
theorem d_Sh_joinOne_22 : decode c_Sh_joinOne 22 = .ok (.iload 6, 2) := by decide +kernel
theorem d_Sh_joinOne_24 : decode c_Sh_joinOne 24 = .ok (.iload 4, 2) := by decide +kernel
theorem d_Sh_joinOne_26 : decode c_Sh_joinOne 26 = .ok (.invokestatic 132, 3) := by decide +kernel
theorem d_Sh_joinOne_29 : decode c_Sh_joinOne 29 = .ok (.ishl, 1) := by decide +kernel
theorem d_Sh_joinOne_30 : decode c_Sh_joinOne 30 = .ok (.invokevirtual 135, 3) := by decide +kernel
theorem d_Sh_joinOne_33 : decode c_Sh_joinOne 33 = .ok (.istore 7, 2) := by decide +kernel
theorem d_Sh_joinOne_35 : decode c_Sh_joinOne 35 = .ok (.aload_n 3, 1) := by decide +kernel
theorem d_Sh_joinOne_36 : decode c_Sh_joinOne 36 = .ok (.iload 6, 2) := by decide +kernel
theorem d_Sh_joinOne_38 : decode c_Sh_joinOne 38 = .ok (.iconst 1, 1) := by decide +kernel
theorem d_Sh_joinOne_39 : decode c_Sh_joinOne 39 = .ok (.iadd, 1) := by decide +kernel
theorem d_Sh_joinOne_40 : decode c_Sh_joinOne 40 = .ok (.iload 4, 2) := by decide +kernel
theorem d_Sh_joinOne_42 : decode c_Sh_joinOne 42 = .ok (.invokestatic 132, 3) := by decide +kernel
theorem d_Sh_joinOne_45 : decode c_Sh_joinOne 45 = .ok (.ishl, 1) := by decide +kernel
theorem d_Sh_joinOne_46 : decode c_Sh_joinOne 46 = .ok (.invokevirtual 135, 3) := by decide +kernel
theorem d_Sh_joinOne_49 : decode c_Sh_joinOne 49 = .ok (.istore 8, 2) := by decide +kernel
theorem d_Sh_joinOne_51 : decode c_Sh_joinOne 51 = .ok (.iconst 4, 1) := by decide +kernel
theorem d_Sh_joinOne_52 : decode c_Sh_joinOne 52 = .ok (.aload_n 1, 1) := by decide +kernel
theorem d_Sh_joinOne_53 : decode c_Sh_joinOne 53 = .ok (.getfield 40, 3) := by decide +kernel
theorem d_Sh_joinOne_56 : decode c_Sh_joinOne 56 = .ok (.iload 4, 2) := by decide +kernel
theorem d_Sh_joinOne_58 : decode c_Sh_joinOne 58 = .ok (.isub, 1) := by decide +kernel
theorem d_Sh_joinOne_59 : decode c_Sh_joinOne 59 = .ok (.imul, 1) := by decide +kernel
theorem d_Sh_joinOne_60 : decode c_Sh_joinOne 60 = .ok (.istore 9, 2) := by decide +kernel
theorem d_Sh_joinOne_62 : decode c_Sh_joinOne 62 = .ok (.iconst 1, 1) := by decide +kernel
theorem d_Sh_joinOne_63 : decode c_Sh_joinOne 63 = .ok (.istore 10, 2) := by decide +kernel
theorem d_Sh_joinOne_65 : decode c_Sh_joinOne 65 = .ok (.iload 7, 2) := by decide +kernel
theorem d_Sh_joinOne_67 : decode c_Sh_joinOne 67 = .ok (.istore 11, 2) := by decide +kernel
theorem d_Sh_joinOne_69 : decode c_Sh_joinOne 69 = .ok (.iload 11, 2) := by decide +kernel
theorem d_Sh_joinOne_71 : decode c_Sh_joinOne 71 = .ok (.iload 8, 2) := by decide +kernel
theorem d_Sh_joinOne_73 : decode c_Sh_joinOne 73 = .ok (.if_icmp .ge 50, 3) := by decide +kernel
theorem d_Sh_joinOne_76 : decode c_Sh_joinOne 76 = .ok (.iload 10, 2) := by decide +kernel
theorem d_Sh_joinOne_78 : decode c_Sh_joinOne 78 = .ok (.ifCond .eq 45, 3) := by decide +kernel
theorem d_Sh_joinOne_81 : decode c_Sh_joinOne 81 = .ok (.aload_n 0, 1) := by decide +kernel
theorem d_Sh_joinOne_82 : decode c_Sh_joinOne 82 = .ok (.getfield 16, 3) := by decide +kernel
theorem d_Sh_joinOne_85 : decode c_Sh_joinOne 85 = .ok (.iload 5, 2) := by decide +kernel
theorem d_Sh_joinOne_87 : decode c_Sh_joinOne 87 = .ok (.aload_n 3, 1) := by decide +kernel
theorem d_Sh_joinOne_88 : decode c_Sh_joinOne 88 = .ok (.getfield 60, 3) := by decide +kernel
theorem d_Sh_joinOne_91 : decode c_Sh_joinOne 91 = .ok (.iload 11, 2) := by decide +kernel
theorem d_Sh_joinOne_93 : decode c_Sh_joinOne 93 = .ok (.iaload, 1) := by decide +kernel
theorem d_Sh_joinOne_94 : decode c_Sh_joinOne 94 = .ok (.iload 9, 2) := by decide +kernel
theorem d_Sh_joinOne_96 : decode c_Sh_joinOne 96 = .ok (.ishr, 1) := by decide +kernel
theorem d_Sh_joinOne_97 : decode c_Sh_joinOne 97 = .ok (.ior, 1) := by decide +kernel
theorem d_Sh_joinOne_98 : decode c_Sh_joinOne 98 = .ok (.aload_n 1, 1) := by decide +kernel
theorem d_Sh_joinOne_99 : decode c_Sh_joinOne 99 = .ok (.getfield 82, 3) := by decide +kernel
theorem d_Sh_joinOne_102 : decode c_Sh_joinOne 102 = .ok (.iload_n 2, 1) := by decide +kernel
theorem d_Sh_joinOne_103 : decode c_Sh_joinOne 103 = .ok (.iaload, 1) := by decide +kernel
theorem d_Sh_joinOne_104 : decode c_Sh_joinOne 104 = .ok (.aload_n 3, 1) := by decide +kernel
theorem d_Sh_joinOne_105 : decode c_Sh_joinOne 105 = .ok (.getfield 82, 3) := by decide +kernel
theorem d_Sh_joinOne_108 : decode c_Sh_joinOne 108 = .ok (.iload 11, 2) := by decide +kernel
theorem d_Sh_joinOne_110 : decode c_Sh_joinOne 110 = .ok (.iaload, 1) := by decide +kernel
theorem d_Sh_joinOne_111 : decode c_Sh_joinOne 111 = .ok (.imul, 1) := by decide +kernel
theorem d_Sh_joinOne_112 : decode c_Sh_joinOne 112 = .ok (.invokevirtual 47, 3) := by decide +kernel
theorem d_Sh_joinOne_115 : decode c_Sh_joinOne 115 = .ok (.istore 10, 2) := by decide +kernel
theorem d_Sh_joinOne_117 : decode c_Sh_joinOne 117 = .ok (.iinc 11 1, 3) := by decide +kernel
theorem d_Sh_joinOne_120 : decode c_Sh_joinOne 120 = .ok (.goto (-51), 3) := by decide +kernel
theorem d_Sh_joinOne_123 : decode c_Sh_joinOne 123 = .ok (.iload 10, 2) := by decide +kernel
theorem d_Sh_joinOne_125 : decode c_Sh_joinOne 125 = .ok (.ireturn, 1) := by decide +kernel
theorem d_Sh_lastNumbers_0 : decode c_Sh_lastNumbers 0 = .ok (.iload_n 0, 1) := by decide +kernel
theorem d_Sh_lastNumbers_1 : decode c_Sh_lastNumbers 1 = .ok (.iload_n 1, 1) := by decide +kernel
theorem d_Sh_lastNumbers_2 : decode c_Sh_lastNumbers 2 = .ok (.invokestatic 132, 3) := by decide +kernel
theorem d_Sh_lastNumbers_5 : decode c_Sh_lastNumbers 5 = .ok (.ishr, 1) := by decide +kernel
theorem d_Sh_lastNumbers_6 : decode c_Sh_lastNumbers 6 = .ok (.iconst 1, 1) := by decide +kernel
theorem d_Sh_lastNumbers_7 : decode c_Sh_lastNumbers 7 = .ok (.iconst 4, 1) := by decide +kernel
theorem d_Sh_lastNumbers_8 : decode c_Sh_lastNumbers 8 = .ok (.iload_n 2, 1) := by decide +kernel
theorem d_Sh_lastNumbers_9 : decode c_Sh_lastNumbers 9 = .ok (.imul, 1) := by decide +kernel
theorem d_Sh_lastNumbers_10 : decode c_Sh_lastNumbers 10 = .ok (.ishl, 1) := by decide +kernel
theorem d_Sh_lastNumbers_11 : decode c_Sh_lastNumbers 11 = .ok (.iconst 1, 1) := by decide +kernel
theorem d_Sh_lastNumbers_12 : decode c_Sh_lastNumbers 12 = .ok (.isub, 1) := by decide +kernel
theorem d_Sh_lastNumbers_13 : decode c_Sh_lastNumbers 13 = .ok (.iand, 1) := by decide +kernel
theorem d_Sh_lastNumbers_14 : decode c_Sh_lastNumbers 14 = .ok (.ireturn, 1) := by decide +kernel
theorem d_Sh_keepSpareAs_0 : decode c_Sh_keepSpareAs 0 = .ok (.aload_n 0, 1) := by decide +kernel
theorem d_Sh_keepSpareAs_1 : decode c_Sh_keepSpareAs 1 = .ok (.getfield 16, 3) := by decide +kernel
theorem d_Sh_keepSpareAs_4 : decode c_Sh_keepSpareAs 4 = .ok (.astore_n 2, 1) := by decide +kernel
theorem d_Sh_keepSpareAs_5 : decode c_Sh_keepSpareAs 5 = .ok (.aload_n 0, 1) := by decide +kernel
theorem d_Sh_keepSpareAs_6 : decode c_Sh_keepSpareAs 6 = .ok (.aload_n 0, 1) := by decide +kernel
theorem d_Sh_keepSpareAs_7 : decode c_Sh_keepSpareAs 7 = .ok (.getfield 11, 3) := by decide +kernel
theorem d_Sh_keepSpareAs_10 : decode c_Sh_keepSpareAs 10 = .ok (.iload_n 1, 1) := by decide +kernel
theorem d_Sh_keepSpareAs_11 : decode c_Sh_keepSpareAs 11 = .ok (.aaload, 1) := by decide +kernel
theorem d_Sh_keepSpareAs_12 : decode c_Sh_keepSpareAs 12 = .ok (.putfield 16, 3) := by decide +kernel
theorem d_Sh_keepSpareAs_15 : decode c_Sh_keepSpareAs 15 = .ok (.aload_n 0, 1) := by decide +kernel
theorem d_Sh_keepSpareAs_16 : decode c_Sh_keepSpareAs 16 = .ok (.getfield 11, 3) := by decide +kernel
theorem d_Sh_keepSpareAs_19 : decode c_Sh_keepSpareAs 19 = .ok (.iload_n 1, 1) := by decide +kernel
theorem d_Sh_keepSpareAs_20 : decode c_Sh_keepSpareAs 20 = .ok (.aload_n 2, 1) := by decide +kernel
theorem d_Sh_keepSpareAs_21 : decode c_Sh_keepSpareAs 21 = .ok (.aastore, 1) := by decide +kernel
theorem d_Sh_keepSpareAs_22 : decode c_Sh_keepSpareAs 22 = .ok (.aload_n 2, 1) := by decide +kernel
theorem d_Sh_keepSpareAs_23 : decode c_Sh_keepSpareAs 23 = .ok (.getfield 32, 3) := by decide +kernel
theorem d_Sh_keepSpareAs_26 : decode c_Sh_keepSpareAs 26 = .ok (.ireturn, 1) := by decide +kernel
theorem d_Sh_narrow_0 : decode c_Sh_narrow 0 = .ok (.iload_n 1, 1) := by decide +kernel
theorem d_Sh_narrow_1 : decode c_Sh_narrow 1 = .ok (.invokestatic 63, 3) := by decide +kernel
theorem d_Sh_narrow_4 : decode c_Sh_narrow 4 = .ok (.aload_n 0, 1) := by decide +kernel
theorem d_Sh_narrow_5 : decode c_Sh_narrow 5 = .ok (.iload_n 2, 1) := by decide +kernel
theorem d_Sh_narrow_6 : decode c_Sh_narrow 6 = .ok (.invokevirtual 24, 3) := by decide +kernel
theorem d_Sh_narrow_9 : decode c_Sh_narrow 9 = .ok (.astore 4, 2) := by decide +kernel
theorem d_Sh_narrow_11 : decode c_Sh_narrow 11 = .ok (.iload_n 3, 1) := by decide +kernel
theorem d_Sh_narrow_12 : decode c_Sh_narrow 12 = .ok (.ifCond .le 18, 3) := by decide +kernel
theorem d_Sh_narrow_15 : decode c_Sh_narrow 15 = .ok (.iload_n 3, 1) := by decide +kernel
theorem d_Sh_narrow_16 : decode c_Sh_narrow 16 = .ok (.iconst 1, 1) := by decide +kernel
theorem d_Sh_narrow_17 : decode c_Sh_narrow 17 = .ok (.aload 4, 2) := by decide +kernel
theorem d_Sh_narrow_19 : decode c_Sh_narrow 19 = .ok (.getfield 40, 3) := by decide +kernel
theorem d_Sh_narrow_22 : decode c_Sh_narrow 22 = .ok (.ishl, 1) := by decide +kernel
theorem d_Sh_narrow_23 : decode c_Sh_narrow 23 = .ok (.if_icmp .ge 7, 3) := by decide +kernel
theorem d_Sh_narrow_26 : decode c_Sh_narrow 26 = .ok (.iconst 1, 1) := by decide +kernel
theorem d_Sh_narrow_27 : decode c_Sh_narrow 27 = .ok (.goto 4, 3) := by decide +kernel
theorem d_Sh_narrow_30 : decode c_Sh_narrow 30 = .ok (.iconst 0, 1) := by decide +kernel
theorem d_Sh_narrow_31 : decode c_Sh_narrow 31 = .ok (.invokestatic 28, 3) := by decide +kernel
theorem d_Sh_narrow_34 : decode c_Sh_narrow 34 = .ok (.aload_n 0, 1) := by decide +kernel
theorem d_Sh_narrow_35 : decode c_Sh_narrow 35 = .ok (.getfield 16, 3) := by decide +kernel
theorem d_Sh_narrow_38 : decode c_Sh_narrow 38 = .ok (.iload_n 3, 1) := by decide +kernel
theorem d_Sh_narrow_39 : decode c_Sh_narrow 39 = .ok (.invokestatic 73, 3) := by decide +kernel
theorem d_Sh_narrow_42 : decode c_Sh_narrow 42 = .ok (.invokevirtual 36, 3) := by decide +kernel
theorem d_Sh_narrow_45 : decode c_Sh_narrow 45 = .ok (.iconst 0, 1) := by decide +kernel
theorem d_Sh_narrow_46 : decode c_Sh_narrow 46 = .ok (.istore 5, 2) := by decide +kernel
theorem d_Sh_narrow_48 : decode c_Sh_narrow 48 = .ok (.iload 5, 2) := by decide +kernel
theorem d_Sh_narrow_50 : decode c_Sh_narrow 50 = .ok (.aload 4, 2) := by decide +kernel
theorem d_Sh_narrow_52 : decode c_Sh_narrow 52 = .ok (.getfield 32, 3) := by decide +kernel
theorem d_Sh_narrow_55 : decode c_Sh_narrow 55 = .ok (.if_icmp .ge 37, 3) := by decide +kernel
theorem d_Sh_narrow_58 : decode c_Sh_narrow 58 = .ok (.aload_n 0, 1) := by decide +kernel
theorem d_Sh_narrow_59 : decode c_Sh_narrow 59 = .ok (.getfield 16, 3) := by decide +kernel
theorem d_Sh_narrow_62 : decode c_Sh_narrow 62 = .ok (.aload 4, 2) := by decide +kernel
theorem d_Sh_narrow_64 : decode c_Sh_narrow 64 = .ok (.getfield 60, 3) := by decide +kernel
theorem d_Sh_narrow_67 : decode c_Sh_narrow 67 = .ok (.iload 5, 2) := by decide +kernel
theorem d_Sh_narrow_69 : decode c_Sh_narrow 69 = .ok (.iaload, 1) := by decide +kernel
theorem d_Sh_narrow_70 : decode c_Sh_narrow 70 = .ok (.iload_n 3, 1) := by decide +kernel
theorem d_Sh_narrow_71 : decode c_Sh_narrow 71 = .ok (.invokestatic 78, 3) := by decide +kernel
theorem d_Sh_narrow_74 : decode c_Sh_narrow 74 = .ok (.aload 4, 2) := by decide +kernel
theorem d_Sh_narrow_76 : decode c_Sh_narrow 76 = .ok (.getfield 82, 3) := by decide +kernel
theorem d_Sh_narrow_79 : decode c_Sh_narrow 79 = .ok (.iload 5, 2) := by decide +kernel
theorem d_Sh_narrow_81 : decode c_Sh_narrow 81 = .ok (.iaload, 1) := by decide +kernel
theorem d_Sh_narrow_82 : decode c_Sh_narrow 82 = .ok (.invokevirtual 47, 3) := by decide +kernel
theorem d_Sh_narrow_85 : decode c_Sh_narrow 85 = .ok (.pop, 1) := by decide +kernel
theorem d_Sh_narrow_86 : decode c_Sh_narrow 86 = .ok (.iinc 5 1, 3) := by decide +kernel
theorem d_Sh_narrow_89 : decode c_Sh_narrow 89 = .ok (.goto (-41), 3) := by decide +kernel
theorem d_Sh_narrow_92 : decode c_Sh_narrow 92 = .ok (.aload_n 0, 1) := by decide +kernel
theorem d_Sh_narrow_93 : decode c_Sh_narrow 93 = .ok (.iload_n 1, 1) := by decide +kernel
theorem d_Sh_narrow_94 : decode c_Sh_narrow 94 = .ok (.invokevirtual 70, 3) := by decide +kernel
theorem d_Sh_narrow_97 : decode c_Sh_narrow 97 = .ok (.ireturn, 1) := by decide +kernel
theorem d_Sh_narrowed_0 : decode c_Sh_narrowed 0 = .ok (.iconst 0, 1) := by decide +kernel
theorem d_Sh_narrowed_1 : decode c_Sh_narrowed 1 = .ok (.istore_n 2, 1) := by decide +kernel
theorem d_Sh_narrowed_2 : decode c_Sh_narrowed 2 = .ok (.iconst 0, 1) := by decide +kernel
theorem d_Sh_narrowed_3 : decode c_Sh_narrowed 3 = .ok (.istore_n 3, 1) := by decide +kernel
theorem d_Sh_narrowed_4 : decode c_Sh_narrowed 4 = .ok (.iconst 0, 1) := by decide +kernel
theorem d_Sh_narrowed_5 : decode c_Sh_narrowed 5 = .ok (.istore 4, 2) := by decide +kernel
theorem d_Sh_narrowed_7 : decode c_Sh_narrowed 7 = .ok (.iload 4, 2) := by decide +kernel
theorem d_Sh_narrowed_9 : decode c_Sh_narrowed 9 = .ok (.iconst 3, 1) := by decide +kernel
theorem d_Sh_narrowed_10 : decode c_Sh_narrowed 10 = .ok (.if_icmp .ge 35, 3) := by decide +kernel
theorem d_Sh_narrowed_13 : decode c_Sh_narrowed 13 = .ok (.iload_n 1, 1) := by decide +kernel
theorem d_Sh_narrowed_14 : decode c_Sh_narrowed 14 = .ok (.iload 4, 2) := by decide +kernel
theorem d_Sh_narrowed_16 : decode c_Sh_narrowed 16 = .ok (.ishr, 1) := by decide +kernel
theorem d_Sh_narrowed_17 : decode c_Sh_narrowed 17 = .ok (.iconst 1, 1) := by decide +kernel
theorem d_Sh_narrowed_18 : decode c_Sh_narrowed 18 = .ok (.iand, 1) := by decide +kernel
theorem d_Sh_narrowed_19 : decode c_Sh_narrowed 19 = .ok (.iconst 1, 1) := by decide +kernel
theorem d_Sh_narrowed_20 : decode c_Sh_narrowed 20 = .ok (.if_icmp .ne 19, 3) := by decide +kernel
theorem d_Sh_narrowed_23 : decode c_Sh_narrowed 23 = .ok (.iload_n 2, 1) := by decide +kernel
theorem d_Sh_narrowed_24 : decode c_Sh_narrowed 24 = .ok (.iload_n 0, 1) := by decide +kernel
theorem d_Sh_narrowed_25 : decode c_Sh_narrowed 25 = .ok (.iload 4, 2) := by decide +kernel
theorem d_Sh_narrowed_27 : decode c_Sh_narrowed 27 = .ok (.invokestatic 85, 3) := by decide +kernel
theorem d_Sh_narrowed_30 : decode c_Sh_narrowed 30 = .ok (.iload_n 3, 1) := by decide +kernel
theorem d_Sh_narrowed_31 : decode c_Sh_narrowed 31 = .ok (.invokestatic 102, 3) := by decide +kernel
theorem d_Sh_narrowed_34 : decode c_Sh_narrowed 34 = .ok (.ior, 1) := by decide +kernel
theorem d_Sh_narrowed_35 : decode c_Sh_narrowed 35 = .ok (.istore_n 2, 1) := by decide +kernel
theorem d_Sh_narrowed_36 : decode c_Sh_narrowed 36 = .ok (.iinc 3 1, 3) := by decide +kernel
theorem d_Sh_narrowed_39 : decode c_Sh_narrowed 39 = .ok (.iinc 4 1, 3) := by decide +kernel
theorem d_Sh_narrowed_42 : decode c_Sh_narrowed 42 = .ok (.goto (-35), 3) := by decide +kernel
theorem d_Sh_narrowed_45 : decode c_Sh_narrowed 45 = .ok (.iload_n 2, 1) := by decide +kernel
theorem d_Sh_narrowed_46 : decode c_Sh_narrowed 46 = .ok (.ireturn, 1) := by decide +kernel
theorem d_Sh_numberAt_0 : decode c_Sh_numberAt 0 = .ok (.iload_n 0, 1) := by decide +kernel
theorem d_Sh_numberAt_1 : decode c_Sh_numberAt 1 = .ok (.iload_n 1, 1) := by decide +kernel
theorem d_Sh_numberAt_2 : decode c_Sh_numberAt 2 = .ok (.iconst 1, 1) := by decide +kernel
theorem d_Sh_numberAt_3 : decode c_Sh_numberAt 3 = .ok (.iadd, 1) := by decide +kernel
theorem d_Sh_numberAt_4 : decode c_Sh_numberAt 4 = .ok (.invokestatic 132, 3) := by decide +kernel
theorem d_Sh_numberAt_7 : decode c_Sh_numberAt 7 = .ok (.ishr, 1) := by decide +kernel
theorem d_Sh_numberAt_8 : decode c_Sh_numberAt 8 = .ok (.bipush 15, 2) := by decide +kernel
theorem d_Sh_numberAt_10 : decode c_Sh_numberAt 10 = .ok (.iand, 1) := by decide +kernel
theorem d_Sh_numberAt_11 : decode c_Sh_numberAt 11 = .ok (.ireturn, 1) := by decide +kernel
theorem d_Sh_withNumber_0 : decode c_Sh_withNumber 0 = .ok (.iload_n 0, 1) := by decide +kernel
theorem d_Sh_withNumber_1 : decode c_Sh_withNumber 1 = .ok (.iload_n 1, 1) := by decide +kernel
theorem d_Sh_withNumber_2 : decode c_Sh_withNumber 2 = .ok (.iconst 1, 1) := by decide +kernel
theorem d_Sh_withNumber_3 : decode c_Sh_withNumber 3 = .ok (.iadd, 1) := by decide +kernel
theorem d_Sh_withNumber_4 : decode c_Sh_withNumber 4 = .ok (.invokestatic 132, 3) := by decide +kernel
theorem d_Sh_withNumber_7 : decode c_Sh_withNumber 7 = .ok (.ishl, 1) := by decide +kernel
theorem d_Sh_withNumber_8 : decode c_Sh_withNumber 8 = .ok (.ireturn, 1) := by decide +kernel
theorem d_Sh_pick_0 : decode c_Sh_pick 0 = .ok (.iload_n 1, 1) := by decide +kernel
theorem d_Sh_pick_1 : decode c_Sh_pick 1 = .ok (.invokestatic 63, 3) := by decide +kernel
theorem d_Sh_pick_4 : decode c_Sh_pick 4 = .ok (.aload_n 0, 1) := by decide +kernel
theorem d_Sh_pick_5 : decode c_Sh_pick 5 = .ok (.iload_n 2, 1) := by decide +kernel
theorem d_Sh_pick_6 : decode c_Sh_pick 6 = .ok (.invokevirtual 24, 3) := by decide +kernel
theorem d_Sh_pick_9 : decode c_Sh_pick 9 = .ok (.astore 5, 2) := by decide +kernel
theorem d_Sh_pick_11 : decode c_Sh_pick 11 = .ok (.iload_n 3, 1) := by decide +kernel
theorem d_Sh_pick_12 : decode c_Sh_pick 12 = .ok (.ifCond .lt 16, 3) := by decide +kernel
theorem d_Sh_pick_15 : decode c_Sh_pick 15 = .ok (.iload_n 3, 1) := by decide +kernel
theorem d_Sh_pick_16 : decode c_Sh_pick 16 = .ok (.aload 5, 2) := by decide +kernel
theorem d_Sh_pick_18 : decode c_Sh_pick 18 = .ok (.getfield 40, 3) := by decide +kernel
theorem d_Sh_pick_21 : decode c_Sh_pick 21 = .ok (.if_icmp .ge 7, 3) := by decide +kernel
theorem d_Sh_pick_24 : decode c_Sh_pick 24 = .ok (.iconst 1, 1) := by decide +kernel
theorem d_Sh_pick_25 : decode c_Sh_pick 25 = .ok (.goto 4, 3) := by decide +kernel
theorem d_Sh_pick_28 : decode c_Sh_pick 28 = .ok (.iconst 0, 1) := by decide +kernel
theorem d_Sh_pick_29 : decode c_Sh_pick 29 = .ok (.invokestatic 28, 3) := by decide +kernel
theorem d_Sh_pick_32 : decode c_Sh_pick 32 = .ok (.iload 4, 2) := by decide +kernel
theorem d_Sh_pick_34 : decode c_Sh_pick 34 = .ok (.ifCond .lt 14, 3) := by decide +kernel
theorem d_Sh_pick_37 : decode c_Sh_pick 37 = .ok (.iload 4, 2) := by decide +kernel
theorem d_Sh_pick_39 : decode c_Sh_pick 39 = .ok (.bipush 16, 2) := by decide +kernel
theorem d_Sh_pick_41 : decode c_Sh_pick 41 = .ok (.if_icmp .ge 7, 3) := by decide +kernel
theorem d_Sh_pick_44 : decode c_Sh_pick 44 = .ok (.iconst 1, 1) := by decide +kernel
theorem d_Sh_pick_45 : decode c_Sh_pick 45 = .ok (.goto 4, 3) := by decide +kernel
theorem d_Sh_pick_48 : decode c_Sh_pick 48 = .ok (.iconst 0, 1) := by decide +kernel
theorem d_Sh_pick_49 : decode c_Sh_pick 49 = .ok (.invokestatic 28, 3) := by decide +kernel
theorem d_Sh_pick_52 : decode c_Sh_pick 52 = .ok (.aload_n 0, 1) := by decide +kernel
theorem d_Sh_pick_53 : decode c_Sh_pick 53 = .ok (.getfield 16, 3) := by decide +kernel
theorem d_Sh_pick_56 : decode c_Sh_pick 56 = .ok (.aload 5, 2) := by decide +kernel
theorem d_Sh_pick_58 : decode c_Sh_pick 58 = .ok (.getfield 40, 3) := by decide +kernel
theorem d_Sh_pick_61 : decode c_Sh_pick 61 = .ok (.invokevirtual 36, 3) := by decide +kernel
theorem d_Sh_pick_64 : decode c_Sh_pick 64 = .ok (.iconst 0, 1) := by decide +kernel
theorem d_Sh_pick_65 : decode c_Sh_pick 65 = .ok (.istore 6, 2) := by decide +kernel
theorem d_Sh_pick_67 : decode c_Sh_pick 67 = .ok (.iload 6, 2) := by decide +kernel
theorem d_Sh_pick_69 : decode c_Sh_pick 69 = .ok (.aload 5, 2) := by decide +kernel
theorem d_Sh_pick_71 : decode c_Sh_pick 71 = .ok (.getfield 32, 3) := by decide +kernel
theorem d_Sh_pick_74 : decode c_Sh_pick 74 = .ok (.if_icmp .ge 50, 3) := by decide +kernel
theorem d_Sh_pick_77 : decode c_Sh_pick 77 = .ok (.aload 5, 2) := by decide +kernel
theorem d_Sh_pick_79 : decode c_Sh_pick 79 = .ok (.getfield 60, 3) := by decide +kernel
theorem d_Sh_pick_82 : decode c_Sh_pick 82 = .ok (.iload 6, 2) := by decide +kernel
theorem d_Sh_pick_84 : decode c_Sh_pick 84 = .ok (.iaload, 1) := by decide +kernel
theorem d_Sh_pick_85 : decode c_Sh_pick 85 = .ok (.iload_n 3, 1) := by decide +kernel
theorem d_Sh_pick_86 : decode c_Sh_pick 86 = .ok (.invokestatic 85, 3) := by decide +kernel
theorem d_Sh_pick_89 : decode c_Sh_pick 89 = .ok (.iload 4, 2) := by decide +kernel
theorem d_Sh_pick_91 : decode c_Sh_pick 91 = .ok (.if_icmp .ne 27, 3) := by decide +kernel
theorem d_Sh_pick_94 : decode c_Sh_pick 94 = .ok (.aload_n 0, 1) := by decide +kernel
theorem d_Sh_pick_95 : decode c_Sh_pick 95 = .ok (.getfield 16, 3) := by decide +kernel
theorem d_Sh_pick_98 : decode c_Sh_pick 98 = .ok (.aload 5, 2) := by decide +kernel
theorem d_Sh_pick_100 : decode c_Sh_pick 100 = .ok (.getfield 60, 3) := by decide +kernel
theorem d_Sh_pick_103 : decode c_Sh_pick 103 = .ok (.iload 6, 2) := by decide +kernel
theorem d_Sh_pick_105 : decode c_Sh_pick 105 = .ok (.iaload, 1) := by decide +kernel
theorem d_Sh_pick_106 : decode c_Sh_pick 106 = .ok (.aload 5, 2) := by decide +kernel
theorem d_Sh_pick_108 : decode c_Sh_pick 108 = .ok (.getfield 82, 3) := by decide +kernel
theorem d_Sh_pick_111 : decode c_Sh_pick 111 = .ok (.iload 6, 2) := by decide +kernel
theorem d_Sh_pick_113 : decode c_Sh_pick 113 = .ok (.iaload, 1) := by decide +kernel
theorem d_Sh_pick_114 : decode c_Sh_pick 114 = .ok (.invokevirtual 47, 3) := by decide +kernel
theorem d_Sh_pick_117 : decode c_Sh_pick 117 = .ok (.pop, 1) := by decide +kernel
theorem d_Sh_pick_118 : decode c_Sh_pick 118 = .ok (.iinc 6 1, 3) := by decide +kernel
theorem d_Sh_pick_121 : decode c_Sh_pick 121 = .ok (.goto (-54), 3) := by decide +kernel
theorem d_Sh_pick_124 : decode c_Sh_pick 124 = .ok (.aload_n 0, 1) := by decide +kernel
theorem d_Sh_pick_125 : decode c_Sh_pick 125 = .ok (.iload_n 1, 1) := by decide +kernel
theorem d_Sh_pick_126 : decode c_Sh_pick 126 = .ok (.invokevirtual 70, 3) := by decide +kernel
theorem d_Sh_pick_129 : decode c_Sh_pick 129 = .ok (.ireturn, 1) := by decide +kernel
theorem d_Sh_alter_0 : decode c_Sh_alter 0 = .ok (.iload_n 1, 1) := by decide +kernel
theorem d_Sh_alter_1 : decode c_Sh_alter 1 = .ok (.invokestatic 63, 3) := by decide +kernel
theorem d_Sh_alter_4 : decode c_Sh_alter 4 = .ok (.aload_n 0, 1) := by decide +kernel
theorem d_Sh_alter_5 : decode c_Sh_alter 5 = .ok (.iload_n 3, 1) := by decide +kernel
theorem d_Sh_alter_6 : decode c_Sh_alter 6 = .ok (.invokevirtual 24, 3) := by decide +kernel
theorem d_Sh_alter_9 : decode c_Sh_alter 9 = .ok (.astore 5, 2) := by decide +kernel
theorem d_Sh_alter_11 : decode c_Sh_alter 11 = .ok (.aload_n 0, 1) := by decide +kernel
theorem d_Sh_alter_12 : decode c_Sh_alter 12 = .ok (.iload 4, 2) := by decide +kernel
theorem d_Sh_alter_14 : decode c_Sh_alter 14 = .ok (.invokevirtual 24, 3) := by decide +kernel
theorem d_Sh_alter_17 : decode c_Sh_alter 17 = .ok (.astore 6, 2) := by decide +kernel
theorem d_Sh_alter_19 : decode c_Sh_alter 19 = .ok (.iload_n 2, 1) := by decide +kernel
theorem d_Sh_alter_20 : decode c_Sh_alter 20 = .ok (.ifCond .lt 12, 3) := by decide +kernel
theorem d_Sh_alter_23 : decode c_Sh_alter 23 = .ok (.iload_n 2, 1) := by decide +kernel
theorem d_Sh_alter_24 : decode c_Sh_alter 24 = .ok (.iconst 5, 1) := by decide +kernel
theorem d_Sh_alter_25 : decode c_Sh_alter 25 = .ok (.if_icmp .gt 7, 3) := by decide +kernel
theorem d_Sh_alter_28 : decode c_Sh_alter 28 = .ok (.iconst 1, 1) := by decide +kernel
theorem d_Sh_alter_29 : decode c_Sh_alter 29 = .ok (.goto 4, 3) := by decide +kernel
theorem d_Sh_alter_32 : decode c_Sh_alter 32 = .ok (.iconst 0, 1) := by decide +kernel
theorem d_Sh_alter_33 : decode c_Sh_alter 33 = .ok (.invokestatic 28, 3) := by decide +kernel
theorem d_Sh_alter_36 : decode c_Sh_alter 36 = .ok (.aload 5, 2) := by decide +kernel
theorem d_Sh_alter_38 : decode c_Sh_alter 38 = .ok (.getfield 40, 3) := by decide +kernel
theorem d_Sh_alter_41 : decode c_Sh_alter 41 = .ok (.aload 6, 2) := by decide +kernel
theorem d_Sh_alter_43 : decode c_Sh_alter 43 = .ok (.getfield 40, 3) := by decide +kernel
theorem d_Sh_alter_46 : decode c_Sh_alter 46 = .ok (.if_icmp .ne 7, 3) := by decide +kernel
theorem d_Sh_alter_49 : decode c_Sh_alter 49 = .ok (.iconst 1, 1) := by decide +kernel
theorem d_Sh_alter_50 : decode c_Sh_alter 50 = .ok (.goto 4, 3) := by decide +kernel
theorem d_Sh_alter_53 : decode c_Sh_alter 53 = .ok (.iconst 0, 1) := by decide +kernel
theorem d_Sh_alter_54 : decode c_Sh_alter 54 = .ok (.invokestatic 28, 3) := by decide +kernel
theorem d_Sh_alter_57 : decode c_Sh_alter 57 = .ok (.aload_n 0, 1) := by decide +kernel
theorem d_Sh_alter_58 : decode c_Sh_alter 58 = .ok (.getfield 16, 3) := by decide +kernel
theorem d_Sh_alter_61 : decode c_Sh_alter 61 = .ok (.aload 5, 2) := by decide +kernel
theorem d_Sh_alter_63 : decode c_Sh_alter 63 = .ok (.getfield 40, 3) := by decide +kernel
theorem d_Sh_alter_66 : decode c_Sh_alter 66 = .ok (.invokevirtual 36, 3) := by decide +kernel
theorem d_Sh_alter_69 : decode c_Sh_alter 69 = .ok (.iconst 1, 1) := by decide +kernel
theorem d_Sh_alter_70 : decode c_Sh_alter 70 = .ok (.istore 7, 2) := by decide +kernel
theorem d_Sh_alter_72 : decode c_Sh_alter 72 = .ok (.iconst 0, 1) := by decide +kernel
theorem d_Sh_alter_73 : decode c_Sh_alter 73 = .ok (.istore 8, 2) := by decide +kernel
theorem d_Sh_alter_75 : decode c_Sh_alter 75 = .ok (.iload 8, 2) := by decide +kernel
theorem d_Sh_alter_77 : decode c_Sh_alter 77 = .ok (.aload 5, 2) := by decide +kernel
theorem d_Sh_alter_79 : decode c_Sh_alter 79 = .ok (.getfield 32, 3) := by decide +kernel
theorem d_Sh_alter_82 : decode c_Sh_alter 82 = .ok (.if_icmp .ge 54, 3) := by decide +kernel
theorem d_Sh_alter_85 : decode c_Sh_alter 85 = .ok (.iload 7, 2) := by decide +kernel
theorem d_Sh_alter_87 : decode c_Sh_alter 87 = .ok (.ifCond .eq 49, 3) := by decide +kernel
theorem d_Sh_alter_90 : decode c_Sh_alter 90 = .ok (.aload 5, 2) := by decide +kernel
theorem d_Sh_alter_92 : decode c_Sh_alter 92 = .ok (.getfield 60, 3) := by decide +kernel
theorem d_Sh_alter_95 : decode c_Sh_alter 95 = .ok (.iload 8, 2) := by decide +kernel
theorem d_Sh_alter_97 : decode c_Sh_alter 97 = .ok (.iaload, 1) := by decide +kernel
theorem d_Sh_alter_98 : decode c_Sh_alter 98 = .ok (.istore 9, 2) := by decide +kernel
theorem d_Sh_alter_100 : decode c_Sh_alter 100 = .ok (.aload_n 0, 1) := by decide +kernel
theorem d_Sh_alter_101 : decode c_Sh_alter 101 = .ok (.getfield 16, 3) := by decide +kernel
theorem d_Sh_alter_104 : decode c_Sh_alter 104 = .ok (.iload 9, 2) := by decide +kernel
theorem d_Sh_alter_106 : decode c_Sh_alter 106 = .ok (.iload_n 2, 1) := by decide +kernel
theorem d_Sh_alter_107 : decode c_Sh_alter 107 = .ok (.aload 5, 2) := by decide +kernel
theorem d_Sh_alter_109 : decode c_Sh_alter 109 = .ok (.getfield 82, 3) := by decide +kernel
theorem d_Sh_alter_112 : decode c_Sh_alter 112 = .ok (.iload 8, 2) := by decide +kernel
theorem d_Sh_alter_114 : decode c_Sh_alter 114 = .ok (.iaload, 1) := by decide +kernel
theorem d_Sh_alter_115 : decode c_Sh_alter 115 = .ok (.aload 6, 2) := by decide +kernel
theorem d_Sh_alter_117 : decode c_Sh_alter 117 = .ok (.iload 9, 2) := by decide +kernel
theorem d_Sh_alter_119 : decode c_Sh_alter 119 = .ok (.invokevirtual 53, 3) := by decide +kernel
theorem d_Sh_alter_122 : decode c_Sh_alter 122 = .ok (.invokestatic 88, 3) := by decide +kernel
theorem d_Sh_alter_125 : decode c_Sh_alter 125 = .ok (.invokevirtual 47, 3) := by decide +kernel
theorem d_Sh_alter_128 : decode c_Sh_alter 128 = .ok (.istore 7, 2) := by decide +kernel
theorem d_Sh_alter_130 : decode c_Sh_alter 130 = .ok (.iinc 8 1, 3) := by decide +kernel
theorem d_Sh_alter_133 : decode c_Sh_alter 133 = .ok (.goto (-58), 3) := by decide +kernel
theorem d_Sh_alter_136 : decode c_Sh_alter 136 = .ok (.iconst 0, 1) := by decide +kernel
theorem d_Sh_alter_137 : decode c_Sh_alter 137 = .ok (.istore 8, 2) := by decide +kernel
theorem d_Sh_alter_139 : decode c_Sh_alter 139 = .ok (.iload 8, 2) := by decide +kernel
theorem d_Sh_alter_141 : decode c_Sh_alter 141 = .ok (.aload 6, 2) := by decide +kernel
theorem d_Sh_alter_143 : decode c_Sh_alter 143 = .ok (.getfield 32, 3) := by decide +kernel
theorem d_Sh_alter_146 : decode c_Sh_alter 146 = .ok (.if_icmp .ge 58, 3) := by decide +kernel
theorem d_Sh_alter_149 : decode c_Sh_alter 149 = .ok (.iload 7, 2) := by decide +kernel
theorem d_Sh_alter_151 : decode c_Sh_alter 151 = .ok (.ifCond .eq 53, 3) := by decide +kernel
theorem d_Sh_alter_154 : decode c_Sh_alter 154 = .ok (.aload 6, 2) := by decide +kernel
theorem d_Sh_alter_156 : decode c_Sh_alter 156 = .ok (.getfield 60, 3) := by decide +kernel
theorem d_Sh_alter_159 : decode c_Sh_alter 159 = .ok (.iload 8, 2) := by decide +kernel
theorem d_Sh_alter_161 : decode c_Sh_alter 161 = .ok (.iaload, 1) := by decide +kernel
theorem d_Sh_alter_162 : decode c_Sh_alter 162 = .ok (.istore 9, 2) := by decide +kernel
theorem d_Sh_alter_164 : decode c_Sh_alter 164 = .ok (.aload 5, 2) := by decide +kernel
theorem d_Sh_alter_166 : decode c_Sh_alter 166 = .ok (.iload 9, 2) := by decide +kernel
theorem d_Sh_alter_168 : decode c_Sh_alter 168 = .ok (.invokevirtual 53, 3) := by decide +kernel
theorem d_Sh_alter_171 : decode c_Sh_alter 171 = .ok (.ifCond .ne 27, 3) := by decide +kernel
theorem d_Sh_alter_174 : decode c_Sh_alter 174 = .ok (.aload_n 0, 1) := by decide +kernel
theorem d_Sh_alter_175 : decode c_Sh_alter 175 = .ok (.getfield 16, 3) := by decide +kernel
theorem d_Sh_alter_178 : decode c_Sh_alter 178 = .ok (.iload 9, 2) := by decide +kernel
theorem d_Sh_alter_180 : decode c_Sh_alter 180 = .ok (.iload_n 2, 1) := by decide +kernel
theorem d_Sh_alter_181 : decode c_Sh_alter 181 = .ok (.iconst 0, 1) := by decide +kernel
theorem d_Sh_alter_182 : decode c_Sh_alter 182 = .ok (.aload 6, 2) := by decide +kernel
theorem d_Sh_alter_184 : decode c_Sh_alter 184 = .ok (.getfield 82, 3) := by decide +kernel
theorem d_Sh_alter_187 : decode c_Sh_alter 187 = .ok (.iload 8, 2) := by decide +kernel
theorem d_Sh_alter_189 : decode c_Sh_alter 189 = .ok (.iaload, 1) := by decide +kernel
theorem d_Sh_alter_190 : decode c_Sh_alter 190 = .ok (.invokestatic 88, 3) := by decide +kernel
theorem d_Sh_alter_193 : decode c_Sh_alter 193 = .ok (.invokevirtual 47, 3) := by decide +kernel
theorem d_Sh_alter_196 : decode c_Sh_alter 196 = .ok (.istore 7, 2) := by decide +kernel
theorem d_Sh_alter_198 : decode c_Sh_alter 198 = .ok (.iinc 8 1, 3) := by decide +kernel
theorem d_Sh_alter_201 : decode c_Sh_alter 201 = .ok (.goto (-62), 3) := by decide +kernel
theorem d_Sh_alter_204 : decode c_Sh_alter 204 = .ok (.iload 7, 2) := by decide +kernel
theorem d_Sh_alter_206 : decode c_Sh_alter 206 = .ok (.invokestatic 50, 3) := by decide +kernel
theorem d_Sh_alter_209 : decode c_Sh_alter 209 = .ok (.aload_n 0, 1) := by decide +kernel
theorem d_Sh_alter_210 : decode c_Sh_alter 210 = .ok (.iload_n 1, 1) := by decide +kernel
theorem d_Sh_alter_211 : decode c_Sh_alter 211 = .ok (.invokevirtual 70, 3) := by decide +kernel
theorem d_Sh_alter_214 : decode c_Sh_alter 214 = .ok (.ireturn, 1) := by decide +kernel
theorem d_Sh_altered_0 : decode c_Sh_altered 0 = .ok (.iload_n 0, 1) := by decide +kernel
theorem d_Sh_altered_1 : decode c_Sh_altered 1 = .ok (.tableswitch 77 0 4 #[35, 39, 43, 53, 63], 35) := by decide +kernel
theorem d_Sh_altered_36 : decode c_Sh_altered 36 = .ok (.iload_n 1, 1) := by decide +kernel
theorem d_Sh_altered_37 : decode c_Sh_altered 37 = .ok (.iload_n 2, 1) := by decide +kernel
theorem d_Sh_altered_38 : decode c_Sh_altered 38 = .ok (.iadd, 1) := by decide +kernel
theorem d_Sh_altered_39 : decode c_Sh_altered 39 = .ok (.ireturn, 1) := by decide +kernel
theorem d_Sh_altered_40 : decode c_Sh_altered 40 = .ok (.iload_n 1, 1) := by decide +kernel
theorem d_Sh_altered_41 : decode c_Sh_altered 41 = .ok (.iload_n 2, 1) := by decide +kernel
theorem d_Sh_altered_42 : decode c_Sh_altered 42 = .ok (.isub, 1) := by decide +kernel
theorem d_Sh_altered_43 : decode c_Sh_altered 43 = .ok (.ireturn, 1) := by decide +kernel
theorem d_Sh_altered_44 : decode c_Sh_altered 44 = .ok (.iload_n 2, 1) := by decide +kernel
theorem d_Sh_altered_45 : decode c_Sh_altered 45 = .ok (.ifCond .eq 7, 3) := by decide +kernel
theorem d_Sh_altered_48 : decode c_Sh_altered 48 = .ok (.iload_n 1, 1) := by decide +kernel
theorem d_Sh_altered_49 : decode c_Sh_altered 49 = .ok (.goto 4, 3) := by decide +kernel
theorem d_Sh_altered_52 : decode c_Sh_altered 52 = .ok (.iconst 0, 1) := by decide +kernel
theorem d_Sh_altered_53 : decode c_Sh_altered 53 = .ok (.ireturn, 1) := by decide +kernel
theorem d_Sh_altered_54 : decode c_Sh_altered 54 = .ok (.iload_n 2, 1) := by decide +kernel
theorem d_Sh_altered_55 : decode c_Sh_altered 55 = .ok (.ifCond .ne 7, 3) := by decide +kernel
theorem d_Sh_altered_58 : decode c_Sh_altered 58 = .ok (.iload_n 1, 1) := by decide +kernel
theorem d_Sh_altered_59 : decode c_Sh_altered 59 = .ok (.goto 4, 3) := by decide +kernel
theorem d_Sh_altered_62 : decode c_Sh_altered 62 = .ok (.iconst 0, 1) := by decide +kernel
theorem d_Sh_altered_63 : decode c_Sh_altered 63 = .ok (.ireturn, 1) := by decide +kernel
theorem d_Sh_altered_64 : decode c_Sh_altered 64 = .ok (.iload_n 1, 1) := by decide +kernel
theorem d_Sh_altered_65 : decode c_Sh_altered 65 = .ok (.ifCond .ne 7, 3) := by decide +kernel
theorem d_Sh_altered_68 : decode c_Sh_altered 68 = .ok (.iload_n 2, 1) := by decide +kernel
theorem d_Sh_altered_69 : decode c_Sh_altered 69 = .ok (.ifCond .eq 7, 3) := by decide +kernel
theorem d_Sh_altered_72 : decode c_Sh_altered 72 = .ok (.iconst 1, 1) := by decide +kernel
theorem d_Sh_altered_73 : decode c_Sh_altered 73 = .ok (.goto 4, 3) := by decide +kernel
theorem d_Sh_altered_76 : decode c_Sh_altered 76 = .ok (.iconst 0, 1) := by decide +kernel
theorem d_Sh_altered_77 : decode c_Sh_altered 77 = .ok (.ireturn, 1) := by decide +kernel
theorem d_Sh_altered_78 : decode c_Sh_altered 78 = .ok (.iload_n 1, 1) := by decide +kernel
theorem d_Sh_altered_79 : decode c_Sh_altered 79 = .ok (.ifCond .eq 15, 3) := by decide +kernel
theorem d_Sh_altered_82 : decode c_Sh_altered 82 = .ok (.iload_n 2, 1) := by decide +kernel
theorem d_Sh_altered_83 : decode c_Sh_altered 83 = .ok (.ifCond .eq 11, 3) := by decide +kernel
theorem d_Sh_altered_86 : decode c_Sh_altered 86 = .ok (.iload_n 1, 1) := by decide +kernel
theorem d_Sh_altered_87 : decode c_Sh_altered 87 = .ok (.iload_n 2, 1) := by decide +kernel
theorem d_Sh_altered_88 : decode c_Sh_altered 88 = .ok (.invokestatic 138, 3) := by decide +kernel
theorem d_Sh_altered_91 : decode c_Sh_altered 91 = .ok (.goto 4, 3) := by decide +kernel
theorem d_Sh_altered_94 : decode c_Sh_altered 94 = .ok (.iconst 0, 1) := by decide +kernel
theorem d_Sh_altered_95 : decode c_Sh_altered 95 = .ok (.ireturn, 1) := by decide +kernel
theorem d_Sh_reach_0 : decode c_Sh_reach 0 = .ok (.iload_n 1, 1) := by decide +kernel
theorem d_Sh_reach_1 : decode c_Sh_reach 1 = .ok (.invokestatic 63, 3) := by decide +kernel
theorem d_Sh_reach_4 : decode c_Sh_reach 4 = .ok (.aload_n 0, 1) := by decide +kernel
theorem d_Sh_reach_5 : decode c_Sh_reach 5 = .ok (.iload_n 2, 1) := by decide +kernel
theorem d_Sh_reach_6 : decode c_Sh_reach 6 = .ok (.invokevirtual 24, 3) := by decide +kernel
theorem d_Sh_reach_9 : decode c_Sh_reach 9 = .ok (.astore_n 3, 1) := by decide +kernel
theorem d_Sh_reach_10 : decode c_Sh_reach 10 = .ok (.aload_n 3, 1) := by decide +kernel
theorem d_Sh_reach_11 : decode c_Sh_reach 11 = .ok (.getfield 40, 3) := by decide +kernel
theorem d_Sh_reach_14 : decode c_Sh_reach 14 = .ok (.iconst 2, 1) := by decide +kernel
theorem d_Sh_reach_15 : decode c_Sh_reach 15 = .ok (.if_icmp .ne 7, 3) := by decide +kernel
theorem d_Sh_reach_18 : decode c_Sh_reach 18 = .ok (.iconst 1, 1) := by decide +kernel
theorem d_Sh_reach_19 : decode c_Sh_reach 19 = .ok (.goto 4, 3) := by decide +kernel
theorem d_Sh_reach_22 : decode c_Sh_reach 22 = .ok (.iconst 0, 1) := by decide +kernel
theorem d_Sh_reach_23 : decode c_Sh_reach 23 = .ok (.invokestatic 28, 3) := by decide +kernel
theorem d_Sh_reach_26 : decode c_Sh_reach 26 = .ok (.aload_n 0, 1) := by decide +kernel
theorem d_Sh_reach_27 : decode c_Sh_reach 27 = .ok (.aload_n 3, 1) := by decide +kernel
theorem d_Sh_reach_28 : decode c_Sh_reach 28 = .ok (.invokevirtual 92, 3) := by decide +kernel
theorem d_Sh_reach_31 : decode c_Sh_reach 31 = .ok (.aload_n 0, 1) := by decide +kernel
theorem d_Sh_reach_32 : decode c_Sh_reach 32 = .ok (.invokevirtual 96, 3) := by decide +kernel
theorem d_Sh_reach_35 : decode c_Sh_reach 35 = .ok (.aload_n 0, 1) := by decide +kernel
theorem d_Sh_reach_36 : decode c_Sh_reach 36 = .ok (.getfield 16, 3) := by decide +kernel
theorem d_Sh_reach_39 : decode c_Sh_reach 39 = .ok (.iconst 2, 1) := by decide +kernel
theorem d_Sh_reach_40 : decode c_Sh_reach 40 = .ok (.invokevirtual 36, 3) := by decide +kernel
theorem d_Sh_reach_43 : decode c_Sh_reach 43 = .ok (.iconst 0, 1) := by decide +kernel
theorem d_Sh_reach_44 : decode c_Sh_reach 44 = .ok (.istore 4, 2) := by decide +kernel
theorem d_Sh_reach_46 : decode c_Sh_reach 46 = .ok (.iload 4, 2) := by decide +kernel
theorem d_Sh_reach_48 : decode c_Sh_reach 48 = .ok (.bipush 16, 2) := by decide +kernel
theorem d_Sh_reach_50 : decode c_Sh_reach 50 = .ok (.if_icmp .ge 58, 3) := by decide +kernel
theorem d_Sh_reach_53 : decode c_Sh_reach 53 = .ok (.iconst 0, 1) := by decide +kernel
theorem d_Sh_reach_54 : decode c_Sh_reach 54 = .ok (.istore 5, 2) := by decide +kernel
theorem d_Sh_reach_56 : decode c_Sh_reach 56 = .ok (.iload 5, 2) := by decide +kernel
theorem d_Sh_reach_58 : decode c_Sh_reach 58 = .ok (.bipush 16, 2) := by decide +kernel
theorem d_Sh_reach_60 : decode c_Sh_reach 60 = .ok (.if_icmp .ge 42, 3) := by decide +kernel
theorem d_Sh_reach_63 : decode c_Sh_reach 63 = .ok (.aload_n 0, 1) := by decide +kernel
theorem d_Sh_reach_64 : decode c_Sh_reach 64 = .ok (.iload 4, 2) := by decide +kernel
theorem d_Sh_reach_66 : decode c_Sh_reach 66 = .ok (.iload 5, 2) := by decide +kernel
theorem d_Sh_reach_68 : decode c_Sh_reach 68 = .ok (.invokevirtual 99, 3) := by decide +kernel
theorem d_Sh_reach_71 : decode c_Sh_reach 71 = .ok (.ifCond .eq 25, 3) := by decide +kernel
theorem d_Sh_reach_74 : decode c_Sh_reach 74 = .ok (.aload_n 0, 1) := by decide +kernel
theorem d_Sh_reach_75 : decode c_Sh_reach 75 = .ok (.getfield 16, 3) := by decide +kernel
theorem d_Sh_reach_78 : decode c_Sh_reach 78 = .ok (.iload 4, 2) := by decide +kernel
theorem d_Sh_reach_80 : decode c_Sh_reach 80 = .ok (.iconst 0, 1) := by decide +kernel
theorem d_Sh_reach_81 : decode c_Sh_reach 81 = .ok (.invokestatic 102, 3) := by decide +kernel
theorem d_Sh_reach_84 : decode c_Sh_reach 84 = .ok (.iload 5, 2) := by decide +kernel
theorem d_Sh_reach_86 : decode c_Sh_reach 86 = .ok (.iconst 1, 1) := by decide +kernel
theorem d_Sh_reach_87 : decode c_Sh_reach 87 = .ok (.invokestatic 102, 3) := by decide +kernel
theorem d_Sh_reach_90 : decode c_Sh_reach 90 = .ok (.ior, 1) := by decide +kernel
theorem d_Sh_reach_91 : decode c_Sh_reach 91 = .ok (.iconst 1, 1) := by decide +kernel
theorem d_Sh_reach_92 : decode c_Sh_reach 92 = .ok (.invokevirtual 47, 3) := by decide +kernel
theorem d_Sh_reach_95 : decode c_Sh_reach 95 = .ok (.pop, 1) := by decide +kernel
theorem d_Sh_reach_96 : decode c_Sh_reach 96 = .ok (.iinc 5 1, 3) := by decide +kernel
theorem d_Sh_reach_99 : decode c_Sh_reach 99 = .ok (.goto (-43), 3) := by decide +kernel
theorem d_Sh_reach_102 : decode c_Sh_reach 102 = .ok (.iinc 4 1, 3) := by decide +kernel
theorem d_Sh_reach_105 : decode c_Sh_reach 105 = .ok (.goto (-59), 3) := by decide +kernel
theorem d_Sh_reach_108 : decode c_Sh_reach 108 = .ok (.aload_n 0, 1) := by decide +kernel
theorem d_Sh_reach_109 : decode c_Sh_reach 109 = .ok (.iload_n 1, 1) := by decide +kernel
theorem d_Sh_reach_110 : decode c_Sh_reach 110 = .ok (.invokevirtual 70, 3) := by decide +kernel
theorem d_Sh_reach_113 : decode c_Sh_reach 113 = .ok (.ireturn, 1) := by decide +kernel
theorem d_Sh_takeSteps_0 : decode c_Sh_takeSteps 0 = .ok (.iconst 0, 1) := by decide +kernel
theorem d_Sh_takeSteps_1 : decode c_Sh_takeSteps 1 = .ok (.istore_n 2, 1) := by decide +kernel
theorem d_Sh_takeSteps_2 : decode c_Sh_takeSteps 2 = .ok (.iload_n 2, 1) := by decide +kernel
theorem d_Sh_takeSteps_3 : decode c_Sh_takeSteps 3 = .ok (.bipush 16, 2) := by decide +kernel
theorem d_Sh_takeSteps_5 : decode c_Sh_takeSteps 5 = .ok (.if_icmp .ge 16, 3) := by decide +kernel
theorem d_Sh_takeSteps_8 : decode c_Sh_takeSteps 8 = .ok (.aload_n 0, 1) := by decide +kernel
theorem d_Sh_takeSteps_9 : decode c_Sh_takeSteps 9 = .ok (.getfield 20, 3) := by decide +kernel
theorem d_Sh_takeSteps_12 : decode c_Sh_takeSteps 12 = .ok (.iload_n 2, 1) := by decide +kernel
theorem d_Sh_takeSteps_13 : decode c_Sh_takeSteps 13 = .ok (.iconst 0, 1) := by decide +kernel
theorem d_Sh_takeSteps_14 : decode c_Sh_takeSteps 14 = .ok (.iastore, 1) := by decide +kernel
theorem d_Sh_takeSteps_15 : decode c_Sh_takeSteps 15 = .ok (.iinc 2 1, 3) := by decide +kernel
theorem d_Sh_takeSteps_18 : decode c_Sh_takeSteps 18 = .ok (.goto (-16), 3) := by decide +kernel
theorem d_Sh_takeSteps_21 : decode c_Sh_takeSteps 21 = .ok (.iconst 0, 1) := by decide +kernel
theorem d_Sh_takeSteps_22 : decode c_Sh_takeSteps 22 = .ok (.istore_n 2, 1) := by decide +kernel
theorem d_Sh_takeSteps_23 : decode c_Sh_takeSteps 23 = .ok (.iload_n 2, 1) := by decide +kernel
theorem d_Sh_takeSteps_24 : decode c_Sh_takeSteps 24 = .ok (.aload_n 1, 1) := by decide +kernel
theorem d_Sh_takeSteps_25 : decode c_Sh_takeSteps 25 = .ok (.getfield 32, 3) := by decide +kernel
theorem d_Sh_takeSteps_28 : decode c_Sh_takeSteps 28 = .ok (.if_icmp .ge 36, 3) := by decide +kernel
theorem d_Sh_takeSteps_31 : decode c_Sh_takeSteps 31 = .ok (.aload_n 1, 1) := by decide +kernel
theorem d_Sh_takeSteps_32 : decode c_Sh_takeSteps 32 = .ok (.getfield 60, 3) := by decide +kernel
theorem d_Sh_takeSteps_35 : decode c_Sh_takeSteps 35 = .ok (.iload_n 2, 1) := by decide +kernel
theorem d_Sh_takeSteps_36 : decode c_Sh_takeSteps 36 = .ok (.iaload, 1) := by decide +kernel
theorem d_Sh_takeSteps_37 : decode c_Sh_takeSteps 37 = .ok (.istore_n 3, 1) := by decide +kernel
theorem d_Sh_takeSteps_38 : decode c_Sh_takeSteps 38 = .ok (.aload_n 0, 1) := by decide +kernel
theorem d_Sh_takeSteps_39 : decode c_Sh_takeSteps 39 = .ok (.getfield 20, 3) := by decide +kernel
theorem d_Sh_takeSteps_42 : decode c_Sh_takeSteps 42 = .ok (.iload_n 3, 1) := by decide +kernel
theorem d_Sh_takeSteps_43 : decode c_Sh_takeSteps 43 = .ok (.iconst 0, 1) := by decide +kernel
theorem d_Sh_takeSteps_44 : decode c_Sh_takeSteps 44 = .ok (.invokestatic 85, 3) := by decide +kernel
theorem d_Sh_takeSteps_47 : decode c_Sh_takeSteps 47 = .ok (.dup2, 1) := by decide +kernel
theorem d_Sh_takeSteps_48 : decode c_Sh_takeSteps 48 = .ok (.iaload, 1) := by decide +kernel
theorem d_Sh_takeSteps_49 : decode c_Sh_takeSteps 49 = .ok (.iconst 1, 1) := by decide +kernel
theorem d_Sh_takeSteps_50 : decode c_Sh_takeSteps 50 = .ok (.iload_n 3, 1) := by decide +kernel
theorem d_Sh_takeSteps_51 : decode c_Sh_takeSteps 51 = .ok (.iconst 1, 1) := by decide +kernel
theorem d_Sh_takeSteps_52 : decode c_Sh_takeSteps 52 = .ok (.invokestatic 85, 3) := by decide +kernel
theorem d_Sh_takeSteps_55 : decode c_Sh_takeSteps 55 = .ok (.ishl, 1) := by decide +kernel
theorem d_Sh_takeSteps_56 : decode c_Sh_takeSteps 56 = .ok (.ior, 1) := by decide +kernel
theorem d_Sh_takeSteps_57 : decode c_Sh_takeSteps 57 = .ok (.iastore, 1) := by decide +kernel
theorem d_Sh_takeSteps_58 : decode c_Sh_takeSteps 58 = .ok (.iinc 2 1, 3) := by decide +kernel
theorem d_Sh_takeSteps_61 : decode c_Sh_takeSteps 61 = .ok (.goto (-38), 3) := by decide +kernel
theorem d_Sh_takeSteps_64 : decode c_Sh_takeSteps 64 = .ok (.return_, 1) := by decide +kernel
theorem d_Sh_followSteps_0 : decode c_Sh_followSteps 0 = .ok (.iconst 0, 1) := by decide +kernel
theorem d_Sh_followSteps_1 : decode c_Sh_followSteps 1 = .ok (.istore_n 1, 1) := by decide +kernel
theorem d_Sh_followSteps_2 : decode c_Sh_followSteps 2 = .ok (.iload_n 1, 1) := by decide +kernel
theorem d_Sh_followSteps_3 : decode c_Sh_followSteps 3 = .ok (.bipush 16, 2) := by decide +kernel
theorem d_Sh_followSteps_5 : decode c_Sh_followSteps 5 = .ok (.if_icmp .ge 47, 3) := by decide +kernel
theorem d_Sh_followSteps_8 : decode c_Sh_followSteps 8 = .ok (.iconst 0, 1) := by decide +kernel
theorem d_Sh_followSteps_9 : decode c_Sh_followSteps 9 = .ok (.istore_n 2, 1) := by decide +kernel
theorem d_Sh_followSteps_10 : decode c_Sh_followSteps 10 = .ok (.iload_n 2, 1) := by decide +kernel
theorem d_Sh_followSteps_11 : decode c_Sh_followSteps 11 = .ok (.bipush 16, 2) := by decide +kernel
theorem d_Sh_followSteps_13 : decode c_Sh_followSteps 13 = .ok (.if_icmp .ge 33, 3) := by decide +kernel
theorem d_Sh_followSteps_16 : decode c_Sh_followSteps 16 = .ok (.aload_n 0, 1) := by decide +kernel
theorem d_Sh_followSteps_17 : decode c_Sh_followSteps 17 = .ok (.iload_n 2, 1) := by decide +kernel
theorem d_Sh_followSteps_18 : decode c_Sh_followSteps 18 = .ok (.iload_n 1, 1) := by decide +kernel
theorem d_Sh_followSteps_19 : decode c_Sh_followSteps 19 = .ok (.invokevirtual 99, 3) := by decide +kernel
theorem d_Sh_followSteps_22 : decode c_Sh_followSteps 22 = .ok (.ifCond .eq 18, 3) := by decide +kernel
theorem d_Sh_followSteps_25 : decode c_Sh_followSteps 25 = .ok (.aload_n 0, 1) := by decide +kernel
theorem d_Sh_followSteps_26 : decode c_Sh_followSteps 26 = .ok (.getfield 20, 3) := by decide +kernel
theorem d_Sh_followSteps_29 : decode c_Sh_followSteps 29 = .ok (.iload_n 2, 1) := by decide +kernel
theorem d_Sh_followSteps_30 : decode c_Sh_followSteps 30 = .ok (.dup2, 1) := by decide +kernel
theorem d_Sh_followSteps_31 : decode c_Sh_followSteps 31 = .ok (.iaload, 1) := by decide +kernel
theorem d_Sh_followSteps_32 : decode c_Sh_followSteps 32 = .ok (.aload_n 0, 1) := by decide +kernel
theorem d_Sh_followSteps_33 : decode c_Sh_followSteps 33 = .ok (.getfield 20, 3) := by decide +kernel
theorem d_Sh_followSteps_36 : decode c_Sh_followSteps 36 = .ok (.iload_n 1, 1) := by decide +kernel
theorem d_Sh_followSteps_37 : decode c_Sh_followSteps 37 = .ok (.iaload, 1) := by decide +kernel
theorem d_Sh_followSteps_38 : decode c_Sh_followSteps 38 = .ok (.ior, 1) := by decide +kernel
theorem d_Sh_followSteps_39 : decode c_Sh_followSteps 39 = .ok (.iastore, 1) := by decide +kernel
theorem d_Sh_followSteps_40 : decode c_Sh_followSteps 40 = .ok (.iinc 2 1, 3) := by decide +kernel
theorem d_Sh_followSteps_43 : decode c_Sh_followSteps 43 = .ok (.goto (-33), 3) := by decide +kernel
theorem d_Sh_followSteps_46 : decode c_Sh_followSteps 46 = .ok (.iinc 1 1, 3) := by decide +kernel
theorem d_Sh_followSteps_49 : decode c_Sh_followSteps 49 = .ok (.goto (-47), 3) := by decide +kernel
theorem d_Sh_followSteps_52 : decode c_Sh_followSteps 52 = .ok (.return_, 1) := by decide +kernel
theorem d_Sh_isReached_0 : decode c_Sh_isReached 0 = .ok (.aload_n 0, 1) := by decide +kernel
theorem d_Sh_isReached_1 : decode c_Sh_isReached 1 = .ok (.getfield 20, 3) := by decide +kernel
theorem d_Sh_isReached_4 : decode c_Sh_isReached 4 = .ok (.iload_n 1, 1) := by decide +kernel
theorem d_Sh_isReached_5 : decode c_Sh_isReached 5 = .ok (.iaload, 1) := by decide +kernel
theorem d_Sh_isReached_6 : decode c_Sh_isReached 6 = .ok (.iload_n 2, 1) := by decide +kernel
theorem d_Sh_isReached_7 : decode c_Sh_isReached 7 = .ok (.ishr, 1) := by decide +kernel
theorem d_Sh_isReached_8 : decode c_Sh_isReached 8 = .ok (.iconst 1, 1) := by decide +kernel
theorem d_Sh_isReached_9 : decode c_Sh_isReached 9 = .ok (.iand, 1) := by decide +kernel
theorem d_Sh_isReached_10 : decode c_Sh_isReached 10 = .ok (.iconst 1, 1) := by decide +kernel
theorem d_Sh_isReached_11 : decode c_Sh_isReached 11 = .ok (.if_icmp .ne 7, 3) := by decide +kernel
theorem d_Sh_isReached_14 : decode c_Sh_isReached 14 = .ok (.iconst 1, 1) := by decide +kernel
theorem d_Sh_isReached_15 : decode c_Sh_isReached 15 = .ok (.goto 4, 3) := by decide +kernel
theorem d_Sh_isReached_18 : decode c_Sh_isReached 18 = .ok (.iconst 0, 1) := by decide +kernel
theorem d_Sh_isReached_19 : decode c_Sh_isReached 19 = .ok (.ireturn, 1) := by decide +kernel
theorem d_Sh_turn_0 : decode c_Sh_turn 0 = .ok (.iload_n 1, 1) := by decide +kernel
theorem d_Sh_turn_1 : decode c_Sh_turn 1 = .ok (.invokestatic 63, 3) := by decide +kernel
theorem d_Sh_turn_4 : decode c_Sh_turn 4 = .ok (.aload_n 0, 1) := by decide +kernel
theorem d_Sh_turn_5 : decode c_Sh_turn 5 = .ok (.iload_n 2, 1) := by decide +kernel
theorem d_Sh_turn_6 : decode c_Sh_turn 6 = .ok (.invokevirtual 24, 3) := by decide +kernel
theorem d_Sh_turn_9 : decode c_Sh_turn 9 = .ok (.astore_n 3, 1) := by decide +kernel
theorem d_Sh_turn_10 : decode c_Sh_turn 10 = .ok (.aload_n 0, 1) := by decide +kernel
theorem d_Sh_turn_11 : decode c_Sh_turn 11 = .ok (.getfield 16, 3) := by decide +kernel
theorem d_Sh_turn_14 : decode c_Sh_turn 14 = .ok (.aload_n 3, 1) := by decide +kernel
theorem d_Sh_turn_15 : decode c_Sh_turn 15 = .ok (.getfield 40, 3) := by decide +kernel
theorem d_Sh_turn_18 : decode c_Sh_turn 18 = .ok (.invokevirtual 36, 3) := by decide +kernel
theorem d_Sh_turn_21 : decode c_Sh_turn 21 = .ok (.iconst 0, 1) := by decide +kernel
theorem d_Sh_turn_22 : decode c_Sh_turn 22 = .ok (.istore 4, 2) := by decide +kernel
theorem d_Sh_turn_24 : decode c_Sh_turn 24 = .ok (.iload 4, 2) := by decide +kernel
theorem d_Sh_turn_26 : decode c_Sh_turn 26 = .ok (.aload_n 3, 1) := by decide +kernel
theorem d_Sh_turn_27 : decode c_Sh_turn 27 = .ok (.getfield 32, 3) := by decide +kernel
theorem d_Sh_turn_30 : decode c_Sh_turn 30 = .ok (.if_icmp .ge 38, 3) := by decide +kernel
theorem d_Sh_turn_33 : decode c_Sh_turn 33 = .ok (.aload_n 0, 1) := by decide +kernel
theorem d_Sh_turn_34 : decode c_Sh_turn 34 = .ok (.getfield 16, 3) := by decide +kernel
theorem d_Sh_turn_37 : decode c_Sh_turn 37 = .ok (.aload_n 3, 1) := by decide +kernel
theorem d_Sh_turn_38 : decode c_Sh_turn 38 = .ok (.getfield 60, 3) := by decide +kernel
theorem d_Sh_turn_41 : decode c_Sh_turn 41 = .ok (.iload 4, 2) := by decide +kernel
theorem d_Sh_turn_43 : decode c_Sh_turn 43 = .ok (.iaload, 1) := by decide +kernel
theorem d_Sh_turn_44 : decode c_Sh_turn 44 = .ok (.aload_n 3, 1) := by decide +kernel
theorem d_Sh_turn_45 : decode c_Sh_turn 45 = .ok (.getfield 40, 3) := by decide +kernel
theorem d_Sh_turn_48 : decode c_Sh_turn 48 = .ok (.invokestatic 105, 3) := by decide +kernel
theorem d_Sh_turn_51 : decode c_Sh_turn 51 = .ok (.aload_n 3, 1) := by decide +kernel
theorem d_Sh_turn_52 : decode c_Sh_turn 52 = .ok (.getfield 82, 3) := by decide +kernel
theorem d_Sh_turn_55 : decode c_Sh_turn 55 = .ok (.iload 4, 2) := by decide +kernel
theorem d_Sh_turn_57 : decode c_Sh_turn 57 = .ok (.iaload, 1) := by decide +kernel
theorem d_Sh_turn_58 : decode c_Sh_turn 58 = .ok (.invokevirtual 47, 3) := by decide +kernel
theorem d_Sh_turn_61 : decode c_Sh_turn 61 = .ok (.pop, 1) := by decide +kernel
theorem d_Sh_turn_62 : decode c_Sh_turn 62 = .ok (.iinc 4 1, 3) := by decide +kernel
theorem d_Sh_turn_65 : decode c_Sh_turn 65 = .ok (.goto (-41), 3) := by decide +kernel
theorem d_Sh_turn_68 : decode c_Sh_turn 68 = .ok (.aload_n 0, 1) := by decide +kernel
theorem d_Sh_turn_69 : decode c_Sh_turn 69 = .ok (.iload_n 1, 1) := by decide +kernel
theorem d_Sh_turn_70 : decode c_Sh_turn 70 = .ok (.invokevirtual 70, 3) := by decide +kernel
theorem d_Sh_turn_73 : decode c_Sh_turn 73 = .ok (.ireturn, 1) := by decide +kernel
theorem d_Sh_turned_0 : decode c_Sh_turned 0 = .ok (.iconst 0, 1) := by decide +kernel
theorem d_Sh_turned_1 : decode c_Sh_turned 1 = .ok (.istore_n 2, 1) := by decide +kernel
theorem d_Sh_turned_2 : decode c_Sh_turned 2 = .ok (.iconst 0, 1) := by decide +kernel
theorem d_Sh_turned_3 : decode c_Sh_turned 3 = .ok (.istore_n 3, 1) := by decide +kernel
theorem d_Sh_turned_4 : decode c_Sh_turned 4 = .ok (.iload_n 3, 1) := by decide +kernel
theorem d_Sh_turned_5 : decode c_Sh_turned 5 = .ok (.iload_n 1, 1) := by decide +kernel
theorem d_Sh_turned_6 : decode c_Sh_turned 6 = .ok (.if_icmp .ge 25, 3) := by decide +kernel
theorem d_Sh_turned_9 : decode c_Sh_turned 9 = .ok (.iload_n 2, 1) := by decide +kernel
theorem d_Sh_turned_10 : decode c_Sh_turned 10 = .ok (.iload_n 0, 1) := by decide +kernel
theorem d_Sh_turned_11 : decode c_Sh_turned 11 = .ok (.iload_n 3, 1) := by decide +kernel
theorem d_Sh_turned_12 : decode c_Sh_turned 12 = .ok (.invokestatic 85, 3) := by decide +kernel
theorem d_Sh_turned_15 : decode c_Sh_turned 15 = .ok (.iload_n 1, 1) := by decide +kernel
theorem d_Sh_turned_16 : decode c_Sh_turned 16 = .ok (.iconst 1, 1) := by decide +kernel
theorem d_Sh_turned_17 : decode c_Sh_turned 17 = .ok (.isub, 1) := by decide +kernel
theorem d_Sh_turned_18 : decode c_Sh_turned 18 = .ok (.iload_n 3, 1) := by decide +kernel
theorem d_Sh_turned_19 : decode c_Sh_turned 19 = .ok (.isub, 1) := by decide +kernel
theorem d_Sh_turned_20 : decode c_Sh_turned 20 = .ok (.invokestatic 102, 3) := by decide +kernel
theorem d_Sh_turned_23 : decode c_Sh_turned 23 = .ok (.ior, 1) := by decide +kernel
theorem d_Sh_turned_24 : decode c_Sh_turned 24 = .ok (.istore_n 2, 1) := by decide +kernel
theorem d_Sh_turned_25 : decode c_Sh_turned 25 = .ok (.iinc 3 1, 3) := by decide +kernel
theorem d_Sh_turned_28 : decode c_Sh_turned 28 = .ok (.goto (-24), 3) := by decide +kernel
theorem d_Sh_turned_31 : decode c_Sh_turned 31 = .ok (.iload_n 2, 1) := by decide +kernel
theorem d_Sh_turned_32 : decode c_Sh_turned 32 = .ok (.ireturn, 1) := by decide +kernel
theorem d_Sh_about_0 : decode c_Sh_about 0 = .ok (.aload_n 0, 1) := by decide +kernel
theorem d_Sh_about_1 : decode c_Sh_about 1 = .ok (.iload_n 1, 1) := by decide +kernel
theorem d_Sh_about_2 : decode c_Sh_about 2 = .ok (.invokevirtual 24, 3) := by decide +kernel
theorem d_Sh_about_5 : decode c_Sh_about 5 = .ok (.astore_n 3, 1) := by decide +kernel
theorem d_Sh_about_6 : decode c_Sh_about 6 = .ok (.iload_n 2, 1) := by decide +kernel
theorem d_Sh_about_7 : decode c_Sh_about 7 = .ok (.ifCond .lt 12, 3) := by decide +kernel
theorem d_Sh_about_10 : decode c_Sh_about 10 = .ok (.iload_n 2, 1) := by decide +kernel
theorem d_Sh_about_11 : decode c_Sh_about 11 = .ok (.iconst 4, 1) := by decide +kernel
theorem d_Sh_about_12 : decode c_Sh_about 12 = .ok (.if_icmp .gt 7, 3) := by decide +kernel
theorem d_Sh_about_15 : decode c_Sh_about 15 = .ok (.iconst 1, 1) := by decide +kernel
theorem d_Sh_about_16 : decode c_Sh_about 16 = .ok (.goto 4, 3) := by decide +kernel
theorem d_Sh_about_19 : decode c_Sh_about 19 = .ok (.iconst 0, 1) := by decide +kernel
theorem d_Sh_about_20 : decode c_Sh_about 20 = .ok (.invokestatic 28, 3) := by decide +kernel
theorem d_Sh_about_23 : decode c_Sh_about 23 = .ok (.iload_n 2, 1) := by decide +kernel
theorem d_Sh_about_24 : decode c_Sh_about 24 = .ok (.tableswitch 55 0 3 #[32, 38, 44, 50], 32) := by decide +kernel
theorem d_Sh_about_56 : decode c_Sh_about 56 = .ok (.aload_n 3, 1) := by decide +kernel
theorem d_Sh_about_57 : decode c_Sh_about 57 = .ok (.getfield 40, 3) := by decide +kernel
theorem d_Sh_about_60 : decode c_Sh_about 60 = .ok (.i2l, 1) := by decide +kernel
theorem d_Sh_about_61 : decode c_Sh_about 61 = .ok (.lreturn, 1) := by decide +kernel
theorem d_Sh_about_62 : decode c_Sh_about 62 = .ok (.aload_n 3, 1) := by decide +kernel
theorem d_Sh_about_63 : decode c_Sh_about 63 = .ok (.getfield 32, 3) := by decide +kernel
theorem d_Sh_about_66 : decode c_Sh_about 66 = .ok (.i2l, 1) := by decide +kernel
theorem d_Sh_about_67 : decode c_Sh_about 67 = .ok (.lreturn, 1) := by decide +kernel
theorem d_Sh_about_68 : decode c_Sh_about 68 = .ok (.aload_n 3, 1) := by decide +kernel
theorem d_Sh_about_69 : decode c_Sh_about 69 = .ok (.invokevirtual 108, 3) := by decide +kernel
theorem d_Sh_about_72 : decode c_Sh_about 72 = .ok (.i2l, 1) := by decide +kernel
theorem d_Sh_about_73 : decode c_Sh_about 73 = .ok (.lreturn, 1) := by decide +kernel
theorem d_Sh_about_74 : decode c_Sh_about 74 = .ok (.aload_n 3, 1) := by decide +kernel
theorem d_Sh_about_75 : decode c_Sh_about 75 = .ok (.invokevirtual 112, 3) := by decide +kernel
theorem d_Sh_about_78 : decode c_Sh_about 78 = .ok (.lreturn, 1) := by decide +kernel
theorem d_Sh_about_79 : decode c_Sh_about 79 = .ok (.aload_n 3, 1) := by decide +kernel
theorem d_Sh_about_80 : decode c_Sh_about 80 = .ok (.invokevirtual 116, 3) := by decide +kernel
theorem d_Sh_about_83 : decode c_Sh_about 83 = .ok (.i2l, 1) := by decide +kernel
theorem d_Sh_about_84 : decode c_Sh_about 84 = .ok (.lreturn, 1) := by decide +kernel
theorem d_Rel_firstNumbers_0 : decode c_Rel_firstNumbers 0 = .ok (.iconst 0, 1) := by decide +kernel
theorem d_Rel_firstNumbers_1 : decode c_Rel_firstNumbers 1 = .ok (.istore_n 1, 1) := by decide +kernel
theorem d_Rel_firstNumbers_2 : decode c_Rel_firstNumbers 2 = .ok (.iconst 0, 1) := by decide +kernel
theorem d_Rel_firstNumbers_3 : decode c_Rel_firstNumbers 3 = .ok (.istore_n 2, 1) := by decide +kernel
theorem d_Rel_firstNumbers_4 : decode c_Rel_firstNumbers 4 = .ok (.iload_n 2, 1) := by decide +kernel
theorem d_Rel_firstNumbers_5 : decode c_Rel_firstNumbers 5 = .ok (.aload_n 0, 1) := by decide +kernel
theorem d_Rel_firstNumbers_6 : decode c_Rel_firstNumbers 6 = .ok (.getfield 22, 3) := by decide +kernel
theorem d_Rel_firstNumbers_9 : decode c_Rel_firstNumbers 9 = .ok (.if_icmp .ge 24, 3) := by decide +kernel
theorem d_Rel_firstNumbers_12 : decode c_Rel_firstNumbers 12 = .ok (.iload_n 1, 1) := by decide +kernel
theorem d_Rel_firstNumbers_13 : decode c_Rel_firstNumbers 13 = .ok (.iconst 1, 1) := by decide +kernel
theorem d_Rel_firstNumbers_14 : decode c_Rel_firstNumbers 14 = .ok (.aload_n 0, 1) := by decide +kernel
theorem d_Rel_firstNumbers_15 : decode c_Rel_firstNumbers 15 = .ok (.getfield 9, 3) := by decide +kernel
theorem d_Rel_firstNumbers_18 : decode c_Rel_firstNumbers 18 = .ok (.iload_n 2, 1) := by decide +kernel
theorem d_Rel_firstNumbers_19 : decode c_Rel_firstNumbers 19 = .ok (.iaload, 1) := by decide +kernel
theorem d_Rel_firstNumbers_20 : decode c_Rel_firstNumbers 20 = .ok (.iconst 0, 1) := by decide +kernel
theorem d_Rel_firstNumbers_21 : decode c_Rel_firstNumbers 21 = .ok (.invokestatic 41, 3) := by decide +kernel
theorem d_Rel_firstNumbers_24 : decode c_Rel_firstNumbers 24 = .ok (.ishl, 1) := by decide +kernel
theorem d_Rel_firstNumbers_25 : decode c_Rel_firstNumbers 25 = .ok (.ior, 1) := by decide +kernel
theorem d_Rel_firstNumbers_26 : decode c_Rel_firstNumbers 26 = .ok (.istore_n 1, 1) := by decide +kernel
theorem d_Rel_firstNumbers_27 : decode c_Rel_firstNumbers 27 = .ok (.iinc 2 1, 3) := by decide +kernel
theorem d_Rel_firstNumbers_30 : decode c_Rel_firstNumbers 30 = .ok (.goto (-26), 3) := by decide +kernel
theorem d_Rel_firstNumbers_33 : decode c_Rel_firstNumbers 33 = .ok (.iload_n 1, 1) := by decide +kernel
theorem d_Rel_firstNumbers_34 : decode c_Rel_firstNumbers 34 = .ok (.invokestatic 45, 3) := by decide +kernel
theorem d_Rel_firstNumbers_37 : decode c_Rel_firstNumbers 37 = .ok (.ireturn, 1) := by decide +kernel
theorem d_Rel_sum_0 : decode c_Rel_sum 0 = .ok (.lconst 0, 1) := by decide +kernel
theorem d_Rel_sum_1 : decode c_Rel_sum 1 = .ok (.lstore_n 1, 1) := by decide +kernel
theorem d_Rel_sum_2 : decode c_Rel_sum 2 = .ok (.iconst 0, 1) := by decide +kernel
theorem d_Rel_sum_3 : decode c_Rel_sum 3 = .ok (.istore_n 3, 1) := by decide +kernel
theorem d_Rel_sum_4 : decode c_Rel_sum 4 = .ok (.iload_n 3, 1) := by decide +kernel
theorem d_Rel_sum_5 : decode c_Rel_sum 5 = .ok (.aload_n 0, 1) := by decide +kernel
theorem d_Rel_sum_6 : decode c_Rel_sum 6 = .ok (.getfield 22, 3) := by decide +kernel
theorem d_Rel_sum_9 : decode c_Rel_sum 9 = .ok (.if_icmp .ge 19, 3) := by decide +kernel
theorem d_Rel_sum_12 : decode c_Rel_sum 12 = .ok (.lload_n 1, 1) := by decide +kernel
theorem d_Rel_sum_13 : decode c_Rel_sum 13 = .ok (.aload_n 0, 1) := by decide +kernel
theorem d_Rel_sum_14 : decode c_Rel_sum 14 = .ok (.getfield 15, 3) := by decide +kernel
theorem d_Rel_sum_17 : decode c_Rel_sum 17 = .ok (.iload_n 3, 1) := by decide +kernel
theorem d_Rel_sum_18 : decode c_Rel_sum 18 = .ok (.iaload, 1) := by decide +kernel
theorem d_Rel_sum_19 : decode c_Rel_sum 19 = .ok (.i2l, 1) := by decide +kernel
theorem d_Rel_sum_20 : decode c_Rel_sum 20 = .ok (.ladd, 1) := by decide +kernel
theorem d_Rel_sum_21 : decode c_Rel_sum 21 = .ok (.lstore_n 1, 1) := by decide +kernel
theorem d_Rel_sum_22 : decode c_Rel_sum 22 = .ok (.iinc 3 1, 3) := by decide +kernel
theorem d_Rel_sum_25 : decode c_Rel_sum 25 = .ok (.goto (-21), 3) := by decide +kernel
theorem d_Rel_sum_28 : decode c_Rel_sum 28 = .ok (.lload_n 1, 1) := by decide +kernel
theorem d_Rel_sum_29 : decode c_Rel_sum 29 = .ok (.lreturn, 1) := by decide +kernel
theorem d_Rel_greatest_0 : decode c_Rel_greatest 0 = .ok (.aload_n 0, 1) := by decide +kernel
theorem d_Rel_greatest_1 : decode c_Rel_greatest 1 = .ok (.getfield 22, 3) := by decide +kernel
theorem d_Rel_greatest_4 : decode c_Rel_greatest 4 = .ok (.ifCond .ne 5, 3) := by decide +kernel
theorem d_Rel_greatest_7 : decode c_Rel_greatest 7 = .ok (.iconst 0, 1) := by decide +kernel
theorem d_Rel_greatest_8 : decode c_Rel_greatest 8 = .ok (.ireturn, 1) := by decide +kernel
theorem d_Rel_greatest_9 : decode c_Rel_greatest 9 = .ok (.aload_n 0, 1) := by decide +kernel
theorem d_Rel_greatest_10 : decode c_Rel_greatest 10 = .ok (.getfield 15, 3) := by decide +kernel
theorem d_Rel_greatest_13 : decode c_Rel_greatest 13 = .ok (.iconst 0, 1) := by decide +kernel
theorem d_Rel_greatest_14 : decode c_Rel_greatest 14 = .ok (.iaload, 1) := by decide +kernel
theorem d_Rel_greatest_15 : decode c_Rel_greatest 15 = .ok (.istore_n 1, 1) := by decide +kernel
theorem d_Rel_greatest_16 : decode c_Rel_greatest 16 = .ok (.iconst 1, 1) := by decide +kernel
theorem d_Rel_greatest_17 : decode c_Rel_greatest 17 = .ok (.istore_n 2, 1) := by decide +kernel
theorem d_Rel_greatest_18 : decode c_Rel_greatest 18 = .ok (.iload_n 2, 1) := by decide +kernel
theorem d_Rel_greatest_19 : decode c_Rel_greatest 19 = .ok (.aload_n 0, 1) := by decide +kernel
theorem d_Rel_greatest_20 : decode c_Rel_greatest 20 = .ok (.getfield 22, 3) := by decide +kernel
theorem d_Rel_greatest_23 : decode c_Rel_greatest 23 = .ok (.if_icmp .ge 20, 3) := by decide +kernel
theorem d_Rel_greatest_26 : decode c_Rel_greatest 26 = .ok (.iload_n 1, 1) := by decide +kernel
theorem d_Rel_greatest_27 : decode c_Rel_greatest 27 = .ok (.aload_n 0, 1) := by decide +kernel
theorem d_Rel_greatest_28 : decode c_Rel_greatest 28 = .ok (.getfield 15, 3) := by decide +kernel
theorem d_Rel_greatest_31 : decode c_Rel_greatest 31 = .ok (.iload_n 2, 1) := by decide +kernel
theorem d_Rel_greatest_32 : decode c_Rel_greatest 32 = .ok (.iaload, 1) := by decide +kernel
theorem d_Rel_greatest_33 : decode c_Rel_greatest 33 = .ok (.invokestatic 50, 3) := by decide +kernel
theorem d_Rel_greatest_36 : decode c_Rel_greatest 36 = .ok (.istore_n 1, 1) := by decide +kernel
theorem d_Rel_greatest_37 : decode c_Rel_greatest 37 = .ok (.iinc 2 1, 3) := by decide +kernel
theorem d_Rel_greatest_40 : decode c_Rel_greatest 40 = .ok (.goto (-22), 3) := by decide +kernel
theorem d_Rel_greatest_43 : decode c_Rel_greatest 43 = .ok (.iload_n 1, 1) := by decide +kernel
theorem d_Rel_greatest_44 : decode c_Rel_greatest 44 = .ok (.ireturn, 1) := by decide +kernel
theorem d_Sh_same_0 : decode c_Sh_same 0 = .ok (.aload_n 0, 1) := by decide +kernel
theorem d_Sh_same_1 : decode c_Sh_same 1 = .ok (.iload_n 1, 1) := by decide +kernel
theorem d_Sh_same_2 : decode c_Sh_same 2 = .ok (.invokevirtual 24, 3) := by decide +kernel
theorem d_Sh_same_5 : decode c_Sh_same 5 = .ok (.astore_n 3, 1) := by decide +kernel
theorem d_Sh_same_6 : decode c_Sh_same 6 = .ok (.aload_n 0, 1) := by decide +kernel
theorem d_Sh_same_7 : decode c_Sh_same 7 = .ok (.iload_n 2, 1) := by decide +kernel
theorem d_Sh_same_8 : decode c_Sh_same 8 = .ok (.invokevirtual 24, 3) := by decide +kernel
theorem d_Sh_same_11 : decode c_Sh_same 11 = .ok (.astore 4, 2) := by decide +kernel
theorem d_Sh_same_13 : decode c_Sh_same 13 = .ok (.aload_n 3, 1) := by decide +kernel
theorem d_Sh_same_14 : decode c_Sh_same 14 = .ok (.aload 4, 2) := by decide +kernel
theorem d_Sh_same_16 : decode c_Sh_same 16 = .ok (.invokevirtual 119, 3) := by decide +kernel
theorem d_Sh_same_19 : decode c_Sh_same 19 = .ok (.ireturn, 1) := by decide +kernel
theorem d_Rel_holdsWhat_0 : decode c_Rel_holdsWhat 0 = .ok (.aload_n 0, 1) := by decide +kernel
theorem d_Rel_holdsWhat_1 : decode c_Rel_holdsWhat 1 = .ok (.getfield 18, 3) := by decide +kernel
theorem d_Rel_holdsWhat_4 : decode c_Rel_holdsWhat 4 = .ok (.aload_n 1, 1) := by decide +kernel
theorem d_Rel_holdsWhat_5 : decode c_Rel_holdsWhat 5 = .ok (.getfield 18, 3) := by decide +kernel
theorem d_Rel_holdsWhat_8 : decode c_Rel_holdsWhat 8 = .ok (.if_icmp .ne 14, 3) := by decide +kernel
theorem d_Rel_holdsWhat_11 : decode c_Rel_holdsWhat 11 = .ok (.aload_n 0, 1) := by decide +kernel
theorem d_Rel_holdsWhat_12 : decode c_Rel_holdsWhat 12 = .ok (.getfield 22, 3) := by decide +kernel
theorem d_Rel_holdsWhat_15 : decode c_Rel_holdsWhat 15 = .ok (.aload_n 1, 1) := by decide +kernel
theorem d_Rel_holdsWhat_16 : decode c_Rel_holdsWhat 16 = .ok (.getfield 22, 3) := by decide +kernel
theorem d_Rel_holdsWhat_19 : decode c_Rel_holdsWhat 19 = .ok (.if_icmp .eq 5, 3) := by decide +kernel
theorem d_Rel_holdsWhat_22 : decode c_Rel_holdsWhat 22 = .ok (.iconst 0, 1) := by decide +kernel
theorem d_Rel_holdsWhat_23 : decode c_Rel_holdsWhat 23 = .ok (.ireturn, 1) := by decide +kernel
theorem d_Rel_holdsWhat_24 : decode c_Rel_holdsWhat 24 = .ok (.iconst 0, 1) := by decide +kernel
theorem d_Rel_holdsWhat_25 : decode c_Rel_holdsWhat 25 = .ok (.istore_n 2, 1) := by decide +kernel
theorem d_Rel_holdsWhat_26 : decode c_Rel_holdsWhat 26 = .ok (.iload_n 2, 1) := by decide +kernel
theorem d_Rel_holdsWhat_27 : decode c_Rel_holdsWhat 27 = .ok (.aload_n 0, 1) := by decide +kernel
theorem d_Rel_holdsWhat_28 : decode c_Rel_holdsWhat 28 = .ok (.getfield 22, 3) := by decide +kernel
theorem d_Rel_holdsWhat_31 : decode c_Rel_holdsWhat 31 = .ok (.if_icmp .ge 41, 3) := by decide +kernel
theorem d_Rel_holdsWhat_34 : decode c_Rel_holdsWhat 34 = .ok (.aload_n 0, 1) := by decide +kernel
theorem d_Rel_holdsWhat_35 : decode c_Rel_holdsWhat 35 = .ok (.getfield 9, 3) := by decide +kernel
theorem d_Rel_holdsWhat_38 : decode c_Rel_holdsWhat 38 = .ok (.iload_n 2, 1) := by decide +kernel
theorem d_Rel_holdsWhat_39 : decode c_Rel_holdsWhat 39 = .ok (.iaload, 1) := by decide +kernel
theorem d_Rel_holdsWhat_40 : decode c_Rel_holdsWhat 40 = .ok (.aload_n 1, 1) := by decide +kernel
theorem d_Rel_holdsWhat_41 : decode c_Rel_holdsWhat 41 = .ok (.getfield 9, 3) := by decide +kernel
theorem d_Rel_holdsWhat_44 : decode c_Rel_holdsWhat 44 = .ok (.iload_n 2, 1) := by decide +kernel
theorem d_Rel_holdsWhat_45 : decode c_Rel_holdsWhat 45 = .ok (.iaload, 1) := by decide +kernel
theorem d_Rel_holdsWhat_46 : decode c_Rel_holdsWhat 46 = .ok (.if_icmp .ne 18, 3) := by decide +kernel
theorem d_Rel_holdsWhat_49 : decode c_Rel_holdsWhat 49 = .ok (.aload_n 0, 1) := by decide +kernel
theorem d_Rel_holdsWhat_50 : decode c_Rel_holdsWhat 50 = .ok (.getfield 15, 3) := by decide +kernel
theorem d_Rel_holdsWhat_53 : decode c_Rel_holdsWhat 53 = .ok (.iload_n 2, 1) := by decide +kernel
theorem d_Rel_holdsWhat_54 : decode c_Rel_holdsWhat 54 = .ok (.iaload, 1) := by decide +kernel
theorem d_Rel_holdsWhat_55 : decode c_Rel_holdsWhat 55 = .ok (.aload_n 1, 1) := by decide +kernel
theorem d_Rel_holdsWhat_56 : decode c_Rel_holdsWhat 56 = .ok (.getfield 15, 3) := by decide +kernel
theorem d_Rel_holdsWhat_59 : decode c_Rel_holdsWhat 59 = .ok (.iload_n 2, 1) := by decide +kernel
theorem d_Rel_holdsWhat_60 : decode c_Rel_holdsWhat 60 = .ok (.iaload, 1) := by decide +kernel
theorem d_Rel_holdsWhat_61 : decode c_Rel_holdsWhat 61 = .ok (.if_icmp .eq 5, 3) := by decide +kernel
theorem d_Rel_holdsWhat_64 : decode c_Rel_holdsWhat 64 = .ok (.iconst 0, 1) := by decide +kernel
theorem d_Rel_holdsWhat_65 : decode c_Rel_holdsWhat 65 = .ok (.ireturn, 1) := by decide +kernel
theorem d_Rel_holdsWhat_66 : decode c_Rel_holdsWhat 66 = .ok (.iinc 2 1, 3) := by decide +kernel
theorem d_Rel_holdsWhat_69 : decode c_Rel_holdsWhat 69 = .ok (.goto (-43), 3) := by decide +kernel
theorem d_Rel_holdsWhat_72 : decode c_Rel_holdsWhat 72 = .ok (.iconst 1, 1) := by decide +kernel
theorem d_Rel_holdsWhat_73 : decode c_Rel_holdsWhat 73 = .ok (.ireturn, 1) := by decide +kernel
