theorem d_La_width_0 : decode c_La_width 0 = .ok (.aload_n 3, 1) := by decide +kernel
theorem d_La_width_1 : decode c_La_width 1 = .ok (.iconst 0, 1) := by decide +kernel
theorem d_La_width_2 : decode c_La_width 2 = .ok (.aload_n 0, 1) := by decide +kernel
theorem d_La_width_3 : decode c_La_width 3 = .ok (.iload_n 1, 1) := by decide +kernel
theorem d_La_width_4 : decode c_La_width 4 = .ok (.iload_n 2, 1) := by decide +kernel
theorem d_La_width_5 : decode c_La_width 5 = .ok (.invokevirtual 7, 3) := by decide +kernel
theorem d_La_width_8 : decode c_La_width 8 = .ok (.i2l, 1) := by decide +kernel
theorem d_La_width_9 : decode c_La_width 9 = .ok (.lastore, 1) := by decide +kernel
theorem d_La_width_10 : decode c_La_width 10 = .ok (.goto 11, 3) := by decide +kernel
theorem d_La_width_13 : decode c_La_width 13 = .ok (.astore 4, 2) := by decide +kernel
theorem d_La_width_15 : decode c_La_width 15 = .ok (.iconst 1, 1) := by decide +kernel
theorem d_La_width_16 : decode c_La_width 16 = .ok (.ireturn, 1) := by decide +kernel
theorem d_La_width_17 : decode c_La_width 17 = .ok (.astore 4, 2) := by decide +kernel
theorem d_La_width_19 : decode c_La_width 19 = .ok (.iconst 2, 1) := by decide +kernel
theorem d_La_width_20 : decode c_La_width 20 = .ok (.ireturn, 1) := by decide +kernel
theorem d_La_width_21 : decode c_La_width 21 = .ok (.iconst 0, 1) := by decide +kernel
theorem d_La_width_22 : decode c_La_width 22 = .ok (.ireturn, 1) := by decide +kernel
theorem d_La_put_0 : decode c_La_put 0 = .ok (.aload 4, 2) := by decide +kernel
theorem d_La_put_2 : decode c_La_put 2 = .ok (.iconst 0, 1) := by decide +kernel
theorem d_La_put_3 : decode c_La_put 3 = .ok (.aload_n 0, 1) := by decide +kernel
theorem d_La_put_4 : decode c_La_put 4 = .ok (.iload_n 1, 1) := by decide +kernel
theorem d_La_put_5 : decode c_La_put 5 = .ok (.iload_n 2, 1) := by decide +kernel
theorem d_La_put_6 : decode c_La_put 6 = .ok (.iload_n 3, 1) := by decide +kernel
theorem d_La_put_7 : decode c_La_put 7 = .ok (.invokevirtual 17, 3) := by decide +kernel
theorem d_La_put_10 : decode c_La_put 10 = .ok (.i2l, 1) := by decide +kernel
theorem d_La_put_11 : decode c_La_put 11 = .ok (.lastore, 1) := by decide +kernel
theorem d_La_put_12 : decode c_La_put 12 = .ok (.goto 15, 3) := by decide +kernel
theorem d_La_put_15 : decode c_La_put 15 = .ok (.astore 5, 2) := by decide +kernel
theorem d_La_put_17 : decode c_La_put 17 = .ok (.iconst 1, 1) := by decide +kernel
theorem d_La_put_18 : decode c_La_put 18 = .ok (.ireturn, 1) := by decide +kernel
theorem d_La_put_19 : decode c_La_put 19 = .ok (.astore 5, 2) := by decide +kernel
theorem d_La_put_21 : decode c_La_put 21 = .ok (.iconst 2, 1) := by decide +kernel
theorem d_La_put_22 : decode c_La_put 22 = .ok (.ireturn, 1) := by decide +kernel
theorem d_La_put_23 : decode c_La_put 23 = .ok (.astore 5, 2) := by decide +kernel
theorem d_La_put_25 : decode c_La_put 25 = .ok (.iconst 3, 1) := by decide +kernel
theorem d_La_put_26 : decode c_La_put 26 = .ok (.ireturn, 1) := by decide +kernel
theorem d_La_put_27 : decode c_La_put 27 = .ok (.iconst 0, 1) := by decide +kernel
theorem d_La_put_28 : decode c_La_put 28 = .ok (.ireturn, 1) := by decide +kernel
theorem d_La_count_0 : decode c_La_count 0 = .ok (.aload_n 3, 1) := by decide +kernel
theorem d_La_count_1 : decode c_La_count 1 = .ok (.iconst 0, 1) := by decide +kernel
theorem d_La_count_2 : decode c_La_count 2 = .ok (.aload_n 0, 1) := by decide +kernel
theorem d_La_count_3 : decode c_La_count 3 = .ok (.iload_n 1, 1) := by decide +kernel
theorem d_La_count_4 : decode c_La_count 4 = .ok (.iload_n 2, 1) := by decide +kernel
theorem d_La_count_5 : decode c_La_count 5 = .ok (.invokevirtual 23, 3) := by decide +kernel
theorem d_La_count_8 : decode c_La_count 8 = .ok (.i2l, 1) := by decide +kernel
theorem d_La_count_9 : decode c_La_count 9 = .ok (.lastore, 1) := by decide +kernel
theorem d_La_count_10 : decode c_La_count 10 = .ok (.goto 11, 3) := by decide +kernel
theorem d_La_count_13 : decode c_La_count 13 = .ok (.astore 4, 2) := by decide +kernel
theorem d_La_count_15 : decode c_La_count 15 = .ok (.iconst 1, 1) := by decide +kernel
theorem d_La_count_16 : decode c_La_count 16 = .ok (.ireturn, 1) := by decide +kernel
theorem d_La_count_17 : decode c_La_count 17 = .ok (.astore 4, 2) := by decide +kernel
theorem d_La_count_19 : decode c_La_count 19 = .ok (.iconst 2, 1) := by decide +kernel
theorem d_La_count_20 : decode c_La_count 20 = .ok (.ireturn, 1) := by decide +kernel
theorem d_La_count_21 : decode c_La_count 21 = .ok (.iconst 0, 1) := by decide +kernel
theorem d_La_count_22 : decode c_La_count 22 = .ok (.ireturn, 1) := by decide +kernel
theorem d_La_at_0 : decode c_La_at 0 = .ok (.aload_n 3, 1) := by decide +kernel
theorem d_La_at_1 : decode c_La_at 1 = .ok (.iconst 0, 1) := by decide +kernel
theorem d_La_at_2 : decode c_La_at 2 = .ok (.aload_n 0, 1) := by decide +kernel
theorem d_La_at_3 : decode c_La_at 3 = .ok (.iload_n 1, 1) := by decide +kernel
theorem d_La_at_4 : decode c_La_at 4 = .ok (.iload_n 2, 1) := by decide +kernel
theorem d_La_at_5 : decode c_La_at 5 = .ok (.invokevirtual 26, 3) := by decide +kernel
theorem d_La_at_8 : decode c_La_at 8 = .ok (.i2l, 1) := by decide +kernel
theorem d_La_at_9 : decode c_La_at 9 = .ok (.lastore, 1) := by decide +kernel
theorem d_La_at_10 : decode c_La_at 10 = .ok (.goto 7, 3) := by decide +kernel
theorem d_La_at_13 : decode c_La_at 13 = .ok (.astore 4, 2) := by decide +kernel
theorem d_La_at_15 : decode c_La_at 15 = .ok (.iconst 1, 1) := by decide +kernel
theorem d_La_at_16 : decode c_La_at 16 = .ok (.ireturn, 1) := by decide +kernel
theorem d_La_at_17 : decode c_La_at 17 = .ok (.iconst 0, 1) := by decide +kernel
theorem d_La_at_18 : decode c_La_at 18 = .ok (.ireturn, 1) := by decide +kernel
theorem d_La_join_0 : decode c_La_join 0 = .ok (.aload 5, 2) := by decide +kernel
theorem d_La_join_2 : decode c_La_join 2 = .ok (.iconst 0, 1) := by decide +kernel
theorem d_La_join_3 : decode c_La_join 3 = .ok (.aload_n 0, 1) := by decide +kernel
theorem d_La_join_4 : decode c_La_join 4 = .ok (.iload_n 1, 1) := by decide +kernel
theorem d_La_join_5 : decode c_La_join 5 = .ok (.iload_n 2, 1) := by decide +kernel
theorem d_La_join_6 : decode c_La_join 6 = .ok (.iload_n 3, 1) := by decide +kernel
theorem d_La_join_7 : decode c_La_join 7 = .ok (.iload 4, 2) := by decide +kernel
theorem d_La_join_9 : decode c_La_join 9 = .ok (.invokevirtual 29, 3) := by decide +kernel
theorem d_La_join_12 : decode c_La_join 12 = .ok (.i2l, 1) := by decide +kernel
theorem d_La_join_13 : decode c_La_join 13 = .ok (.lastore, 1) := by decide +kernel
theorem d_La_join_14 : decode c_La_join 14 = .ok (.goto 15, 3) := by decide +kernel
theorem d_La_join_17 : decode c_La_join 17 = .ok (.astore 6, 2) := by decide +kernel
theorem d_La_join_19 : decode c_La_join 19 = .ok (.iconst 1, 1) := by decide +kernel
theorem d_La_join_20 : decode c_La_join 20 = .ok (.ireturn, 1) := by decide +kernel
theorem d_La_join_21 : decode c_La_join 21 = .ok (.astore 6, 2) := by decide +kernel
theorem d_La_join_23 : decode c_La_join 23 = .ok (.iconst 2, 1) := by decide +kernel
theorem d_La_join_24 : decode c_La_join 24 = .ok (.ireturn, 1) := by decide +kernel
theorem d_La_join_25 : decode c_La_join 25 = .ok (.astore 6, 2) := by decide +kernel
theorem d_La_join_27 : decode c_La_join 27 = .ok (.iconst 3, 1) := by decide +kernel
theorem d_La_join_28 : decode c_La_join 28 = .ok (.ireturn, 1) := by decide +kernel
theorem d_La_join_29 : decode c_La_join 29 = .ok (.iconst 0, 1) := by decide +kernel
theorem d_La_join_30 : decode c_La_join 30 = .ok (.ireturn, 1) := by decide +kernel
theorem d_La_narrow_0 : decode c_La_narrow 0 = .ok (.aload 4, 2) := by decide +kernel
theorem d_La_narrow_2 : decode c_La_narrow 2 = .ok (.iconst 0, 1) := by decide +kernel
theorem d_La_narrow_3 : decode c_La_narrow 3 = .ok (.aload_n 0, 1) := by decide +kernel
theorem d_La_narrow_4 : decode c_La_narrow 4 = .ok (.iload_n 1, 1) := by decide +kernel
theorem d_La_narrow_5 : decode c_La_narrow 5 = .ok (.iload_n 2, 1) := by decide +kernel
theorem d_La_narrow_6 : decode c_La_narrow 6 = .ok (.iload_n 3, 1) := by decide +kernel
theorem d_La_narrow_7 : decode c_La_narrow 7 = .ok (.invokevirtual 33, 3) := by decide +kernel
theorem d_La_narrow_10 : decode c_La_narrow 10 = .ok (.i2l, 1) := by decide +kernel
theorem d_La_narrow_11 : decode c_La_narrow 11 = .ok (.lastore, 1) := by decide +kernel
theorem d_La_narrow_12 : decode c_La_narrow 12 = .ok (.goto 11, 3) := by decide +kernel
theorem d_La_narrow_15 : decode c_La_narrow 15 = .ok (.astore 5, 2) := by decide +kernel
theorem d_La_narrow_17 : decode c_La_narrow 17 = .ok (.iconst 1, 1) := by decide +kernel
theorem d_La_narrow_18 : decode c_La_narrow 18 = .ok (.ireturn, 1) := by decide +kernel
theorem d_La_narrow_19 : decode c_La_narrow 19 = .ok (.astore 5, 2) := by decide +kernel
theorem d_La_narrow_21 : decode c_La_narrow 21 = .ok (.iconst 2, 1) := by decide +kernel
theorem d_La_narrow_22 : decode c_La_narrow 22 = .ok (.ireturn, 1) := by decide +kernel
theorem d_La_narrow_23 : decode c_La_narrow 23 = .ok (.iconst 0, 1) := by decide +kernel
theorem d_La_narrow_24 : decode c_La_narrow 24 = .ok (.ireturn, 1) := by decide +kernel
theorem d_La_pick_0 : decode c_La_pick 0 = .ok (.aload 5, 2) := by decide +kernel
theorem d_La_pick_2 : decode c_La_pick 2 = .ok (.iconst 0, 1) := by decide +kernel
theorem d_La_pick_3 : decode c_La_pick 3 = .ok (.aload_n 0, 1) := by decide +kernel
theorem d_La_pick_4 : decode c_La_pick 4 = .ok (.iload_n 1, 1) := by decide +kernel
theorem d_La_pick_5 : decode c_La_pick 5 = .ok (.iload_n 2, 1) := by decide +kernel
theorem d_La_pick_6 : decode c_La_pick 6 = .ok (.iload_n 3, 1) := by decide +kernel
theorem d_La_pick_7 : decode c_La_pick 7 = .ok (.iload 4, 2) := by decide +kernel
theorem d_La_pick_9 : decode c_La_pick 9 = .ok (.invokevirtual 36, 3) := by decide +kernel
theorem d_La_pick_12 : decode c_La_pick 12 = .ok (.i2l, 1) := by decide +kernel
theorem d_La_pick_13 : decode c_La_pick 13 = .ok (.lastore, 1) := by decide +kernel
theorem d_La_pick_14 : decode c_La_pick 14 = .ok (.goto 11, 3) := by decide +kernel
theorem d_La_pick_17 : decode c_La_pick 17 = .ok (.astore 6, 2) := by decide +kernel
theorem d_La_pick_19 : decode c_La_pick 19 = .ok (.iconst 1, 1) := by decide +kernel
theorem d_La_pick_20 : decode c_La_pick 20 = .ok (.ireturn, 1) := by decide +kernel
theorem d_La_pick_21 : decode c_La_pick 21 = .ok (.astore 6, 2) := by decide +kernel
theorem d_La_pick_23 : decode c_La_pick 23 = .ok (.iconst 2, 1) := by decide +kernel
theorem d_La_pick_24 : decode c_La_pick 24 = .ok (.ireturn, 1) := by decide +kernel
theorem d_La_pick_25 : decode c_La_pick 25 = .ok (.iconst 0, 1) := by decide +kernel
theorem d_La_pick_26 : decode c_La_pick 26 = .ok (.ireturn, 1) := by decide +kernel
theorem d_La_alter_0 : decode c_La_alter 0 = .ok (.aload 5, 2) := by decide +kernel
theorem d_La_alter_2 : decode c_La_alter 2 = .ok (.iconst 0, 1) := by decide +kernel
theorem d_La_alter_3 : decode c_La_alter 3 = .ok (.aload_n 0, 1) := by decide +kernel
theorem d_La_alter_4 : decode c_La_alter 4 = .ok (.iload_n 1, 1) := by decide +kernel
theorem d_La_alter_5 : decode c_La_alter 5 = .ok (.iload_n 2, 1) := by decide +kernel
theorem d_La_alter_6 : decode c_La_alter 6 = .ok (.iload_n 3, 1) := by decide +kernel
theorem d_La_alter_7 : decode c_La_alter 7 = .ok (.iload 4, 2) := by decide +kernel
theorem d_La_alter_9 : decode c_La_alter 9 = .ok (.invokevirtual 39, 3) := by decide +kernel
theorem d_La_alter_12 : decode c_La_alter 12 = .ok (.i2l, 1) := by decide +kernel
theorem d_La_alter_13 : decode c_La_alter 13 = .ok (.lastore, 1) := by decide +kernel
theorem d_La_alter_14 : decode c_La_alter 14 = .ok (.goto 15, 3) := by decide +kernel
theorem d_La_alter_17 : decode c_La_alter 17 = .ok (.astore 6, 2) := by decide +kernel
theorem d_La_alter_19 : decode c_La_alter 19 = .ok (.iconst 1, 1) := by decide +kernel
theorem d_La_alter_20 : decode c_La_alter 20 = .ok (.ireturn, 1) := by decide +kernel
theorem d_La_alter_21 : decode c_La_alter 21 = .ok (.astore 6, 2) := by decide +kernel
theorem d_La_alter_23 : decode c_La_alter 23 = .ok (.iconst 2, 1) := by decide +kernel
theorem d_La_alter_24 : decode c_La_alter 24 = .ok (.ireturn, 1) := by decide +kernel
theorem d_La_alter_25 : decode c_La_alter 25 = .ok (.astore 6, 2) := by decide +kernel
theorem d_La_alter_27 : decode c_La_alter 27 = .ok (.iconst 3, 1) := by decide +kernel
theorem d_La_alter_28 : decode c_La_alter 28 = .ok (.ireturn, 1) := by decide +kernel
theorem d_La_alter_29 : decode c_La_alter 29 = .ok (.iconst 0, 1) := by decide +kernel
theorem d_La_alter_30 : decode c_La_alter 30 = .ok (.ireturn, 1) := by decide +kernel
theorem d_La_reach_0 : decode c_La_reach 0 = .ok (.aload_n 3, 1) := by decide +kernel
theorem d_La_reach_1 : decode c_La_reach 1 = .ok (.iconst 0, 1) := by decide +kernel
theorem d_La_reach_2 : decode c_La_reach 2 = .ok (.aload_n 0, 1) := by decide +kernel
theorem d_La_reach_3 : decode c_La_reach 3 = .ok (.iload_n 1, 1) := by decide +kernel
theorem d_La_reach_4 : decode c_La_reach 4 = .ok (.iload_n 2, 1) := by decide +kernel
theorem d_La_reach_5 : decode c_La_reach 5 = .ok (.invokevirtual 42, 3) := by decide +kernel
theorem d_La_reach_8 : decode c_La_reach 8 = .ok (.i2l, 1) := by decide +kernel
theorem d_La_reach_9 : decode c_La_reach 9 = .ok (.lastore, 1) := by decide +kernel
theorem d_La_reach_10 : decode c_La_reach 10 = .ok (.goto 11, 3) := by decide +kernel
theorem d_La_reach_13 : decode c_La_reach 13 = .ok (.astore 4, 2) := by decide +kernel
theorem d_La_reach_15 : decode c_La_reach 15 = .ok (.iconst 1, 1) := by decide +kernel
theorem d_La_reach_16 : decode c_La_reach 16 = .ok (.ireturn, 1) := by decide +kernel
theorem d_La_reach_17 : decode c_La_reach 17 = .ok (.astore 4, 2) := by decide +kernel
theorem d_La_reach_19 : decode c_La_reach 19 = .ok (.iconst 2, 1) := by decide +kernel
theorem d_La_reach_20 : decode c_La_reach 20 = .ok (.ireturn, 1) := by decide +kernel
theorem d_La_reach_21 : decode c_La_reach 21 = .ok (.iconst 0, 1) := by decide +kernel
theorem d_La_reach_22 : decode c_La_reach 22 = .ok (.ireturn, 1) := by decide +kernel
theorem d_La_turn_0 : decode c_La_turn 0 = .ok (.aload_n 3, 1) := by decide +kernel
theorem d_La_turn_1 : decode c_La_turn 1 = .ok (.iconst 0, 1) := by decide +kernel
theorem d_La_turn_2 : decode c_La_turn 2 = .ok (.aload_n 0, 1) := by decide +kernel
theorem d_La_turn_3 : decode c_La_turn 3 = .ok (.iload_n 1, 1) := by decide +kernel
theorem d_La_turn_4 : decode c_La_turn 4 = .ok (.iload_n 2, 1) := by decide +kernel
theorem d_La_turn_5 : decode c_La_turn 5 = .ok (.invokevirtual 45, 3) := by decide +kernel
theorem d_La_turn_8 : decode c_La_turn 8 = .ok (.i2l, 1) := by decide +kernel
theorem d_La_turn_9 : decode c_La_turn 9 = .ok (.lastore, 1) := by decide +kernel
theorem d_La_turn_10 : decode c_La_turn 10 = .ok (.goto 7, 3) := by decide +kernel
theorem d_La_turn_13 : decode c_La_turn 13 = .ok (.astore 4, 2) := by decide +kernel
theorem d_La_turn_15 : decode c_La_turn 15 = .ok (.iconst 1, 1) := by decide +kernel
theorem d_La_turn_16 : decode c_La_turn 16 = .ok (.ireturn, 1) := by decide +kernel
theorem d_La_turn_17 : decode c_La_turn 17 = .ok (.iconst 0, 1) := by decide +kernel
theorem d_La_turn_18 : decode c_La_turn 18 = .ok (.ireturn, 1) := by decide +kernel
theorem d_La_about_0 : decode c_La_about 0 = .ok (.aload_n 3, 1) := by decide +kernel
theorem d_La_about_1 : decode c_La_about 1 = .ok (.iconst 0, 1) := by decide +kernel
theorem d_La_about_2 : decode c_La_about 2 = .ok (.aload_n 0, 1) := by decide +kernel
theorem d_La_about_3 : decode c_La_about 3 = .ok (.iload_n 1, 1) := by decide +kernel
theorem d_La_about_4 : decode c_La_about 4 = .ok (.iload_n 2, 1) := by decide +kernel
theorem d_La_about_5 : decode c_La_about 5 = .ok (.invokevirtual 48, 3) := by decide +kernel
theorem d_La_about_8 : decode c_La_about 8 = .ok (.lastore, 1) := by decide +kernel
theorem d_La_about_9 : decode c_La_about 9 = .ok (.goto 11, 3) := by decide +kernel
theorem d_La_about_12 : decode c_La_about 12 = .ok (.astore 4, 2) := by decide +kernel
theorem d_La_about_14 : decode c_La_about 14 = .ok (.iconst 1, 1) := by decide +kernel
theorem d_La_about_15 : decode c_La_about 15 = .ok (.ireturn, 1) := by decide +kernel
theorem d_La_about_16 : decode c_La_about 16 = .ok (.astore 4, 2) := by decide +kernel
theorem d_La_about_18 : decode c_La_about 18 = .ok (.iconst 2, 1) := by decide +kernel
theorem d_La_about_19 : decode c_La_about 19 = .ok (.ireturn, 1) := by decide +kernel
theorem d_La_about_20 : decode c_La_about 20 = .ok (.iconst 0, 1) := by decide +kernel
theorem d_La_about_21 : decode c_La_about 21 = .ok (.ireturn, 1) := by decide +kernel
theorem d_La_same_0 : decode c_La_same 0 = .ok (.aload_n 3, 1) := by decide +kernel
theorem d_La_same_1 : decode c_La_same 1 = .ok (.iconst 0, 1) := by decide +kernel
theorem d_La_same_2 : decode c_La_same 2 = .ok (.aload_n 0, 1) := by decide +kernel
theorem d_La_same_3 : decode c_La_same 3 = .ok (.iload_n 1, 1) := by decide +kernel
theorem d_La_same_4 : decode c_La_same 4 = .ok (.iload_n 2, 1) := by decide +kernel
theorem d_La_same_5 : decode c_La_same 5 = .ok (.invokevirtual 52, 3) := by decide +kernel
theorem d_La_same_8 : decode c_La_same 8 = .ok (.ifCond .eq 7, 3) := by decide +kernel
theorem d_La_same_11 : decode c_La_same 11 = .ok (.lconst 1, 1) := by decide +kernel
theorem d_La_same_12 : decode c_La_same 12 = .ok (.goto 4, 3) := by decide +kernel
theorem d_La_same_15 : decode c_La_same 15 = .ok (.lconst 0, 1) := by decide +kernel
theorem d_La_same_16 : decode c_La_same 16 = .ok (.lastore, 1) := by decide +kernel
theorem d_La_same_17 : decode c_La_same 17 = .ok (.goto 7, 3) := by decide +kernel
theorem d_La_same_20 : decode c_La_same 20 = .ok (.astore 4, 2) := by decide +kernel
theorem d_La_same_22 : decode c_La_same 22 = .ok (.iconst 1, 1) := by decide +kernel
theorem d_La_same_23 : decode c_La_same 23 = .ok (.ireturn, 1) := by decide +kernel
theorem d_La_same_24 : decode c_La_same 24 = .ok (.iconst 0, 1) := by decide +kernel
theorem d_La_same_25 : decode c_La_same 25 = .ok (.ireturn, 1) := by decide +kernel
/-- the wrappers' answers -/
def zcd (E : String) : Int32 := if E = zNS then 1 else if E = zIA then 2 else 3
theorem zcd_1 : zcd zNS = 1 := by decide
theorem zcd_2 : zcd zIA = 2 := by decide
theorem zcd_3 : zcd zIS = 3 := by decide
def zWP (φ : Option Value → zS → Prop) (ψ : String → zS → Prop) (o : Value → Int64) (v : Option Value) (σ' : zS) : Prop := (∃ (x : Value) (σ1 : zS), φ (some x) σ1 ∧ v = some (.int 0) ∧ zul σ1 (vp_updL σ1.2 0 (o x)) = σ') ∨ ∃ E, ψ E σ' ∧ v = some (.int (zcd E))
def oI (x : Value) : Int64 := match x with
  | .int n => n.toInt64
  | _ => 0
def oL (x : Value) : Int64 := match x with
  | .long n => n
  | _ => 0
def oB (x : Value) : Int64 := match x with
  | .int n => if n = 0 then 0 else 1
  | _ => 0
theorem goodT {Ts : List Cond} {y2 : MethodName} {cc2 : ByteArray} {n2 : Nat} {ret2 : Option FieldType} (hT : ∀ w ∈ zws, w ∈ Ts) (h : Cond.code y2 cc2 n2 ret2 ∈ zws) : GoodIn Ts (zwy y2 cc2 n2 ret2) := fun w hw => by
  have hz : w ∈ zws := (List.mem_cons.mp hw).elim (fun e => by rw [e]; exact h) id
  exact ⟨hT w hz, zws_good hz⟩
theorem zlV.cwT {Ts : List Cond} {R rm : Room} {own : String} {idx maxL n mc ms : Nat} {y : MethodName} {bytes : ByteArray} {ret : Option FieldType} (h : zlV own idx y bytes maxL ret n) (hT : ∀ w ∈ zws, w ∈ Ts) (hrc : rm.cells = mc) (hrs : rm.slots = ms) (hR : rm.frames + 1 ≤ R.frames ∧ 8 + (maxL + 11) + rm.locals ≤ R.locals) (s : State) (args : Array Value) (ht : ∀ w ∈ Ts, w.before args s = true) : CallW R s args own y.cls idx y bytes maxL ret (zwy y bytes maxL ret) rm mc ms n :=
  ⟨callB_of n ht (goodT hT h.1) rfl hrc hrs (ht _ (hT _ h.2.2.2.1)) (ht _ (hT _ h.2.1)) h.2.2.2.2 hR, ht _ (hT _ h.2.2.1.1), ht _ (hT _ h.2.2.1.2)⟩
set_option maxHeartbeats 4000000 in
set_option maxRecDepth 100000 in
/-- the law's width -/
theorem cw_width (l : Launch) (G : zG) {σ : zS} {x y : Int32} {φ : Option Value → zS → Prop} {ψ : String → zS → Prop} (hM : zCX l G y_Sh_width w_Sh_width (zrz 8 130 2) 2 12 [.ref (zad G 0), .int x, .int y] σ φ ψ) (hv : ∀ v σ', φ v σ' → ∃ n : Int32, v = some (.int n)) (hE : ∀ E σ', ψ E σ' → E = zNS ∨ E = zIA) : zC l G y_La_width (zwh y_La_width c_La_width 5 (some .int) [(0, 10, 13, 13), (0, 10, 17, 15)]) (zrz 9 154 2) 2 12 [.ref (zad G 0), .int x, .int y, .ref (zad G 35)] σ (zWP φ ψ oI) := by
  refine zCH_of (cc := c_La_width) (nL := 5) (ret := (some .int)) (own := R_La) (hh := [(0, 10, 13, 13), (0, 10, 17, 15)]) (by decide +kernel) rfl rfl (Nat.le_of_ble_eq_true rfl) ?_
  refine zb_lv (lv' := [(0, .ref (zad G 0)), (1, .int x), (2, .int y), (3, .ref (zad G 35))]) rfl ?_
  refine zb_aload_n d_La_width_0 rfl rfl ?_
  refine zb_iconst (v := 0) d_La_width_1 rfl ?_
  refine zb_aload_n d_La_width_2 rfl rfl ?_
  refine zb_iload_n d_La_width_3 rfl rfl ?_
  refine zb_iload_n d_La_width_4 rfl rfl ?_
  refine zx_callV (rest := [.int 0, .ref (zad G 35)]) hM (lk_La_7.cwT (fun w h => zwh_in h) rfl rfl ⟨(Nat.le_of_ble_eq_true rfl), (Nat.le_of_ble_eq_true rfl)⟩) zgS rfl rfl rfl rfl (Nat.le_of_ble_eq_true rfl) d_La_width_5 ⟨(Nat.le_of_ble_eq_true rfl), (Nat.le_of_ble_eq_true rfl)⟩ ?_ ?_
  · rintro v9 σ9 hφ
    obtain ⟨n, rfl⟩ := hv _ _ hφ
    refine zb_st (st' := [.int n, .int 0, .ref (zad G 35)]) rfl ?_
    refine zb_i2l (v := n.toInt64) d_La_width_8 rfl ?_
    refine zb_lastN d_La_width_9 ?_
    refine zb_goto (tgt := 21) d_La_width_10 rfl ?_
    refine zb_iconst (v := 0) d_La_width_21 rfl ?_
    exact zb_iret d_La_width_22 rfl (Or.inl ⟨.int n, σ9, hφ, rfl, rfl⟩)
  · rintro E σ9 hψ
    rcases hE _ _ hψ with rfl | rfl
    · refine zx_h1 rfl rfl (by decide) rfl (fun q => ?_)
      refine zb_astore (lv' := [(4, .ref q), (0, .ref (zad G 0)), (1, .int x), (2, .int y), (3, .ref (zad G 35))]) d_La_width_13 (by decide) rfl ?_
      refine zb_iconst (v := 1) d_La_width_15 rfl ?_
      exact zb_iret d_La_width_16 rfl (Or.inr ⟨zNS, hψ, by rw [zcd_1]⟩)
    · refine zx_h2 rfl rfl (by decide) rfl rfl (fun q => ?_)
      refine zb_astore (lv' := [(4, .ref q), (0, .ref (zad G 0)), (1, .int x), (2, .int y), (3, .ref (zad G 35))]) d_La_width_17 (by decide) rfl ?_
      refine zb_iconst (v := 2) d_La_width_19 rfl ?_
      exact zb_iret d_La_width_20 rfl (Or.inr ⟨zIA, hψ, by rw [zcd_2]⟩)
theorem lkw_width : zlW R_La 60 y_La_width c_La_width 5 (some .int) [(0, 10, 13, 13), (0, 10, 17, 15)] 4 := ⟨zin 58 (by decide +kernel) (by decide +kernel), zin 56 (by decide +kernel) (by decide +kernel), zin 57 (by decide +kernel) (by decide +kernel), zin 0 (by decide +kernel) (by decide +kernel), by decide +kernel, by decide +kernel, by decide +kernel⟩
set_option maxHeartbeats 4000000 in
set_option maxRecDepth 100000 in
/-- the law's put -/
theorem cw_put (l : Launch) (G : zG) {σ : zS} {x y z : Int32} {φ : Option Value → zS → Prop} {ψ : String → zS → Prop} (hM : zCX l G y_Sh_put w_Sh_put (zrz 8 160 3) 3 18 [.ref (zad G 0), .int x, .int y, .int z] σ φ ψ) (hv : ∀ v σ', φ v σ' → ∃ n : Int32, v = some (.int n)) (hE : ∀ E σ', ψ E σ' → E = zNS ∨ E = zIA ∨ E = zIS) : zC l G y_La_put (zwh y_La_put c_La_put 6 (some .int) [(0, 12, 15, 13), (0, 12, 19, 15), (0, 12, 23, 21)]) (zrz 9 184 3) 3 18 [.ref (zad G 0), .int x, .int y, .int z, .ref (zad G 35)] σ (zWP φ ψ oI) := by
  refine zCH_of (cc := c_La_put) (nL := 6) (ret := (some .int)) (own := R_La) (hh := [(0, 12, 15, 13), (0, 12, 19, 15), (0, 12, 23, 21)]) (by decide +kernel) rfl rfl (Nat.le_of_ble_eq_true rfl) ?_
  refine zb_lv (lv' := [(0, .ref (zad G 0)), (1, .int x), (2, .int y), (3, .int z), (4, .ref (zad G 35))]) rfl ?_
  refine zb_aload d_La_put_0 rfl ?_
  refine zb_iconst (v := 0) d_La_put_2 rfl ?_
  refine zb_aload_n d_La_put_3 rfl rfl ?_
  refine zb_iload_n d_La_put_4 rfl rfl ?_
  refine zb_iload_n d_La_put_5 rfl rfl ?_
  refine zb_iload_n d_La_put_6 rfl rfl ?_
  refine zx_callV (rest := [.int 0, .ref (zad G 35)]) hM (lk_La_17.cwT (fun w h => zwh_in h) rfl rfl ⟨(Nat.le_of_ble_eq_true rfl), (Nat.le_of_ble_eq_true rfl)⟩) zgS rfl rfl rfl rfl (Nat.le_of_ble_eq_true rfl) d_La_put_7 ⟨(Nat.le_of_ble_eq_true rfl), (Nat.le_of_ble_eq_true rfl)⟩ ?_ ?_
  · rintro v9 σ9 hφ
    obtain ⟨n, rfl⟩ := hv _ _ hφ
    refine zb_st (st' := [.int n, .int 0, .ref (zad G 35)]) rfl ?_
    refine zb_i2l (v := n.toInt64) d_La_put_10 rfl ?_
    refine zb_lastN d_La_put_11 ?_
    refine zb_goto (tgt := 27) d_La_put_12 rfl ?_
    refine zb_iconst (v := 0) d_La_put_27 rfl ?_
    exact zb_iret d_La_put_28 rfl (Or.inl ⟨.int n, σ9, hφ, rfl, rfl⟩)
  · rintro E σ9 hψ
    rcases hE _ _ hψ with rfl | rfl | rfl
    · refine zx_h1 rfl rfl (by decide) rfl (fun q => ?_)
      refine zb_astore (lv' := [(5, .ref q), (0, .ref (zad G 0)), (1, .int x), (2, .int y), (3, .int z), (4, .ref (zad G 35))]) d_La_put_15 (by decide) rfl ?_
      refine zb_iconst (v := 1) d_La_put_17 rfl ?_
      exact zb_iret d_La_put_18 rfl (Or.inr ⟨zNS, hψ, by rw [zcd_1]⟩)
    · refine zx_h2 rfl rfl (by decide) rfl rfl (fun q => ?_)
      refine zb_astore (lv' := [(5, .ref q), (0, .ref (zad G 0)), (1, .int x), (2, .int y), (3, .int z), (4, .ref (zad G 35))]) d_La_put_19 (by decide) rfl ?_
      refine zb_iconst (v := 2) d_La_put_21 rfl ?_
      exact zb_iret d_La_put_22 rfl (Or.inr ⟨zIA, hψ, by rw [zcd_2]⟩)
    · refine zx_h3 rfl rfl (by decide) rfl rfl rfl (fun q => ?_)
      refine zb_astore (lv' := [(5, .ref q), (0, .ref (zad G 0)), (1, .int x), (2, .int y), (3, .int z), (4, .ref (zad G 35))]) d_La_put_23 (by decide) rfl ?_
      refine zb_iconst (v := 3) d_La_put_25 rfl ?_
      exact zb_iret d_La_put_26 rfl (Or.inr ⟨zIS, hψ, by rw [zcd_3]⟩)
theorem lkw_put : zlW R_La 70 y_La_put c_La_put 6 (some .int) [(0, 12, 15, 13), (0, 12, 19, 15), (0, 12, 23, 21)] 5 := ⟨zin 159 (by decide +kernel) (by decide +kernel), zin 157 (by decide +kernel) (by decide +kernel), zin 158 (by decide +kernel) (by decide +kernel), zin 0 (by decide +kernel) (by decide +kernel), by decide +kernel, by decide +kernel, by decide +kernel⟩
set_option maxHeartbeats 4000000 in
set_option maxRecDepth 100000 in
/-- the law's count -/
theorem cw_count (l : Launch) (G : zG) {σ : zS} {x y : Int32} {φ : Option Value → zS → Prop} {ψ : String → zS → Prop} (hM : zCX l G y_Sh_count w_Sh_count (zrz 8 130 2) 2 12 [.ref (zad G 0), .int x, .int y] σ φ ψ) (hv : ∀ v σ', φ v σ' → ∃ n : Int32, v = some (.int n)) (hE : ∀ E σ', ψ E σ' → E = zNS ∨ E = zIA) : zC l G y_La_count (zwh y_La_count c_La_count 5 (some .int) [(0, 10, 13, 13), (0, 10, 17, 15)]) (zrz 9 153 2) 2 12 [.ref (zad G 0), .int x, .int y, .ref (zad G 35)] σ (zWP φ ψ oI) := by
  refine zCH_of (cc := c_La_count) (nL := 5) (ret := (some .int)) (own := R_La) (hh := [(0, 10, 13, 13), (0, 10, 17, 15)]) (by decide +kernel) rfl rfl (Nat.le_of_ble_eq_true rfl) ?_
  refine zb_lv (lv' := [(0, .ref (zad G 0)), (1, .int x), (2, .int y), (3, .ref (zad G 35))]) rfl ?_
  refine zb_aload_n d_La_count_0 rfl rfl ?_
  refine zb_iconst (v := 0) d_La_count_1 rfl ?_
  refine zb_aload_n d_La_count_2 rfl rfl ?_
  refine zb_iload_n d_La_count_3 rfl rfl ?_
  refine zb_iload_n d_La_count_4 rfl rfl ?_
  refine zx_callV (rest := [.int 0, .ref (zad G 35)]) hM (lk_La_23.cwT (fun w h => zwh_in h) rfl rfl ⟨(Nat.le_of_ble_eq_true rfl), (Nat.le_of_ble_eq_true rfl)⟩) zgS rfl rfl rfl rfl (Nat.le_of_ble_eq_true rfl) d_La_count_5 ⟨(Nat.le_of_ble_eq_true rfl), (Nat.le_of_ble_eq_true rfl)⟩ ?_ ?_
  · rintro v9 σ9 hφ
    obtain ⟨n, rfl⟩ := hv _ _ hφ
    refine zb_st (st' := [.int n, .int 0, .ref (zad G 35)]) rfl ?_
    refine zb_i2l (v := n.toInt64) d_La_count_8 rfl ?_
    refine zb_lastN d_La_count_9 ?_
    refine zb_goto (tgt := 21) d_La_count_10 rfl ?_
    refine zb_iconst (v := 0) d_La_count_21 rfl ?_
    exact zb_iret d_La_count_22 rfl (Or.inl ⟨.int n, σ9, hφ, rfl, rfl⟩)
  · rintro E σ9 hψ
    rcases hE _ _ hψ with rfl | rfl
    · refine zx_h1 rfl rfl (by decide) rfl (fun q => ?_)
      refine zb_astore (lv' := [(4, .ref q), (0, .ref (zad G 0)), (1, .int x), (2, .int y), (3, .ref (zad G 35))]) d_La_count_13 (by decide) rfl ?_
      refine zb_iconst (v := 1) d_La_count_15 rfl ?_
      exact zb_iret d_La_count_16 rfl (Or.inr ⟨zNS, hψ, by rw [zcd_1]⟩)
    · refine zx_h2 rfl rfl (by decide) rfl rfl (fun q => ?_)
      refine zb_astore (lv' := [(4, .ref q), (0, .ref (zad G 0)), (1, .int x), (2, .int y), (3, .ref (zad G 35))]) d_La_count_17 (by decide) rfl ?_
      refine zb_iconst (v := 2) d_La_count_19 rfl ?_
      exact zb_iret d_La_count_20 rfl (Or.inr ⟨zIA, hψ, by rw [zcd_2]⟩)
theorem lkw_count : zlW R_La 74 y_La_count c_La_count 5 (some .int) [(0, 10, 13, 13), (0, 10, 17, 15)] 4 := ⟨zin 222 (by decide +kernel) (by decide +kernel), zin 220 (by decide +kernel) (by decide +kernel), zin 221 (by decide +kernel) (by decide +kernel), zin 0 (by decide +kernel) (by decide +kernel), by decide +kernel, by decide +kernel, by decide +kernel⟩
set_option maxHeartbeats 4000000 in
set_option maxRecDepth 100000 in
/-- the law's at -/
theorem cw_at (l : Launch) (G : zG) {σ : zS} {x y : Int32} {φ : Option Value → zS → Prop} {ψ : String → zS → Prop} (hM : zCX l G y_Sh_at w_Sh_at (zrz 8 130 2) 2 12 [.ref (zad G 0), .int x, .int y] σ φ ψ) (hv : ∀ v σ', φ v σ' → ∃ n : Int32, v = some (.int n)) (hE : ∀ E σ', ψ E σ' → E = zNS) : zC l G y_La_at (zwh y_La_at c_La_at 5 (some .int) [(0, 10, 13, 13)]) (zrz 9 153 2) 2 12 [.ref (zad G 0), .int x, .int y, .ref (zad G 35)] σ (zWP φ ψ oI) := by
  refine zCH_of (cc := c_La_at) (nL := 5) (ret := (some .int)) (own := R_La) (hh := [(0, 10, 13, 13)]) (by decide +kernel) rfl rfl (Nat.le_of_ble_eq_true rfl) ?_
  refine zb_lv (lv' := [(0, .ref (zad G 0)), (1, .int x), (2, .int y), (3, .ref (zad G 35))]) rfl ?_
  refine zb_aload_n d_La_at_0 rfl rfl ?_
  refine zb_iconst (v := 0) d_La_at_1 rfl ?_
  refine zb_aload_n d_La_at_2 rfl rfl ?_
  refine zb_iload_n d_La_at_3 rfl rfl ?_
  refine zb_iload_n d_La_at_4 rfl rfl ?_
  refine zx_callV (rest := [.int 0, .ref (zad G 35)]) hM (lk_La_26.cwT (fun w h => zwh_in h) rfl rfl ⟨(Nat.le_of_ble_eq_true rfl), (Nat.le_of_ble_eq_true rfl)⟩) zgS rfl rfl rfl rfl (Nat.le_of_ble_eq_true rfl) d_La_at_5 ⟨(Nat.le_of_ble_eq_true rfl), (Nat.le_of_ble_eq_true rfl)⟩ ?_ ?_
  · rintro v9 σ9 hφ
    obtain ⟨n, rfl⟩ := hv _ _ hφ
    refine zb_st (st' := [.int n, .int 0, .ref (zad G 35)]) rfl ?_
    refine zb_i2l (v := n.toInt64) d_La_at_8 rfl ?_
    refine zb_lastN d_La_at_9 ?_
    refine zb_goto (tgt := 17) d_La_at_10 rfl ?_
    refine zb_iconst (v := 0) d_La_at_17 rfl ?_
    exact zb_iret d_La_at_18 rfl (Or.inl ⟨.int n, σ9, hφ, rfl, rfl⟩)
  · rintro E σ9 hψ
    cases hE _ _ hψ
    · refine zx_h1 rfl rfl (by decide) rfl (fun q => ?_)
      refine zb_astore (lv' := [(4, .ref q), (0, .ref (zad G 0)), (1, .int x), (2, .int y), (3, .ref (zad G 35))]) d_La_at_13 (by decide) rfl ?_
      refine zb_iconst (v := 1) d_La_at_15 rfl ?_
      exact zb_iret d_La_at_16 rfl (Or.inr ⟨zNS, hψ, by rw [zcd_1]⟩)
theorem lkw_at : zlW R_La 77 y_La_at c_La_at 5 (some .int) [(0, 10, 13, 13)] 4 := ⟨zin 229 (by decide +kernel) (by decide +kernel), zin 227 (by decide +kernel) (by decide +kernel), zin 228 (by decide +kernel) (by decide +kernel), zin 0 (by decide +kernel) (by decide +kernel), by decide +kernel, by decide +kernel, by decide +kernel⟩
set_option maxHeartbeats 4000000 in
set_option maxRecDepth 100000 in
/-- the law's join -/
theorem cw_join (l : Launch) (G : zG) {σ : zS} {x y z b : Int32} {φ : Option Value → zS → Prop} {ψ : String → zS → Prop} (hM : zCX l G y_Sh_join w_Sh_join (zrz 8 190 6) 6 36 [.ref (zad G 0), .int x, .int y, .int z, .int b] σ φ ψ) (hv : ∀ v σ', φ v σ' → ∃ n : Int32, v = some (.int n)) (hE : ∀ E σ', ψ E σ' → E = zNS ∨ E = zIA ∨ E = zIS) : zC l G y_La_join (zwh y_La_join c_La_join 7 (some .int) [(0, 14, 17, 13), (0, 14, 21, 15), (0, 14, 25, 21)]) (zrz 9 219 6) 6 36 [.ref (zad G 0), .int x, .int y, .int z, .int b, .ref (zad G 35)] σ (zWP φ ψ oI) := by
  refine zCH_of (cc := c_La_join) (nL := 7) (ret := (some .int)) (own := R_La) (hh := [(0, 14, 17, 13), (0, 14, 21, 15), (0, 14, 25, 21)]) (by decide +kernel) rfl rfl (Nat.le_of_ble_eq_true rfl) ?_
  refine zb_lv (lv' := [(0, .ref (zad G 0)), (1, .int x), (2, .int y), (3, .int z), (4, .int b), (5, .ref (zad G 35))]) rfl ?_
  refine zb_aload d_La_join_0 rfl ?_
  refine zb_iconst (v := 0) d_La_join_2 rfl ?_
  refine zb_aload_n d_La_join_3 rfl rfl ?_
  refine zb_iload_n d_La_join_4 rfl rfl ?_
  refine zb_iload_n d_La_join_5 rfl rfl ?_
  refine zb_iload_n d_La_join_6 rfl rfl ?_
  refine zb_iload d_La_join_7 rfl ?_
  refine zx_callV (rest := [.int 0, .ref (zad G 35)]) hM (lk_La_29.cwT (fun w h => zwh_in h) rfl rfl ⟨(Nat.le_of_ble_eq_true rfl), (Nat.le_of_ble_eq_true rfl)⟩) zgS rfl rfl rfl rfl (Nat.le_of_ble_eq_true rfl) d_La_join_9 ⟨(Nat.le_of_ble_eq_true rfl), (Nat.le_of_ble_eq_true rfl)⟩ ?_ ?_
  · rintro v9 σ9 hφ
    obtain ⟨n, rfl⟩ := hv _ _ hφ
    refine zb_st (st' := [.int n, .int 0, .ref (zad G 35)]) rfl ?_
    refine zb_i2l (v := n.toInt64) d_La_join_12 rfl ?_
    refine zb_lastN d_La_join_13 ?_
    refine zb_goto (tgt := 29) d_La_join_14 rfl ?_
    refine zb_iconst (v := 0) d_La_join_29 rfl ?_
    exact zb_iret d_La_join_30 rfl (Or.inl ⟨.int n, σ9, hφ, rfl, rfl⟩)
  · rintro E σ9 hψ
    rcases hE _ _ hψ with rfl | rfl | rfl
    · refine zx_h1 rfl rfl (by decide) rfl (fun q => ?_)
      refine zb_astore (lv' := [(6, .ref q), (0, .ref (zad G 0)), (1, .int x), (2, .int y), (3, .int z), (4, .int b), (5, .ref (zad G 35))]) d_La_join_17 (by decide) rfl ?_
      refine zb_iconst (v := 1) d_La_join_19 rfl ?_
      exact zb_iret d_La_join_20 rfl (Or.inr ⟨zNS, hψ, by rw [zcd_1]⟩)
    · refine zx_h2 rfl rfl (by decide) rfl rfl (fun q => ?_)
      refine zb_astore (lv' := [(6, .ref q), (0, .ref (zad G 0)), (1, .int x), (2, .int y), (3, .int z), (4, .int b), (5, .ref (zad G 35))]) d_La_join_21 (by decide) rfl ?_
      refine zb_iconst (v := 2) d_La_join_23 rfl ?_
      exact zb_iret d_La_join_24 rfl (Or.inr ⟨zIA, hψ, by rw [zcd_2]⟩)
    · refine zx_h3 rfl rfl (by decide) rfl rfl rfl (fun q => ?_)
      refine zb_astore (lv' := [(6, .ref q), (0, .ref (zad G 0)), (1, .int x), (2, .int y), (3, .int z), (4, .int b), (5, .ref (zad G 35))]) d_La_join_25 (by decide) rfl ?_
      refine zb_iconst (v := 3) d_La_join_27 rfl ?_
      exact zb_iret d_La_join_28 rfl (Or.inr ⟨zIS, hψ, by rw [zcd_3]⟩)
theorem lkw_join : zlW R_La 80 y_La_join c_La_join 7 (some .int) [(0, 14, 17, 13), (0, 14, 21, 15), (0, 14, 25, 21)] 6 := ⟨zin 236 (by decide +kernel) (by decide +kernel), zin 234 (by decide +kernel) (by decide +kernel), zin 235 (by decide +kernel) (by decide +kernel), zin 0 (by decide +kernel) (by decide +kernel), by decide +kernel, by decide +kernel, by decide +kernel⟩
set_option maxHeartbeats 4000000 in
set_option maxRecDepth 100000 in
/-- the law's narrow -/
theorem cw_narrow (l : Launch) (G : zG) {σ : zS} {x y z : Int32} {φ : Option Value → zS → Prop} {ψ : String → zS → Prop} (hM : zCX l G y_Sh_narrow w_Sh_narrow (zrz 8 150 3) 3 18 [.ref (zad G 0), .int x, .int y, .int z] σ φ ψ) (hv : ∀ v σ', φ v σ' → ∃ n : Int32, v = some (.int n)) (hE : ∀ E σ', ψ E σ' → E = zNS ∨ E = zIA) : zC l G y_La_narrow (zwh y_La_narrow c_La_narrow 6 (some .int) [(0, 12, 15, 13), (0, 12, 19, 15)]) (zrz 9 175 3) 3 18 [.ref (zad G 0), .int x, .int y, .int z, .ref (zad G 35)] σ (zWP φ ψ oI) := by
  refine zCH_of (cc := c_La_narrow) (nL := 6) (ret := (some .int)) (own := R_La) (hh := [(0, 12, 15, 13), (0, 12, 19, 15)]) (by decide +kernel) rfl rfl (Nat.le_of_ble_eq_true rfl) ?_
  refine zb_lv (lv' := [(0, .ref (zad G 0)), (1, .int x), (2, .int y), (3, .int z), (4, .ref (zad G 35))]) rfl ?_
  refine zb_aload d_La_narrow_0 rfl ?_
  refine zb_iconst (v := 0) d_La_narrow_2 rfl ?_
  refine zb_aload_n d_La_narrow_3 rfl rfl ?_
  refine zb_iload_n d_La_narrow_4 rfl rfl ?_
  refine zb_iload_n d_La_narrow_5 rfl rfl ?_
  refine zb_iload_n d_La_narrow_6 rfl rfl ?_
  refine zx_callV (rest := [.int 0, .ref (zad G 35)]) hM (lk_La_33.cwT (fun w h => zwh_in h) rfl rfl ⟨(Nat.le_of_ble_eq_true rfl), (Nat.le_of_ble_eq_true rfl)⟩) zgS rfl rfl rfl rfl (Nat.le_of_ble_eq_true rfl) d_La_narrow_7 ⟨(Nat.le_of_ble_eq_true rfl), (Nat.le_of_ble_eq_true rfl)⟩ ?_ ?_
  · rintro v9 σ9 hφ
    obtain ⟨n, rfl⟩ := hv _ _ hφ
    refine zb_st (st' := [.int n, .int 0, .ref (zad G 35)]) rfl ?_
    refine zb_i2l (v := n.toInt64) d_La_narrow_10 rfl ?_
    refine zb_lastN d_La_narrow_11 ?_
    refine zb_goto (tgt := 23) d_La_narrow_12 rfl ?_
    refine zb_iconst (v := 0) d_La_narrow_23 rfl ?_
    exact zb_iret d_La_narrow_24 rfl (Or.inl ⟨.int n, σ9, hφ, rfl, rfl⟩)
  · rintro E σ9 hψ
    rcases hE _ _ hψ with rfl | rfl
    · refine zx_h1 rfl rfl (by decide) rfl (fun q => ?_)
      refine zb_astore (lv' := [(5, .ref q), (0, .ref (zad G 0)), (1, .int x), (2, .int y), (3, .int z), (4, .ref (zad G 35))]) d_La_narrow_15 (by decide) rfl ?_
      refine zb_iconst (v := 1) d_La_narrow_17 rfl ?_
      exact zb_iret d_La_narrow_18 rfl (Or.inr ⟨zNS, hψ, by rw [zcd_1]⟩)
    · refine zx_h2 rfl rfl (by decide) rfl rfl (fun q => ?_)
      refine zb_astore (lv' := [(5, .ref q), (0, .ref (zad G 0)), (1, .int x), (2, .int y), (3, .int z), (4, .ref (zad G 35))]) d_La_narrow_19 (by decide) rfl ?_
      refine zb_iconst (v := 2) d_La_narrow_21 rfl ?_
      exact zb_iret d_La_narrow_22 rfl (Or.inr ⟨zIA, hψ, by rw [zcd_2]⟩)
theorem lkw_narrow : zlW R_La 84 y_La_narrow c_La_narrow 6 (some .int) [(0, 12, 15, 13), (0, 12, 19, 15)] 5 := ⟨zin 255 (by decide +kernel) (by decide +kernel), zin 253 (by decide +kernel) (by decide +kernel), zin 254 (by decide +kernel) (by decide +kernel), zin 0 (by decide +kernel) (by decide +kernel), by decide +kernel, by decide +kernel, by decide +kernel⟩
set_option maxHeartbeats 4000000 in
set_option maxRecDepth 100000 in
/-- the law's pick -/
theorem cw_pick (l : Launch) (G : zG) {σ : zS} {x y z b : Int32} {φ : Option Value → zS → Prop} {ψ : String → zS → Prop} (hM : zCX l G y_Sh_pick w_Sh_pick (zrz 8 150 4) 4 24 [.ref (zad G 0), .int x, .int y, .int z, .int b] σ φ ψ) (hv : ∀ v σ', φ v σ' → ∃ n : Int32, v = some (.int n)) (hE : ∀ E σ', ψ E σ' → E = zNS ∨ E = zIA) : zC l G y_La_pick (zwh y_La_pick c_La_pick 7 (some .int) [(0, 14, 17, 13), (0, 14, 21, 15)]) (zrz 9 176 4) 4 24 [.ref (zad G 0), .int x, .int y, .int z, .int b, .ref (zad G 35)] σ (zWP φ ψ oI) := by
  refine zCH_of (cc := c_La_pick) (nL := 7) (ret := (some .int)) (own := R_La) (hh := [(0, 14, 17, 13), (0, 14, 21, 15)]) (by decide +kernel) rfl rfl (Nat.le_of_ble_eq_true rfl) ?_
  refine zb_lv (lv' := [(0, .ref (zad G 0)), (1, .int x), (2, .int y), (3, .int z), (4, .int b), (5, .ref (zad G 35))]) rfl ?_
  refine zb_aload d_La_pick_0 rfl ?_
  refine zb_iconst (v := 0) d_La_pick_2 rfl ?_
  refine zb_aload_n d_La_pick_3 rfl rfl ?_
  refine zb_iload_n d_La_pick_4 rfl rfl ?_
  refine zb_iload_n d_La_pick_5 rfl rfl ?_
  refine zb_iload_n d_La_pick_6 rfl rfl ?_
  refine zb_iload d_La_pick_7 rfl ?_
  refine zx_callV (rest := [.int 0, .ref (zad G 35)]) hM (lk_La_36.cwT (fun w h => zwh_in h) rfl rfl ⟨(Nat.le_of_ble_eq_true rfl), (Nat.le_of_ble_eq_true rfl)⟩) zgS rfl rfl rfl rfl (Nat.le_of_ble_eq_true rfl) d_La_pick_9 ⟨(Nat.le_of_ble_eq_true rfl), (Nat.le_of_ble_eq_true rfl)⟩ ?_ ?_
  · rintro v9 σ9 hφ
    obtain ⟨n, rfl⟩ := hv _ _ hφ
    refine zb_st (st' := [.int n, .int 0, .ref (zad G 35)]) rfl ?_
    refine zb_i2l (v := n.toInt64) d_La_pick_12 rfl ?_
    refine zb_lastN d_La_pick_13 ?_
    refine zb_goto (tgt := 25) d_La_pick_14 rfl ?_
    refine zb_iconst (v := 0) d_La_pick_25 rfl ?_
    exact zb_iret d_La_pick_26 rfl (Or.inl ⟨.int n, σ9, hφ, rfl, rfl⟩)
  · rintro E σ9 hψ
    rcases hE _ _ hψ with rfl | rfl
    · refine zx_h1 rfl rfl (by decide) rfl (fun q => ?_)
      refine zb_astore (lv' := [(6, .ref q), (0, .ref (zad G 0)), (1, .int x), (2, .int y), (3, .int z), (4, .int b), (5, .ref (zad G 35))]) d_La_pick_17 (by decide) rfl ?_
      refine zb_iconst (v := 1) d_La_pick_19 rfl ?_
      exact zb_iret d_La_pick_20 rfl (Or.inr ⟨zNS, hψ, by rw [zcd_1]⟩)
    · refine zx_h2 rfl rfl (by decide) rfl rfl (fun q => ?_)
      refine zb_astore (lv' := [(6, .ref q), (0, .ref (zad G 0)), (1, .int x), (2, .int y), (3, .int z), (4, .int b), (5, .ref (zad G 35))]) d_La_pick_21 (by decide) rfl ?_
      refine zb_iconst (v := 2) d_La_pick_23 rfl ?_
      exact zb_iret d_La_pick_24 rfl (Or.inr ⟨zIA, hψ, by rw [zcd_2]⟩)
theorem lkw_pick : zlW R_La 87 y_La_pick c_La_pick 7 (some .int) [(0, 14, 17, 13), (0, 14, 21, 15)] 6 := ⟨zin 277 (by decide +kernel) (by decide +kernel), zin 275 (by decide +kernel) (by decide +kernel), zin 276 (by decide +kernel) (by decide +kernel), zin 0 (by decide +kernel) (by decide +kernel), by decide +kernel, by decide +kernel, by decide +kernel⟩
set_option maxHeartbeats 4000000 in
set_option maxRecDepth 100000 in
/-- the law's alter -/
theorem cw_alter (l : Launch) (G : zG) {σ : zS} {x y z b : Int32} {φ : Option Value → zS → Prop} {ψ : String → zS → Prop} (hM : zCX l G y_Sh_alter w_Sh_alter (zrz 8 160 6) 6 36 [.ref (zad G 0), .int x, .int y, .int z, .int b] σ φ ψ) (hv : ∀ v σ', φ v σ' → ∃ n : Int32, v = some (.int n)) (hE : ∀ E σ', ψ E σ' → E = zNS ∨ E = zIA ∨ E = zIS) : zC l G y_La_alter (zwh y_La_alter c_La_alter 7 (some .int) [(0, 14, 17, 13), (0, 14, 21, 15), (0, 14, 25, 21)]) (zrz 9 189 6) 6 36 [.ref (zad G 0), .int x, .int y, .int z, .int b, .ref (zad G 35)] σ (zWP φ ψ oI) := by
  refine zCH_of (cc := c_La_alter) (nL := 7) (ret := (some .int)) (own := R_La) (hh := [(0, 14, 17, 13), (0, 14, 21, 15), (0, 14, 25, 21)]) (by decide +kernel) rfl rfl (Nat.le_of_ble_eq_true rfl) ?_
  refine zb_lv (lv' := [(0, .ref (zad G 0)), (1, .int x), (2, .int y), (3, .int z), (4, .int b), (5, .ref (zad G 35))]) rfl ?_
  refine zb_aload d_La_alter_0 rfl ?_
  refine zb_iconst (v := 0) d_La_alter_2 rfl ?_
  refine zb_aload_n d_La_alter_3 rfl rfl ?_
  refine zb_iload_n d_La_alter_4 rfl rfl ?_
  refine zb_iload_n d_La_alter_5 rfl rfl ?_
  refine zb_iload_n d_La_alter_6 rfl rfl ?_
  refine zb_iload d_La_alter_7 rfl ?_
  refine zx_callV (rest := [.int 0, .ref (zad G 35)]) hM (lk_La_39.cwT (fun w h => zwh_in h) rfl rfl ⟨(Nat.le_of_ble_eq_true rfl), (Nat.le_of_ble_eq_true rfl)⟩) zgS rfl rfl rfl rfl (Nat.le_of_ble_eq_true rfl) d_La_alter_9 ⟨(Nat.le_of_ble_eq_true rfl), (Nat.le_of_ble_eq_true rfl)⟩ ?_ ?_
  · rintro v9 σ9 hφ
    obtain ⟨n, rfl⟩ := hv _ _ hφ
    refine zb_st (st' := [.int n, .int 0, .ref (zad G 35)]) rfl ?_
    refine zb_i2l (v := n.toInt64) d_La_alter_12 rfl ?_
    refine zb_lastN d_La_alter_13 ?_
    refine zb_goto (tgt := 29) d_La_alter_14 rfl ?_
    refine zb_iconst (v := 0) d_La_alter_29 rfl ?_
    exact zb_iret d_La_alter_30 rfl (Or.inl ⟨.int n, σ9, hφ, rfl, rfl⟩)
  · rintro E σ9 hψ
    rcases hE _ _ hψ with rfl | rfl | rfl
    · refine zx_h1 rfl rfl (by decide) rfl (fun q => ?_)
      refine zb_astore (lv' := [(6, .ref q), (0, .ref (zad G 0)), (1, .int x), (2, .int y), (3, .int z), (4, .int b), (5, .ref (zad G 35))]) d_La_alter_17 (by decide) rfl ?_
      refine zb_iconst (v := 1) d_La_alter_19 rfl ?_
      exact zb_iret d_La_alter_20 rfl (Or.inr ⟨zNS, hψ, by rw [zcd_1]⟩)
    · refine zx_h2 rfl rfl (by decide) rfl rfl (fun q => ?_)
      refine zb_astore (lv' := [(6, .ref q), (0, .ref (zad G 0)), (1, .int x), (2, .int y), (3, .int z), (4, .int b), (5, .ref (zad G 35))]) d_La_alter_21 (by decide) rfl ?_
      refine zb_iconst (v := 2) d_La_alter_23 rfl ?_
      exact zb_iret d_La_alter_24 rfl (Or.inr ⟨zIA, hψ, by rw [zcd_2]⟩)
    · refine zx_h3 rfl rfl (by decide) rfl rfl rfl (fun q => ?_)
      refine zb_astore (lv' := [(6, .ref q), (0, .ref (zad G 0)), (1, .int x), (2, .int y), (3, .int z), (4, .int b), (5, .ref (zad G 35))]) d_La_alter_25 (by decide) rfl ?_
      refine zb_iconst (v := 3) d_La_alter_27 rfl ?_
      exact zb_iret d_La_alter_28 rfl (Or.inr ⟨zIS, hψ, by rw [zcd_3]⟩)
theorem lkw_alter : zlW R_La 90 y_La_alter c_La_alter 7 (some .int) [(0, 14, 17, 13), (0, 14, 21, 15), (0, 14, 25, 21)] 6 := ⟨zin 284 (by decide +kernel) (by decide +kernel), zin 282 (by decide +kernel) (by decide +kernel), zin 283 (by decide +kernel) (by decide +kernel), zin 0 (by decide +kernel) (by decide +kernel), by decide +kernel, by decide +kernel, by decide +kernel⟩
set_option maxHeartbeats 4000000 in
set_option maxRecDepth 100000 in
/-- the law's reach -/
theorem cw_reach (l : Launch) (G : zG) {σ : zS} {x y : Int32} {φ : Option Value → zS → Prop} {ψ : String → zS → Prop} (hM : zCX l G y_Sh_reach w_Sh_reach (zrz 8 150 3) 3 18 [.ref (zad G 0), .int x, .int y] σ φ ψ) (hv : ∀ v σ', φ v σ' → ∃ n : Int32, v = some (.int n)) (hE : ∀ E σ', ψ E σ' → E = zNS ∨ E = zIA) : zC l G y_La_reach (zwh y_La_reach c_La_reach 5 (some .int) [(0, 10, 13, 13), (0, 10, 17, 15)]) (zrz 9 175 3) 3 18 [.ref (zad G 0), .int x, .int y, .ref (zad G 35)] σ (zWP φ ψ oI) := by
  refine zCH_of (cc := c_La_reach) (nL := 5) (ret := (some .int)) (own := R_La) (hh := [(0, 10, 13, 13), (0, 10, 17, 15)]) (by decide +kernel) rfl rfl (Nat.le_of_ble_eq_true rfl) ?_
  refine zb_lv (lv' := [(0, .ref (zad G 0)), (1, .int x), (2, .int y), (3, .ref (zad G 35))]) rfl ?_
  refine zb_aload_n d_La_reach_0 rfl rfl ?_
  refine zb_iconst (v := 0) d_La_reach_1 rfl ?_
  refine zb_aload_n d_La_reach_2 rfl rfl ?_
  refine zb_iload_n d_La_reach_3 rfl rfl ?_
  refine zb_iload_n d_La_reach_4 rfl rfl ?_
  refine zx_callV (rest := [.int 0, .ref (zad G 35)]) hM (lk_La_42.cwT (fun w h => zwh_in h) rfl rfl ⟨(Nat.le_of_ble_eq_true rfl), (Nat.le_of_ble_eq_true rfl)⟩) zgS rfl rfl rfl rfl (Nat.le_of_ble_eq_true rfl) d_La_reach_5 ⟨(Nat.le_of_ble_eq_true rfl), (Nat.le_of_ble_eq_true rfl)⟩ ?_ ?_
  · rintro v9 σ9 hφ
    obtain ⟨n, rfl⟩ := hv _ _ hφ
    refine zb_st (st' := [.int n, .int 0, .ref (zad G 35)]) rfl ?_
    refine zb_i2l (v := n.toInt64) d_La_reach_8 rfl ?_
    refine zb_lastN d_La_reach_9 ?_
    refine zb_goto (tgt := 21) d_La_reach_10 rfl ?_
    refine zb_iconst (v := 0) d_La_reach_21 rfl ?_
    exact zb_iret d_La_reach_22 rfl (Or.inl ⟨.int n, σ9, hφ, rfl, rfl⟩)
  · rintro E σ9 hψ
    rcases hE _ _ hψ with rfl | rfl
    · refine zx_h1 rfl rfl (by decide) rfl (fun q => ?_)
      refine zb_astore (lv' := [(4, .ref q), (0, .ref (zad G 0)), (1, .int x), (2, .int y), (3, .ref (zad G 35))]) d_La_reach_13 (by decide) rfl ?_
      refine zb_iconst (v := 1) d_La_reach_15 rfl ?_
      exact zb_iret d_La_reach_16 rfl (Or.inr ⟨zNS, hψ, by rw [zcd_1]⟩)
    · refine zx_h2 rfl rfl (by decide) rfl rfl (fun q => ?_)
      refine zb_astore (lv' := [(4, .ref q), (0, .ref (zad G 0)), (1, .int x), (2, .int y), (3, .ref (zad G 35))]) d_La_reach_17 (by decide) rfl ?_
      refine zb_iconst (v := 2) d_La_reach_19 rfl ?_
      exact zb_iret d_La_reach_20 rfl (Or.inr ⟨zIA, hψ, by rw [zcd_2]⟩)
theorem lkw_reach : zlW R_La 93 y_La_reach c_La_reach 5 (some .int) [(0, 10, 13, 13), (0, 10, 17, 15)] 4 := ⟨zin 297 (by decide +kernel) (by decide +kernel), zin 295 (by decide +kernel) (by decide +kernel), zin 296 (by decide +kernel) (by decide +kernel), zin 0 (by decide +kernel) (by decide +kernel), by decide +kernel, by decide +kernel, by decide +kernel⟩
set_option maxHeartbeats 4000000 in
set_option maxRecDepth 100000 in
/-- the law's turn -/
theorem cw_turn (l : Launch) (G : zG) {σ : zS} {x y : Int32} {φ : Option Value → zS → Prop} {ψ : String → zS → Prop} (hM : zCX l G y_Sh_turn w_Sh_turn (zrz 8 150 2) 2 12 [.ref (zad G 0), .int x, .int y] σ φ ψ) (hv : ∀ v σ', φ v σ' → ∃ n : Int32, v = some (.int n)) (hE : ∀ E σ', ψ E σ' → E = zNS) : zC l G y_La_turn (zwh y_La_turn c_La_turn 5 (some .int) [(0, 10, 13, 13)]) (zrz 9 174 2) 2 12 [.ref (zad G 0), .int x, .int y, .ref (zad G 35)] σ (zWP φ ψ oI) := by
  refine zCH_of (cc := c_La_turn) (nL := 5) (ret := (some .int)) (own := R_La) (hh := [(0, 10, 13, 13)]) (by decide +kernel) rfl rfl (Nat.le_of_ble_eq_true rfl) ?_
  refine zb_lv (lv' := [(0, .ref (zad G 0)), (1, .int x), (2, .int y), (3, .ref (zad G 35))]) rfl ?_
  refine zb_aload_n d_La_turn_0 rfl rfl ?_
  refine zb_iconst (v := 0) d_La_turn_1 rfl ?_
  refine zb_aload_n d_La_turn_2 rfl rfl ?_
  refine zb_iload_n d_La_turn_3 rfl rfl ?_
  refine zb_iload_n d_La_turn_4 rfl rfl ?_
  refine zx_callV (rest := [.int 0, .ref (zad G 35)]) hM (lk_La_45.cwT (fun w h => zwh_in h) rfl rfl ⟨(Nat.le_of_ble_eq_true rfl), (Nat.le_of_ble_eq_true rfl)⟩) zgS rfl rfl rfl rfl (Nat.le_of_ble_eq_true rfl) d_La_turn_5 ⟨(Nat.le_of_ble_eq_true rfl), (Nat.le_of_ble_eq_true rfl)⟩ ?_ ?_
  · rintro v9 σ9 hφ
    obtain ⟨n, rfl⟩ := hv _ _ hφ
    refine zb_st (st' := [.int n, .int 0, .ref (zad G 35)]) rfl ?_
    refine zb_i2l (v := n.toInt64) d_La_turn_8 rfl ?_
    refine zb_lastN d_La_turn_9 ?_
    refine zb_goto (tgt := 17) d_La_turn_10 rfl ?_
    refine zb_iconst (v := 0) d_La_turn_17 rfl ?_
    exact zb_iret d_La_turn_18 rfl (Or.inl ⟨.int n, σ9, hφ, rfl, rfl⟩)
  · rintro E σ9 hψ
    cases hE _ _ hψ
    · refine zx_h1 rfl rfl (by decide) rfl (fun q => ?_)
      refine zb_astore (lv' := [(4, .ref q), (0, .ref (zad G 0)), (1, .int x), (2, .int y), (3, .ref (zad G 35))]) d_La_turn_13 (by decide) rfl ?_
      refine zb_iconst (v := 1) d_La_turn_15 rfl ?_
      exact zb_iret d_La_turn_16 rfl (Or.inr ⟨zNS, hψ, by rw [zcd_1]⟩)
theorem lkw_turn : zlW R_La 96 y_La_turn c_La_turn 5 (some .int) [(0, 10, 13, 13)] 4 := ⟨zin 316 (by decide +kernel) (by decide +kernel), zin 314 (by decide +kernel) (by decide +kernel), zin 315 (by decide +kernel) (by decide +kernel), zin 0 (by decide +kernel) (by decide +kernel), by decide +kernel, by decide +kernel, by decide +kernel⟩
set_option maxHeartbeats 4000000 in
set_option maxRecDepth 100000 in
/-- the law's about -/
theorem cw_about (l : Launch) (G : zG) {σ : zS} {x y : Int32} {φ : Option Value → zS → Prop} {ψ : String → zS → Prop} (hM : zCX l G y_Sh_about w_Sh_about (zrz 8 130 2) 2 12 [.ref (zad G 0), .int x, .int y] σ φ ψ) (hv : ∀ v σ', φ v σ' → ∃ n : Int64, v = some (.long n)) (hE : ∀ E σ', ψ E σ' → E = zNS ∨ E = zIA) : zC l G y_La_about (zwh y_La_about c_La_about 5 (some .int) [(0, 9, 12, 13), (0, 9, 16, 15)]) (zrz 9 153 2) 2 12 [.ref (zad G 0), .int x, .int y, .ref (zad G 35)] σ (zWP φ ψ oL) := by
  refine zCH_of (cc := c_La_about) (nL := 5) (ret := (some .int)) (own := R_La) (hh := [(0, 9, 12, 13), (0, 9, 16, 15)]) (by decide +kernel) rfl rfl (Nat.le_of_ble_eq_true rfl) ?_
  refine zb_lv (lv' := [(0, .ref (zad G 0)), (1, .int x), (2, .int y), (3, .ref (zad G 35))]) rfl ?_
  refine zb_aload_n d_La_about_0 rfl rfl ?_
  refine zb_iconst (v := 0) d_La_about_1 rfl ?_
  refine zb_aload_n d_La_about_2 rfl rfl ?_
  refine zb_iload_n d_La_about_3 rfl rfl ?_
  refine zb_iload_n d_La_about_4 rfl rfl ?_
  refine zx_callV (rest := [.int 0, .ref (zad G 35)]) hM (lk_La_48.cwT (fun w h => zwh_in h) rfl rfl ⟨(Nat.le_of_ble_eq_true rfl), (Nat.le_of_ble_eq_true rfl)⟩) zgS rfl rfl rfl rfl (Nat.le_of_ble_eq_true rfl) d_La_about_5 ⟨(Nat.le_of_ble_eq_true rfl), (Nat.le_of_ble_eq_true rfl)⟩ ?_ ?_
  · rintro v9 σ9 hφ
    obtain ⟨n, rfl⟩ := hv _ _ hφ
    refine zb_st (st' := [.long n, .int 0, .ref (zad G 35)]) rfl ?_
    refine zb_lastN d_La_about_8 ?_
    refine zb_goto (tgt := 20) d_La_about_9 rfl ?_
    refine zb_iconst (v := 0) d_La_about_20 rfl ?_
    exact zb_iret d_La_about_21 rfl (Or.inl ⟨.long n, σ9, hφ, rfl, rfl⟩)
  · rintro E σ9 hψ
    rcases hE _ _ hψ with rfl | rfl
    · refine zx_h1 rfl rfl (by decide) rfl (fun q => ?_)
      refine zb_astore (lv' := [(4, .ref q), (0, .ref (zad G 0)), (1, .int x), (2, .int y), (3, .ref (zad G 35))]) d_La_about_12 (by decide) rfl ?_
      refine zb_iconst (v := 1) d_La_about_14 rfl ?_
      exact zb_iret d_La_about_15 rfl (Or.inr ⟨zNS, hψ, by rw [zcd_1]⟩)
    · refine zx_h2 rfl rfl (by decide) rfl rfl (fun q => ?_)
      refine zb_astore (lv' := [(4, .ref q), (0, .ref (zad G 0)), (1, .int x), (2, .int y), (3, .ref (zad G 35))]) d_La_about_16 (by decide) rfl ?_
      refine zb_iconst (v := 2) d_La_about_18 rfl ?_
      exact zb_iret d_La_about_19 rfl (Or.inr ⟨zIA, hψ, by rw [zcd_2]⟩)
theorem lkw_about : zlW R_La 99 y_La_about c_La_about 5 (some .int) [(0, 9, 12, 13), (0, 9, 16, 15)] 4 := ⟨zin 326 (by decide +kernel) (by decide +kernel), zin 324 (by decide +kernel) (by decide +kernel), zin 325 (by decide +kernel) (by decide +kernel), zin 0 (by decide +kernel) (by decide +kernel), by decide +kernel, by decide +kernel, by decide +kernel⟩
set_option maxHeartbeats 4000000 in
set_option maxRecDepth 100000 in
/-- the law's same -/
theorem cw_same (l : Launch) (G : zG) {σ : zS} {x y : Int32} {φ : Option Value → zS → Prop} {ψ : String → zS → Prop} (hM : zCX l G y_Sh_same w_Sh_same (zrz 8 130 2) 2 12 [.ref (zad G 0), .int x, .int y] σ φ ψ) (hv : ∀ v σ', φ v σ' → v = some (.int 1) ∨ v = some (.int 0)) (hE : ∀ E σ', ψ E σ' → E = zNS) : zC l G y_La_same (zwh y_La_same c_La_same 5 (some .int) [(0, 17, 20, 13)]) (zrz 9 154 2) 2 12 [.ref (zad G 0), .int x, .int y, .ref (zad G 35)] σ (zWP φ ψ oB) := by
  refine zCH_of (cc := c_La_same) (nL := 5) (ret := (some .int)) (own := R_La) (hh := [(0, 17, 20, 13)]) (by decide +kernel) rfl rfl (Nat.le_of_ble_eq_true rfl) ?_
  refine zb_lv (lv' := [(0, .ref (zad G 0)), (1, .int x), (2, .int y), (3, .ref (zad G 35))]) rfl ?_
  refine zb_aload_n d_La_same_0 rfl rfl ?_
  refine zb_iconst (v := 0) d_La_same_1 rfl ?_
  refine zb_aload_n d_La_same_2 rfl rfl ?_
  refine zb_iload_n d_La_same_3 rfl rfl ?_
  refine zb_iload_n d_La_same_4 rfl rfl ?_
  refine zx_callV (rest := [.int 0, .ref (zad G 35)]) hM (lk_La_52.cwT (fun w h => zwh_in h) rfl rfl ⟨(Nat.le_of_ble_eq_true rfl), (Nat.le_of_ble_eq_true rfl)⟩) zgS rfl rfl rfl rfl (Nat.le_of_ble_eq_true rfl) d_La_same_5 ⟨(Nat.le_of_ble_eq_true rfl), (Nat.le_of_ble_eq_true rfl)⟩ ?_ ?_
  · rintro v9 σ9 hφ
    rcases hv _ _ hφ with rfl | rfl
    · refine zb_st (st' := [.int 1, .int 0, .ref (zad G 35)]) rfl ?_
      refine zb_if_eq (tgt := 15) d_La_same_8 rfl (fun h8 => absurd h8 (by decide)) (fun h8 => ?_)
      refine zb_lconst (v := 1) d_La_same_11 rfl ?_
      refine zb_goto (tgt := 16) d_La_same_12 rfl ?_
      refine zb_lastN d_La_same_16 ?_
      refine zb_goto (tgt := 24) d_La_same_17 rfl ?_
      refine zb_iconst (v := 0) d_La_same_24 rfl ?_
      exact zb_iret d_La_same_25 rfl (Or.inl ⟨.int 1, σ9, hφ, rfl, rfl⟩)
    · refine zb_st (st' := [.int 0, .int 0, .ref (zad G 35)]) rfl ?_
      refine zb_if_eq (tgt := 15) d_La_same_8 rfl (fun h8 => ?_) (fun h8 => absurd rfl h8)
      refine zb_lconst (v := 0) d_La_same_15 rfl ?_
      refine zb_lastN d_La_same_16 ?_
      refine zb_goto (tgt := 24) d_La_same_17 rfl ?_
      refine zb_iconst (v := 0) d_La_same_24 rfl ?_
      exact zb_iret d_La_same_25 rfl (Or.inl ⟨.int 0, σ9, hφ, rfl, rfl⟩)
  · rintro E σ9 hψ
    cases hE _ _ hψ
    · refine zx_h1 rfl rfl (by decide) rfl (fun q => ?_)
      refine zb_astore (lv' := [(4, .ref q), (0, .ref (zad G 0)), (1, .int x), (2, .int y), (3, .ref (zad G 35))]) d_La_same_20 (by decide) rfl ?_
      refine zb_iconst (v := 1) d_La_same_22 rfl ?_
      exact zb_iret d_La_same_23 rfl (Or.inr ⟨zNS, hψ, by rw [zcd_1]⟩)
theorem lkw_same : zlW R_La 102 y_La_same c_La_same 5 (some .int) [(0, 17, 20, 13)] 4 := ⟨zin 350 (by decide +kernel) (by decide +kernel), zin 348 (by decide +kernel) (by decide +kernel), zin 349 (by decide +kernel) (by decide +kernel), zin 0 (by decide +kernel) (by decide +kernel), by decide +kernel, by decide +kernel, by decide +kernel⟩
