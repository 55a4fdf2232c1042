theorem dX0_isField_0 : decode cX0_isField 0 = .ok (.iload_n 0, 1) := by decide +kernel
theorem dX0_isField_1 : decode cX0_isField 1 = .ok (.ifCond .lt 13, 3) := by decide +kernel
theorem dX0_isField_4 : decode cX0_isField 4 = .ok (.iload_n 0, 1) := by decide +kernel
theorem dX0_isField_5 : decode cX0_isField 5 = .ok (.bipush 12, 2) := by decide +kernel
theorem dX0_isField_7 : decode cX0_isField 7 = .ok (.if_icmp .ge 7, 3) := by decide +kernel
theorem dX0_isField_10 : decode cX0_isField 10 = .ok (.iconst 1, 1) := by decide +kernel
theorem dX0_isField_11 : decode cX0_isField 11 = .ok (.goto 4, 3) := by decide +kernel
theorem dX0_isField_14 : decode cX0_isField 14 = .ok (.iconst 0, 1) := by decide +kernel
theorem dX0_isField_15 : decode cX0_isField 15 = .ok (.ireturn, 1) := by decide +kernel
theorem dX0_isSide_0 : decode cX0_isSide 0 = .ok (.iload_n 0, 1) := by decide +kernel
theorem dX0_isSide_1 : decode cX0_isSide 1 = .ok (.ifCond .lt 12, 3) := by decide +kernel
theorem dX0_isSide_4 : decode cX0_isSide 4 = .ok (.iload_n 0, 1) := by decide +kernel
theorem dX0_isSide_5 : decode cX0_isSide 5 = .ok (.iconst 5, 1) := by decide +kernel
theorem dX0_isSide_6 : decode cX0_isSide 6 = .ok (.if_icmp .ge 7, 3) := by decide +kernel
theorem dX0_isSide_9 : decode cX0_isSide 9 = .ok (.iconst 1, 1) := by decide +kernel
theorem dX0_isSide_10 : decode cX0_isSide 10 = .ok (.goto 4, 3) := by decide +kernel
theorem dX0_isSide_13 : decode cX0_isSide 13 = .ok (.iconst 0, 1) := by decide +kernel
theorem dX0_isSide_14 : decode cX0_isSide 14 = .ok (.ireturn, 1) := by decide +kernel
theorem dX0_holds_0 : decode cX0_holds 0 = .ok (.iload_n 1, 1) := by decide +kernel
theorem dX0_holds_1 : decode cX0_holds 1 = .ok (.invokestatic 9, 3) := by decide +kernel
theorem dX0_holds_4 : decode cX0_holds 4 = .ok (.ifCond .eq 15, 3) := by decide +kernel
theorem dX0_holds_7 : decode cX0_holds 7 = .ok (.iload_n 0, 1) := by decide +kernel
theorem dX0_holds_8 : decode cX0_holds 8 = .ok (.iload_n 1, 1) := by decide +kernel
theorem dX0_holds_9 : decode cX0_holds 9 = .ok (.ishr, 1) := by decide +kernel
theorem dX0_holds_10 : decode cX0_holds 10 = .ok (.iconst 1, 1) := by decide +kernel
theorem dX0_holds_11 : decode cX0_holds 11 = .ok (.iand, 1) := by decide +kernel
theorem dX0_holds_12 : decode cX0_holds 12 = .ok (.ifCond .eq 7, 3) := by decide +kernel
theorem dX0_holds_15 : decode cX0_holds 15 = .ok (.iconst 1, 1) := by decide +kernel
theorem dX0_holds_16 : decode cX0_holds 16 = .ok (.goto 4, 3) := by decide +kernel
theorem dX0_holds_19 : decode cX0_holds 19 = .ok (.iconst 0, 1) := by decide +kernel
theorem dX0_holds_20 : decode cX0_holds 20 = .ok (.ireturn, 1) := by decide +kernel
theorem dX0_on_0 : decode cX0_on 0 = .ok (.iload_n 0, 1) := by decide +kernel
theorem dX0_on_1 : decode cX0_on 1 = .ok (.iload_n 1, 1) := by decide +kernel
theorem dX0_on_2 : decode cX0_on 2 = .ok (.iadd, 1) := by decide +kernel
theorem dX0_on_3 : decode cX0_on 3 = .ok (.iconst 5, 1) := by decide +kernel
theorem dX0_on_4 : decode cX0_on 4 = .ok (.invokestatic 15, 3) := by decide +kernel
theorem dX0_on_7 : decode cX0_on 7 = .ok (.ireturn, 1) := by decide +kernel
theorem dX0_across_0 : decode cX0_across 0 = .ok (.iload_n 0, 1) := by decide +kernel
theorem dX0_across_1 : decode cX0_across 1 = .ok (.invokestatic 9, 3) := by decide +kernel
theorem dX0_across_4 : decode cX0_across 4 = .ok (.ifCond .eq 10, 3) := by decide +kernel
theorem dX0_across_7 : decode cX0_across 7 = .ok (.iload_n 1, 1) := by decide +kernel
theorem dX0_across_8 : decode cX0_across 8 = .ok (.invokestatic 21, 3) := by decide +kernel
theorem dX0_across_11 : decode cX0_across 11 = .ok (.ifCond .ne 6, 3) := by decide +kernel
theorem dX0_across_14 : decode cX0_across 14 = .ok (.bipush (-2), 2) := by decide +kernel
theorem dX0_across_16 : decode cX0_across 16 = .ok (.ireturn, 1) := by decide +kernel
theorem dX0_across_17 : decode cX0_across 17 = .ok (.getstatic 24, 3) := by decide +kernel
theorem dX0_across_20 : decode cX0_across 20 = .ok (.iload_n 0, 1) := by decide +kernel
theorem dX0_across_21 : decode cX0_across 21 = .ok (.iconst 5, 1) := by decide +kernel
theorem dX0_across_22 : decode cX0_across 22 = .ok (.imul, 1) := by decide +kernel
theorem dX0_across_23 : decode cX0_across 23 = .ok (.iload_n 1, 1) := by decide +kernel
theorem dX0_across_24 : decode cX0_across 24 = .ok (.iadd, 1) := by decide +kernel
theorem dX0_across_25 : decode cX0_across 25 = .ok (.iaload, 1) := by decide +kernel
theorem dX0_across_26 : decode cX0_across 26 = .ok (.ireturn, 1) := by decide +kernel
theorem dX0_sideTo_0 : decode cX0_sideTo 0 = .ok (.iconst 0, 1) := by decide +kernel
theorem dX0_sideTo_1 : decode cX0_sideTo 1 = .ok (.istore_n 2, 1) := by decide +kernel
theorem dX0_sideTo_2 : decode cX0_sideTo 2 = .ok (.iload_n 2, 1) := by decide +kernel
theorem dX0_sideTo_3 : decode cX0_sideTo 3 = .ok (.iconst 5, 1) := by decide +kernel
theorem dX0_sideTo_4 : decode cX0_sideTo 4 = .ok (.if_icmp .ge 27, 3) := by decide +kernel
theorem dX0_sideTo_7 : decode cX0_sideTo 7 = .ok (.iload_n 1, 1) := by decide +kernel
theorem dX0_sideTo_8 : decode cX0_sideTo 8 = .ok (.invokestatic 9, 3) := by decide +kernel
theorem dX0_sideTo_11 : decode cX0_sideTo 11 = .ok (.ifCond .eq 14, 3) := by decide +kernel
theorem dX0_sideTo_14 : decode cX0_sideTo 14 = .ok (.iload_n 0, 1) := by decide +kernel
theorem dX0_sideTo_15 : decode cX0_sideTo 15 = .ok (.iload_n 2, 1) := by decide +kernel
theorem dX0_sideTo_16 : decode cX0_sideTo 16 = .ok (.invokestatic 28, 3) := by decide +kernel
theorem dX0_sideTo_19 : decode cX0_sideTo 19 = .ok (.iload_n 1, 1) := by decide +kernel
theorem dX0_sideTo_20 : decode cX0_sideTo 20 = .ok (.if_icmp .ne 5, 3) := by decide +kernel
theorem dX0_sideTo_23 : decode cX0_sideTo 23 = .ok (.iload_n 2, 1) := by decide +kernel
theorem dX0_sideTo_24 : decode cX0_sideTo 24 = .ok (.ireturn, 1) := by decide +kernel
theorem dX0_sideTo_25 : decode cX0_sideTo 25 = .ok (.iinc 2 1, 3) := by decide +kernel
theorem dX0_sideTo_28 : decode cX0_sideTo 28 = .ok (.goto (-26), 3) := by decide +kernel
theorem dX0_sideTo_31 : decode cX0_sideTo 31 = .ok (.iconst (-1), 1) := by decide +kernel
theorem dX0_sideTo_32 : decode cX0_sideTo 32 = .ok (.ireturn, 1) := by decide +kernel
theorem dX0_allBeside_0 : decode cX0_allBeside 0 = .ok (.iconst 0, 1) := by decide +kernel
theorem dX0_allBeside_1 : decode cX0_allBeside 1 = .ok (.istore_n 1, 1) := by decide +kernel
theorem dX0_allBeside_2 : decode cX0_allBeside 2 = .ok (.iconst 0, 1) := by decide +kernel
theorem dX0_allBeside_3 : decode cX0_allBeside 3 = .ok (.istore_n 2, 1) := by decide +kernel
theorem dX0_allBeside_4 : decode cX0_allBeside 4 = .ok (.iload_n 2, 1) := by decide +kernel
theorem dX0_allBeside_5 : decode cX0_allBeside 5 = .ok (.iconst 5, 1) := by decide +kernel
theorem dX0_allBeside_6 : decode cX0_allBeside 6 = .ok (.if_icmp .ge 26, 3) := by decide +kernel
theorem dX0_allBeside_9 : decode cX0_allBeside 9 = .ok (.iload_n 0, 1) := by decide +kernel
theorem dX0_allBeside_10 : decode cX0_allBeside 10 = .ok (.invokestatic 9, 3) := by decide +kernel
theorem dX0_allBeside_13 : decode cX0_allBeside 13 = .ok (.ifCond .eq 19, 3) := by decide +kernel
theorem dX0_allBeside_16 : decode cX0_allBeside 16 = .ok (.iload_n 1, 1) := by decide +kernel
theorem dX0_allBeside_17 : decode cX0_allBeside 17 = .ok (.iconst 1, 1) := by decide +kernel
theorem dX0_allBeside_18 : decode cX0_allBeside 18 = .ok (.iload_n 0, 1) := by decide +kernel
theorem dX0_allBeside_19 : decode cX0_allBeside 19 = .ok (.iload_n 2, 1) := by decide +kernel
theorem dX0_allBeside_20 : decode cX0_allBeside 20 = .ok (.invokestatic 28, 3) := by decide +kernel
theorem dX0_allBeside_23 : decode cX0_allBeside 23 = .ok (.ishl, 1) := by decide +kernel
theorem dX0_allBeside_24 : decode cX0_allBeside 24 = .ok (.ior, 1) := by decide +kernel
theorem dX0_allBeside_25 : decode cX0_allBeside 25 = .ok (.istore_n 1, 1) := by decide +kernel
theorem dX0_allBeside_26 : decode cX0_allBeside 26 = .ok (.iinc 2 1, 3) := by decide +kernel
theorem dX0_allBeside_29 : decode cX0_allBeside 29 = .ok (.goto (-25), 3) := by decide +kernel
theorem dX0_allBeside_32 : decode cX0_allBeside 32 = .ok (.iload_n 1, 1) := by decide +kernel
theorem dX0_allBeside_33 : decode cX0_allBeside 33 = .ok (.ireturn, 1) := by decide +kernel
theorem dX0_distance_0 : decode cX0_distance 0 = .ok (.iconst 1, 1) := by decide +kernel
theorem dX0_distance_1 : decode cX0_distance 1 = .ok (.iload_n 0, 1) := by decide +kernel
theorem dX0_distance_2 : decode cX0_distance 2 = .ok (.ishl, 1) := by decide +kernel
theorem dX0_distance_3 : decode cX0_distance 3 = .ok (.istore_n 2, 1) := by decide +kernel
theorem dX0_distance_4 : decode cX0_distance 4 = .ok (.iconst 0, 1) := by decide +kernel
theorem dX0_distance_5 : decode cX0_distance 5 = .ok (.istore_n 3, 1) := by decide +kernel
theorem dX0_distance_6 : decode cX0_distance 6 = .ok (.iload_n 3, 1) := by decide +kernel
theorem dX0_distance_7 : decode cX0_distance 7 = .ok (.bipush 12, 2) := by decide +kernel
theorem dX0_distance_9 : decode cX0_distance 9 = .ok (.if_icmp .ge 24, 3) := by decide +kernel
theorem dX0_distance_12 : decode cX0_distance 12 = .ok (.iload_n 2, 1) := by decide +kernel
theorem dX0_distance_13 : decode cX0_distance 13 = .ok (.iload_n 1, 1) := by decide +kernel
theorem dX0_distance_14 : decode cX0_distance 14 = .ok (.invokestatic 31, 3) := by decide +kernel
theorem dX0_distance_17 : decode cX0_distance 17 = .ok (.ifCond .eq 5, 3) := by decide +kernel
theorem dX0_distance_20 : decode cX0_distance 20 = .ok (.iload_n 3, 1) := by decide +kernel
theorem dX0_distance_21 : decode cX0_distance 21 = .ok (.ireturn, 1) := by decide +kernel
theorem dX0_distance_22 : decode cX0_distance 22 = .ok (.iload_n 2, 1) := by decide +kernel
theorem dX0_distance_23 : decode cX0_distance 23 = .ok (.invokestatic 35, 3) := by decide +kernel
theorem dX0_distance_26 : decode cX0_distance 26 = .ok (.istore_n 2, 1) := by decide +kernel
theorem dX0_distance_27 : decode cX0_distance 27 = .ok (.iinc 3 1, 3) := by decide +kernel
theorem dX0_distance_30 : decode cX0_distance 30 = .ok (.goto (-24), 3) := by decide +kernel
theorem dX0_distance_33 : decode cX0_distance 33 = .ok (.iconst (-1), 1) := by decide +kernel
theorem dX0_distance_34 : decode cX0_distance 34 = .ok (.ireturn, 1) := by decide +kernel
theorem dX0_withThoseBeside_0 : decode cX0_withThoseBeside 0 = .ok (.iload_n 0, 1) := by decide +kernel
theorem dX0_withThoseBeside_1 : decode cX0_withThoseBeside 1 = .ok (.istore_n 1, 1) := by decide +kernel
theorem dX0_withThoseBeside_2 : decode cX0_withThoseBeside 2 = .ok (.iconst 0, 1) := by decide +kernel
theorem dX0_withThoseBeside_3 : decode cX0_withThoseBeside 3 = .ok (.istore_n 2, 1) := by decide +kernel
theorem dX0_withThoseBeside_4 : decode cX0_withThoseBeside 4 = .ok (.iload_n 2, 1) := by decide +kernel
theorem dX0_withThoseBeside_5 : decode cX0_withThoseBeside 5 = .ok (.bipush 12, 2) := by decide +kernel
theorem dX0_withThoseBeside_7 : decode cX0_withThoseBeside 7 = .ok (.if_icmp .ge 24, 3) := by decide +kernel
theorem dX0_withThoseBeside_10 : decode cX0_withThoseBeside 10 = .ok (.iload_n 0, 1) := by decide +kernel
theorem dX0_withThoseBeside_11 : decode cX0_withThoseBeside 11 = .ok (.iload_n 2, 1) := by decide +kernel
theorem dX0_withThoseBeside_12 : decode cX0_withThoseBeside 12 = .ok (.invokestatic 31, 3) := by decide +kernel
theorem dX0_withThoseBeside_15 : decode cX0_withThoseBeside 15 = .ok (.ifCond .eq 10, 3) := by decide +kernel
theorem dX0_withThoseBeside_18 : decode cX0_withThoseBeside 18 = .ok (.iload_n 1, 1) := by decide +kernel
theorem dX0_withThoseBeside_19 : decode cX0_withThoseBeside 19 = .ok (.iload_n 2, 1) := by decide +kernel
theorem dX0_withThoseBeside_20 : decode cX0_withThoseBeside 20 = .ok (.invokestatic 39, 3) := by decide +kernel
theorem dX0_withThoseBeside_23 : decode cX0_withThoseBeside 23 = .ok (.ior, 1) := by decide +kernel
theorem dX0_withThoseBeside_24 : decode cX0_withThoseBeside 24 = .ok (.istore_n 1, 1) := by decide +kernel
theorem dX0_withThoseBeside_25 : decode cX0_withThoseBeside 25 = .ok (.iinc 2 1, 3) := by decide +kernel
theorem dX0_withThoseBeside_28 : decode cX0_withThoseBeside 28 = .ok (.goto (-24), 3) := by decide +kernel
theorem dX0_withThoseBeside_31 : decode cX0_withThoseBeside 31 = .ok (.iload_n 1, 1) := by decide +kernel
theorem dX0_withThoseBeside_32 : decode cX0_withThoseBeside 32 = .ok (.ireturn, 1) := by decide +kernel
theorem dX0_opposite_0 : decode cX0_opposite 0 = .ok (.iconst 0, 1) := by decide +kernel
theorem dX0_opposite_1 : decode cX0_opposite 1 = .ok (.istore_n 1, 1) := by decide +kernel
theorem dX0_opposite_2 : decode cX0_opposite 2 = .ok (.iload_n 1, 1) := by decide +kernel
theorem dX0_opposite_3 : decode cX0_opposite 3 = .ok (.bipush 12, 2) := by decide +kernel
theorem dX0_opposite_5 : decode cX0_opposite 5 = .ok (.if_icmp .ge 20, 3) := by decide +kernel
theorem dX0_opposite_8 : decode cX0_opposite 8 = .ok (.iload_n 0, 1) := by decide +kernel
theorem dX0_opposite_9 : decode cX0_opposite 9 = .ok (.iload_n 1, 1) := by decide +kernel
theorem dX0_opposite_10 : decode cX0_opposite 10 = .ok (.invokestatic 42, 3) := by decide +kernel
theorem dX0_opposite_13 : decode cX0_opposite 13 = .ok (.iconst 3, 1) := by decide +kernel
theorem dX0_opposite_14 : decode cX0_opposite 14 = .ok (.if_icmp .ne 5, 3) := by decide +kernel
theorem dX0_opposite_17 : decode cX0_opposite 17 = .ok (.iload_n 1, 1) := by decide +kernel
theorem dX0_opposite_18 : decode cX0_opposite 18 = .ok (.ireturn, 1) := by decide +kernel
theorem dX0_opposite_19 : decode cX0_opposite 19 = .ok (.iinc 1 1, 3) := by decide +kernel
theorem dX0_opposite_22 : decode cX0_opposite 22 = .ok (.goto (-20), 3) := by decide +kernel
theorem dX0_opposite_25 : decode cX0_opposite 25 = .ok (.iconst (-1), 1) := by decide +kernel
theorem dX0_opposite_26 : decode cX0_opposite 26 = .ok (.ireturn, 1) := by decide +kernel
theorem dX1_init_0 : decode cX1_init 0 = .ok (.aload_n 0, 1) := by decide +kernel
theorem dX1_init_1 : decode cX1_init 1 = .ok (.invokespecial 3, 3) := by decide +kernel
theorem dX1_init_4 : decode cX1_init 4 = .ok (.aload_n 0, 1) := by decide +kernel
theorem dX1_init_5 : decode cX1_init 5 = .ok (.bipush 12, 2) := by decide +kernel
theorem dX1_init_7 : decode cX1_init 7 = .ok (.newarray .int, 2) := by decide +kernel
theorem dX1_init_9 : decode cX1_init 9 = .ok (.putfield 9, 3) := by decide +kernel
theorem dX1_init_12 : decode cX1_init 12 = .ok (.aload_n 0, 1) := by decide +kernel
theorem dX1_init_13 : decode cX1_init 13 = .ok (.bipush 12, 2) := by decide +kernel
theorem dX1_init_15 : decode cX1_init 15 = .ok (.newarray .int, 2) := by decide +kernel
theorem dX1_init_17 : decode cX1_init 17 = .ok (.putfield 15, 3) := by decide +kernel
theorem dX1_init_20 : decode cX1_init 20 = .ok (.return_, 1) := by decide +kernel
theorem dX1_begin_0 : decode cX1_begin 0 = .ok (.iconst 0, 1) := by decide +kernel
theorem dX1_begin_1 : decode cX1_begin 1 = .ok (.istore_n 1, 1) := by decide +kernel
theorem dX1_begin_2 : decode cX1_begin 2 = .ok (.iload_n 1, 1) := by decide +kernel
theorem dX1_begin_3 : decode cX1_begin 3 = .ok (.aload_n 0, 1) := by decide +kernel
theorem dX1_begin_4 : decode cX1_begin 4 = .ok (.getfield 9, 3) := by decide +kernel
theorem dX1_begin_7 : decode cX1_begin 7 = .ok (.arraylength, 1) := by decide +kernel
theorem dX1_begin_8 : decode cX1_begin 8 = .ok (.if_icmp .ge 16, 3) := by decide +kernel
theorem dX1_begin_11 : decode cX1_begin 11 = .ok (.aload_n 0, 1) := by decide +kernel
theorem dX1_begin_12 : decode cX1_begin 12 = .ok (.getfield 9, 3) := by decide +kernel
theorem dX1_begin_15 : decode cX1_begin 15 = .ok (.iload_n 1, 1) := by decide +kernel
theorem dX1_begin_16 : decode cX1_begin 16 = .ok (.iconst 0, 1) := by decide +kernel
theorem dX1_begin_17 : decode cX1_begin 17 = .ok (.iastore, 1) := by decide +kernel
theorem dX1_begin_18 : decode cX1_begin 18 = .ok (.iinc 1 1, 3) := by decide +kernel
theorem dX1_begin_21 : decode cX1_begin 21 = .ok (.goto (-19), 3) := by decide +kernel
theorem dX1_begin_24 : decode cX1_begin 24 = .ok (.aload_n 0, 1) := by decide +kernel
theorem dX1_begin_25 : decode cX1_begin 25 = .ok (.iconst 0, 1) := by decide +kernel
theorem dX1_begin_26 : decode cX1_begin 26 = .ok (.iconst 0, 1) := by decide +kernel
theorem dX1_begin_27 : decode cX1_begin 27 = .ok (.invokevirtual 18, 3) := by decide +kernel
theorem dX1_begin_30 : decode cX1_begin 30 = .ok (.return_, 1) := by decide +kernel
theorem dX1_take_0 : decode cX1_take 0 = .ok (.iconst 0, 1) := by decide +kernel
theorem dX1_take_1 : decode cX1_take 1 = .ok (.istore_n 2, 1) := by decide +kernel
theorem dX1_take_2 : decode cX1_take 2 = .ok (.iload_n 2, 1) := by decide +kernel
theorem dX1_take_3 : decode cX1_take 3 = .ok (.aload_n 0, 1) := by decide +kernel
theorem dX1_take_4 : decode cX1_take 4 = .ok (.getfield 9, 3) := by decide +kernel
theorem dX1_take_7 : decode cX1_take 7 = .ok (.arraylength, 1) := by decide +kernel
theorem dX1_take_8 : decode cX1_take 8 = .ok (.if_icmp .ge 20, 3) := by decide +kernel
theorem dX1_take_11 : decode cX1_take 11 = .ok (.aload_n 0, 1) := by decide +kernel
theorem dX1_take_12 : decode cX1_take 12 = .ok (.getfield 9, 3) := by decide +kernel
theorem dX1_take_15 : decode cX1_take 15 = .ok (.iload_n 2, 1) := by decide +kernel
theorem dX1_take_16 : decode cX1_take 16 = .ok (.aload_n 1, 1) := by decide +kernel
theorem dX1_take_17 : decode cX1_take 17 = .ok (.iload_n 2, 1) := by decide +kernel
theorem dX1_take_18 : decode cX1_take 18 = .ok (.invokevirtual 22, 3) := by decide +kernel
theorem dX1_take_21 : decode cX1_take 21 = .ok (.iastore, 1) := by decide +kernel
theorem dX1_take_22 : decode cX1_take 22 = .ok (.iinc 2 1, 3) := by decide +kernel
theorem dX1_take_25 : decode cX1_take 25 = .ok (.goto (-23), 3) := by decide +kernel
theorem dX1_take_28 : decode cX1_take 28 = .ok (.aload_n 0, 1) := by decide +kernel
theorem dX1_take_29 : decode cX1_take 29 = .ok (.aload_n 1, 1) := by decide +kernel
theorem dX1_take_30 : decode cX1_take 30 = .ok (.getfield 26, 3) := by decide +kernel
theorem dX1_take_33 : decode cX1_take 33 = .ok (.putfield 26, 3) := by decide +kernel
theorem dX1_take_36 : decode cX1_take 36 = .ok (.aload_n 0, 1) := by decide +kernel
theorem dX1_take_37 : decode cX1_take 37 = .ok (.aload_n 1, 1) := by decide +kernel
theorem dX1_take_38 : decode cX1_take 38 = .ok (.getfield 30, 3) := by decide +kernel
theorem dX1_take_41 : decode cX1_take 41 = .ok (.putfield 30, 3) := by decide +kernel
theorem dX1_take_44 : decode cX1_take 44 = .ok (.aload_n 0, 1) := by decide +kernel
theorem dX1_take_45 : decode cX1_take 45 = .ok (.aload_n 1, 1) := by decide +kernel
theorem dX1_take_46 : decode cX1_take 46 = .ok (.getfield 33, 3) := by decide +kernel
theorem dX1_take_49 : decode cX1_take 49 = .ok (.putfield 33, 3) := by decide +kernel
theorem dX1_take_52 : decode cX1_take 52 = .ok (.aload_n 0, 1) := by decide +kernel
theorem dX1_take_53 : decode cX1_take 53 = .ok (.iconst 1, 1) := by decide +kernel
theorem dX1_take_54 : decode cX1_take 54 = .ok (.putfield 36, 3) := by decide +kernel
theorem dX1_take_57 : decode cX1_take 57 = .ok (.return_, 1) := by decide +kernel
theorem dX1_forget_0 : decode cX1_forget 0 = .ok (.aload_n 0, 1) := by decide +kernel
theorem dX1_forget_1 : decode cX1_forget 1 = .ok (.iconst 0, 1) := by decide +kernel
theorem dX1_forget_2 : decode cX1_forget 2 = .ok (.putfield 36, 3) := by decide +kernel
theorem dX1_forget_5 : decode cX1_forget 5 = .ok (.return_, 1) := by decide +kernel
theorem dX1_isTaken_0 : decode cX1_isTaken 0 = .ok (.aload_n 0, 1) := by decide +kernel
theorem dX1_isTaken_1 : decode cX1_isTaken 1 = .ok (.getfield 36, 3) := by decide +kernel
theorem dX1_isTaken_4 : decode cX1_isTaken 4 = .ok (.ireturn, 1) := by decide +kernel
theorem dX1_kindOf_0 : decode cX1_kindOf 0 = .ok (.iload_n 1, 1) := by decide +kernel
theorem dX1_kindOf_1 : decode cX1_kindOf 1 = .ok (.ifCond .lt 21, 3) := by decide +kernel
theorem dX1_kindOf_4 : decode cX1_kindOf 4 = .ok (.iload_n 1, 1) := by decide +kernel
theorem dX1_kindOf_5 : decode cX1_kindOf 5 = .ok (.aload_n 0, 1) := by decide +kernel
theorem dX1_kindOf_6 : decode cX1_kindOf 6 = .ok (.getfield 9, 3) := by decide +kernel
theorem dX1_kindOf_9 : decode cX1_kindOf 9 = .ok (.arraylength, 1) := by decide +kernel
theorem dX1_kindOf_10 : decode cX1_kindOf 10 = .ok (.if_icmp .ge 12, 3) := by decide +kernel
theorem dX1_kindOf_13 : decode cX1_kindOf 13 = .ok (.aload_n 0, 1) := by decide +kernel
theorem dX1_kindOf_14 : decode cX1_kindOf 14 = .ok (.getfield 9, 3) := by decide +kernel
theorem dX1_kindOf_17 : decode cX1_kindOf 17 = .ok (.iload_n 1, 1) := by decide +kernel
theorem dX1_kindOf_18 : decode cX1_kindOf 18 = .ok (.iaload, 1) := by decide +kernel
theorem dX1_kindOf_19 : decode cX1_kindOf 19 = .ok (.goto 4, 3) := by decide +kernel
theorem dX1_kindOf_22 : decode cX1_kindOf 22 = .ok (.iconst 0, 1) := by decide +kernel
theorem dX1_kindOf_23 : decode cX1_kindOf 23 = .ok (.ireturn, 1) := by decide +kernel
theorem dX1_allOfKind_0 : decode cX1_allOfKind 0 = .ok (.iconst 0, 1) := by decide +kernel
theorem dX1_allOfKind_1 : decode cX1_allOfKind 1 = .ok (.istore_n 2, 1) := by decide +kernel
theorem dX1_allOfKind_2 : decode cX1_allOfKind 2 = .ok (.iconst 0, 1) := by decide +kernel
theorem dX1_allOfKind_3 : decode cX1_allOfKind 3 = .ok (.istore_n 3, 1) := by decide +kernel
theorem dX1_allOfKind_4 : decode cX1_allOfKind 4 = .ok (.iload_n 3, 1) := by decide +kernel
theorem dX1_allOfKind_5 : decode cX1_allOfKind 5 = .ok (.aload_n 0, 1) := by decide +kernel
theorem dX1_allOfKind_6 : decode cX1_allOfKind 6 = .ok (.getfield 9, 3) := by decide +kernel
theorem dX1_allOfKind_9 : decode cX1_allOfKind 9 = .ok (.arraylength, 1) := by decide +kernel
theorem dX1_allOfKind_10 : decode cX1_allOfKind 10 = .ok (.if_icmp .ge 25, 3) := by decide +kernel
theorem dX1_allOfKind_13 : decode cX1_allOfKind 13 = .ok (.aload_n 0, 1) := by decide +kernel
theorem dX1_allOfKind_14 : decode cX1_allOfKind 14 = .ok (.getfield 9, 3) := by decide +kernel
theorem dX1_allOfKind_17 : decode cX1_allOfKind 17 = .ok (.iload_n 3, 1) := by decide +kernel
theorem dX1_allOfKind_18 : decode cX1_allOfKind 18 = .ok (.iaload, 1) := by decide +kernel
theorem dX1_allOfKind_19 : decode cX1_allOfKind 19 = .ok (.iload_n 1, 1) := by decide +kernel
theorem dX1_allOfKind_20 : decode cX1_allOfKind 20 = .ok (.if_icmp .ne 9, 3) := by decide +kernel
theorem dX1_allOfKind_23 : decode cX1_allOfKind 23 = .ok (.iload_n 2, 1) := by decide +kernel
theorem dX1_allOfKind_24 : decode cX1_allOfKind 24 = .ok (.iconst 1, 1) := by decide +kernel
theorem dX1_allOfKind_25 : decode cX1_allOfKind 25 = .ok (.iload_n 3, 1) := by decide +kernel
theorem dX1_allOfKind_26 : decode cX1_allOfKind 26 = .ok (.ishl, 1) := by decide +kernel
theorem dX1_allOfKind_27 : decode cX1_allOfKind 27 = .ok (.ior, 1) := by decide +kernel
theorem dX1_allOfKind_28 : decode cX1_allOfKind 28 = .ok (.istore_n 2, 1) := by decide +kernel
theorem dX1_allOfKind_29 : decode cX1_allOfKind 29 = .ok (.iinc 3 1, 3) := by decide +kernel
theorem dX1_allOfKind_32 : decode cX1_allOfKind 32 = .ok (.goto (-28), 3) := by decide +kernel
theorem dX1_allOfKind_35 : decode cX1_allOfKind 35 = .ok (.iload_n 2, 1) := by decide +kernel
theorem dX1_allOfKind_36 : decode cX1_allOfKind 36 = .ok (.ireturn, 1) := by decide +kernel
theorem dX1_plant_0 : decode cX1_plant 0 = .ok (.iload_n 1, 1) := by decide +kernel
theorem dX1_plant_1 : decode cX1_plant 1 = .ok (.ifCond .lt 19, 3) := by decide +kernel
theorem dX1_plant_4 : decode cX1_plant 4 = .ok (.iload_n 1, 1) := by decide +kernel
theorem dX1_plant_5 : decode cX1_plant 5 = .ok (.aload_n 0, 1) := by decide +kernel
theorem dX1_plant_6 : decode cX1_plant 6 = .ok (.getfield 9, 3) := by decide +kernel
theorem dX1_plant_9 : decode cX1_plant 9 = .ok (.arraylength, 1) := by decide +kernel
theorem dX1_plant_10 : decode cX1_plant 10 = .ok (.if_icmp .ge 10, 3) := by decide +kernel
theorem dX1_plant_13 : decode cX1_plant 13 = .ok (.aload_n 0, 1) := by decide +kernel
theorem dX1_plant_14 : decode cX1_plant 14 = .ok (.getfield 9, 3) := by decide +kernel
theorem dX1_plant_17 : decode cX1_plant 17 = .ok (.iload_n 1, 1) := by decide +kernel
theorem dX1_plant_18 : decode cX1_plant 18 = .ok (.iload_n 2, 1) := by decide +kernel
theorem dX1_plant_19 : decode cX1_plant 19 = .ok (.iastore, 1) := by decide +kernel
theorem dX1_plant_20 : decode cX1_plant 20 = .ok (.return_, 1) := by decide +kernel
theorem dX1_turn_0 : decode cX1_turn 0 = .ok (.iconst 0, 1) := by decide +kernel
theorem dX1_turn_1 : decode cX1_turn 1 = .ok (.istore_n 3, 1) := by decide +kernel
theorem dX1_turn_2 : decode cX1_turn 2 = .ok (.iload_n 3, 1) := by decide +kernel
theorem dX1_turn_3 : decode cX1_turn 3 = .ok (.bipush 12, 2) := by decide +kernel
theorem dX1_turn_5 : decode cX1_turn 5 = .ok (.if_icmp .ge 44, 3) := by decide +kernel
theorem dX1_turn_8 : decode cX1_turn 8 = .ok (.aload_n 1, 1) := by decide +kernel
theorem dX1_turn_9 : decode cX1_turn 9 = .ok (.iload_n 2, 1) := by decide +kernel
theorem dX1_turn_10 : decode cX1_turn 10 = .ok (.iload_n 3, 1) := by decide +kernel
theorem dX1_turn_11 : decode cX1_turn 11 = .ok (.invokevirtual 40, 3) := by decide +kernel
theorem dX1_turn_14 : decode cX1_turn 14 = .ok (.istore 4, 2) := by decide +kernel
theorem dX1_turn_16 : decode cX1_turn 16 = .ok (.iload 4, 2) := by decide +kernel
theorem dX1_turn_18 : decode cX1_turn 18 = .ok (.ifCond .lt 25, 3) := by decide +kernel
theorem dX1_turn_21 : decode cX1_turn 21 = .ok (.iload 4, 2) := by decide +kernel
theorem dX1_turn_23 : decode cX1_turn 23 = .ok (.aload_n 0, 1) := by decide +kernel
theorem dX1_turn_24 : decode cX1_turn 24 = .ok (.getfield 15, 3) := by decide +kernel
theorem dX1_turn_27 : decode cX1_turn 27 = .ok (.arraylength, 1) := by decide +kernel
theorem dX1_turn_28 : decode cX1_turn 28 = .ok (.if_icmp .ge 15, 3) := by decide +kernel
theorem dX1_turn_31 : decode cX1_turn 31 = .ok (.aload_n 0, 1) := by decide +kernel
theorem dX1_turn_32 : decode cX1_turn 32 = .ok (.getfield 15, 3) := by decide +kernel
theorem dX1_turn_35 : decode cX1_turn 35 = .ok (.iload 4, 2) := by decide +kernel
theorem dX1_turn_37 : decode cX1_turn 37 = .ok (.aload_n 0, 1) := by decide +kernel
theorem dX1_turn_38 : decode cX1_turn 38 = .ok (.iload_n 3, 1) := by decide +kernel
theorem dX1_turn_39 : decode cX1_turn 39 = .ok (.invokevirtual 22, 3) := by decide +kernel
theorem dX1_turn_42 : decode cX1_turn 42 = .ok (.iastore, 1) := by decide +kernel
theorem dX1_turn_43 : decode cX1_turn 43 = .ok (.iinc 3 1, 3) := by decide +kernel
theorem dX1_turn_46 : decode cX1_turn 46 = .ok (.goto (-44), 3) := by decide +kernel
theorem dX1_turn_49 : decode cX1_turn 49 = .ok (.iconst 0, 1) := by decide +kernel
theorem dX1_turn_50 : decode cX1_turn 50 = .ok (.istore_n 3, 1) := by decide +kernel
theorem dX1_turn_51 : decode cX1_turn 51 = .ok (.iconst 0, 1) := by decide +kernel
theorem dX1_turn_52 : decode cX1_turn 52 = .ok (.istore 4, 2) := by decide +kernel
theorem dX1_turn_54 : decode cX1_turn 54 = .ok (.iload 4, 2) := by decide +kernel
theorem dX1_turn_56 : decode cX1_turn 56 = .ok (.aload_n 0, 1) := by decide +kernel
theorem dX1_turn_57 : decode cX1_turn 57 = .ok (.getfield 15, 3) := by decide +kernel
theorem dX1_turn_60 : decode cX1_turn 60 = .ok (.arraylength, 1) := by decide +kernel
theorem dX1_turn_61 : decode cX1_turn 61 = .ok (.if_icmp .ge 41, 3) := by decide +kernel
theorem dX1_turn_64 : decode cX1_turn 64 = .ok (.aload_n 0, 1) := by decide +kernel
theorem dX1_turn_65 : decode cX1_turn 65 = .ok (.getfield 15, 3) := by decide +kernel
theorem dX1_turn_68 : decode cX1_turn 68 = .ok (.iload 4, 2) := by decide +kernel
theorem dX1_turn_70 : decode cX1_turn 70 = .ok (.iaload, 1) := by decide +kernel
theorem dX1_turn_71 : decode cX1_turn 71 = .ok (.aload_n 0, 1) := by decide +kernel
theorem dX1_turn_72 : decode cX1_turn 72 = .ok (.iload 4, 2) := by decide +kernel
theorem dX1_turn_74 : decode cX1_turn 74 = .ok (.invokevirtual 22, 3) := by decide +kernel
theorem dX1_turn_77 : decode cX1_turn 77 = .ok (.if_icmp .eq 6, 3) := by decide +kernel
theorem dX1_turn_80 : decode cX1_turn 80 = .ok (.iinc 3 1, 3) := by decide +kernel
theorem dX1_turn_83 : decode cX1_turn 83 = .ok (.aload_n 0, 1) := by decide +kernel
theorem dX1_turn_84 : decode cX1_turn 84 = .ok (.iload 4, 2) := by decide +kernel
theorem dX1_turn_86 : decode cX1_turn 86 = .ok (.aload_n 0, 1) := by decide +kernel
theorem dX1_turn_87 : decode cX1_turn 87 = .ok (.getfield 15, 3) := by decide +kernel
theorem dX1_turn_90 : decode cX1_turn 90 = .ok (.iload 4, 2) := by decide +kernel
theorem dX1_turn_92 : decode cX1_turn 92 = .ok (.iaload, 1) := by decide +kernel
theorem dX1_turn_93 : decode cX1_turn 93 = .ok (.invokevirtual 46, 3) := by decide +kernel
theorem dX1_turn_96 : decode cX1_turn 96 = .ok (.iinc 4 1, 3) := by decide +kernel
theorem dX1_turn_99 : decode cX1_turn 99 = .ok (.goto (-45), 3) := by decide +kernel
theorem dX1_turn_102 : decode cX1_turn 102 = .ok (.iload_n 3, 1) := by decide +kernel
theorem dX1_turn_103 : decode cX1_turn 103 = .ok (.ireturn, 1) := by decide +kernel
theorem dX1_stand_0 : decode cX1_stand 0 = .ok (.aload_n 0, 1) := by decide +kernel
theorem dX1_stand_1 : decode cX1_stand 1 = .ok (.iload_n 1, 1) := by decide +kernel
theorem dX1_stand_2 : decode cX1_stand 2 = .ok (.putfield 26, 3) := by decide +kernel
theorem dX1_stand_5 : decode cX1_stand 5 = .ok (.aload_n 0, 1) := by decide +kernel
theorem dX1_stand_6 : decode cX1_stand 6 = .ok (.iload_n 2, 1) := by decide +kernel
theorem dX1_stand_7 : decode cX1_stand 7 = .ok (.putfield 30, 3) := by decide +kernel
theorem dX1_stand_10 : decode cX1_stand 10 = .ok (.return_, 1) := by decide +kernel
theorem dX1_move_0 : decode cX1_move 0 = .ok (.aload_n 0, 1) := by decide +kernel
theorem dX1_move_1 : decode cX1_move 1 = .ok (.iload_n 1, 1) := by decide +kernel
theorem dX1_move_2 : decode cX1_move 2 = .ok (.iload_n 2, 1) := by decide +kernel
theorem dX1_move_3 : decode cX1_move 3 = .ok (.invokevirtual 18, 3) := by decide +kernel
theorem dX1_move_6 : decode cX1_move 6 = .ok (.aload_n 0, 1) := by decide +kernel
theorem dX1_move_7 : decode cX1_move 7 = .ok (.dup, 1) := by decide +kernel
theorem dX1_move_8 : decode cX1_move 8 = .ok (.getfield 33, 3) := by decide +kernel
theorem dX1_move_11 : decode cX1_move 11 = .ok (.iconst 1, 1) := by decide +kernel
theorem dX1_move_12 : decode cX1_move 12 = .ok (.iadd, 1) := by decide +kernel
theorem dX1_move_13 : decode cX1_move 13 = .ok (.putfield 33, 3) := by decide +kernel
theorem dX1_move_16 : decode cX1_move 16 = .ok (.return_, 1) := by decide +kernel
theorem dX1_place_0 : decode cX1_place 0 = .ok (.aload_n 0, 1) := by decide +kernel
theorem dX1_place_1 : decode cX1_place 1 = .ok (.getfield 26, 3) := by decide +kernel
theorem dX1_place_4 : decode cX1_place 4 = .ok (.ireturn, 1) := by decide +kernel
theorem dX1_entry_0 : decode cX1_entry 0 = .ok (.aload_n 0, 1) := by decide +kernel
theorem dX1_entry_1 : decode cX1_entry 1 = .ok (.getfield 30, 3) := by decide +kernel
theorem dX1_entry_4 : decode cX1_entry 4 = .ok (.ireturn, 1) := by decide +kernel
theorem dX1_steps_0 : decode cX1_steps 0 = .ok (.aload_n 0, 1) := by decide +kernel
theorem dX1_steps_1 : decode cX1_steps 1 = .ok (.getfield 33, 3) := by decide +kernel
theorem dX1_steps_4 : decode cX1_steps 4 = .ok (.ireturn, 1) := by decide +kernel
theorem dX2_init_0 : decode cX2_init 0 = .ok (.aload_n 0, 1) := by decide +kernel
theorem dX2_init_1 : decode cX2_init 1 = .ok (.invokespecial 3, 3) := by decide +kernel
theorem dX2_init_4 : decode cX2_init 4 = .ok (.aload_n 0, 1) := by decide +kernel
theorem dX2_init_5 : decode cX2_init 5 = .ok (.bipush 12, 2) := by decide +kernel
theorem dX2_init_7 : decode cX2_init 7 = .ok (.newarray .long, 2) := by decide +kernel
theorem dX2_init_9 : decode cX2_init 9 = .ok (.putfield 9, 3) := by decide +kernel
theorem dX2_init_12 : decode cX2_init 12 = .ok (.aload_n 0, 1) := by decide +kernel
theorem dX2_init_13 : decode cX2_init 13 = .ok (.bipush 12, 2) := by decide +kernel
theorem dX2_init_15 : decode cX2_init 15 = .ok (.newarray .long, 2) := by decide +kernel
theorem dX2_init_17 : decode cX2_init 17 = .ok (.putfield 15, 3) := by decide +kernel
theorem dX2_init_20 : decode cX2_init 20 = .ok (.return_, 1) := by decide +kernel
theorem dX2_walkCount_0 : decode cX2_walkCount 0 = .ok (.aload_n 0, 1) := by decide +kernel
theorem dX2_walkCount_1 : decode cX2_walkCount 1 = .ok (.iload_n 2, 1) := by decide +kernel
theorem dX2_walkCount_2 : decode cX2_walkCount 2 = .ok (.invokevirtual 18, 3) := by decide +kernel
theorem dX2_walkCount_5 : decode cX2_walkCount 5 = .ok (.iconst 0, 1) := by decide +kernel
theorem dX2_walkCount_6 : decode cX2_walkCount 6 = .ok (.istore 5, 2) := by decide +kernel
theorem dX2_walkCount_8 : decode cX2_walkCount 8 = .ok (.iload 5, 2) := by decide +kernel
theorem dX2_walkCount_10 : decode cX2_walkCount 10 = .ok (.iload 4, 2) := by decide +kernel
theorem dX2_walkCount_12 : decode cX2_walkCount 12 = .ok (.if_icmp .ge 49, 3) := by decide +kernel
theorem dX2_walkCount_15 : decode cX2_walkCount 15 = .ok (.iconst 0, 1) := by decide +kernel
theorem dX2_walkCount_16 : decode cX2_walkCount 16 = .ok (.istore 6, 2) := by decide +kernel
theorem dX2_walkCount_18 : decode cX2_walkCount 18 = .ok (.iload 6, 2) := by decide +kernel
theorem dX2_walkCount_20 : decode cX2_walkCount 20 = .ok (.aload_n 0, 1) := by decide +kernel
theorem dX2_walkCount_21 : decode cX2_walkCount 21 = .ok (.getfield 9, 3) := by decide +kernel
theorem dX2_walkCount_24 : decode cX2_walkCount 24 = .ok (.arraylength, 1) := by decide +kernel
theorem dX2_walkCount_25 : decode cX2_walkCount 25 = .ok (.if_icmp .ge 26, 3) := by decide +kernel
theorem dX2_walkCount_28 : decode cX2_walkCount 28 = .ok (.aload_n 0, 1) := by decide +kernel
theorem dX2_walkCount_29 : decode cX2_walkCount 29 = .ok (.aload_n 1, 1) := by decide +kernel
theorem dX2_walkCount_30 : decode cX2_walkCount 30 = .ok (.iload 6, 2) := by decide +kernel
theorem dX2_walkCount_32 : decode cX2_walkCount 32 = .ok (.invokevirtual 22, 3) := by decide +kernel
theorem dX2_walkCount_35 : decode cX2_walkCount 35 = .ok (.aload_n 0, 1) := by decide +kernel
theorem dX2_walkCount_36 : decode cX2_walkCount 36 = .ok (.getfield 9, 3) := by decide +kernel
theorem dX2_walkCount_39 : decode cX2_walkCount 39 = .ok (.iload 6, 2) := by decide +kernel
theorem dX2_walkCount_41 : decode cX2_walkCount 41 = .ok (.laload, 1) := by decide +kernel
theorem dX2_walkCount_42 : decode cX2_walkCount 42 = .ok (.invokevirtual 28, 3) := by decide +kernel
theorem dX2_walkCount_45 : decode cX2_walkCount 45 = .ok (.iinc 6 1, 3) := by decide +kernel
theorem dX2_walkCount_48 : decode cX2_walkCount 48 = .ok (.goto (-30), 3) := by decide +kernel
theorem dX2_walkCount_51 : decode cX2_walkCount 51 = .ok (.aload_n 0, 1) := by decide +kernel
theorem dX2_walkCount_52 : decode cX2_walkCount 52 = .ok (.invokevirtual 32, 3) := by decide +kernel
theorem dX2_walkCount_55 : decode cX2_walkCount 55 = .ok (.iinc 5 1, 3) := by decide +kernel
theorem dX2_walkCount_58 : decode cX2_walkCount 58 = .ok (.goto (-50), 3) := by decide +kernel
theorem dX2_walkCount_61 : decode cX2_walkCount 61 = .ok (.aload_n 0, 1) := by decide +kernel
theorem dX2_walkCount_62 : decode cX2_walkCount 62 = .ok (.iload_n 3, 1) := by decide +kernel
theorem dX2_walkCount_63 : decode cX2_walkCount 63 = .ok (.invokevirtual 35, 3) := by decide +kernel
theorem dX2_walkCount_66 : decode cX2_walkCount 66 = .ok (.lreturn, 1) := by decide +kernel
theorem dX2_oddsPart_0 : decode cX2_oddsPart 0 = .ok (.lconst 1, 1) := by decide +kernel
theorem dX2_oddsPart_1 : decode cX2_oddsPart 1 = .ok (.lstore 6, 2) := by decide +kernel
theorem dX2_oddsPart_3 : decode cX2_oddsPart 3 = .ok (.aload_n 0, 1) := by decide +kernel
theorem dX2_oddsPart_4 : decode cX2_oddsPart 4 = .ok (.iload_n 2, 1) := by decide +kernel
theorem dX2_oddsPart_5 : decode cX2_oddsPart 5 = .ok (.invokevirtual 18, 3) := by decide +kernel
theorem dX2_oddsPart_8 : decode cX2_oddsPart 8 = .ok (.iconst 0, 1) := by decide +kernel
theorem dX2_oddsPart_9 : decode cX2_oddsPart 9 = .ok (.istore 8, 2) := by decide +kernel
theorem dX2_oddsPart_11 : decode cX2_oddsPart 11 = .ok (.iload 8, 2) := by decide +kernel
theorem dX2_oddsPart_13 : decode cX2_oddsPart 13 = .ok (.iload 4, 2) := by decide +kernel
theorem dX2_oddsPart_15 : decode cX2_oddsPart 15 = .ok (.if_icmp .ge 87, 3) := by decide +kernel
theorem dX2_oddsPart_18 : decode cX2_oddsPart 18 = .ok (.iconst 0, 1) := by decide +kernel
theorem dX2_oddsPart_19 : decode cX2_oddsPart 19 = .ok (.istore 9, 2) := by decide +kernel
theorem dX2_oddsPart_21 : decode cX2_oddsPart 21 = .ok (.iload 9, 2) := by decide +kernel
theorem dX2_oddsPart_23 : decode cX2_oddsPart 23 = .ok (.aload_n 0, 1) := by decide +kernel
theorem dX2_oddsPart_24 : decode cX2_oddsPart 24 = .ok (.getfield 9, 3) := by decide +kernel
theorem dX2_oddsPart_27 : decode cX2_oddsPart 27 = .ok (.arraylength, 1) := by decide +kernel
theorem dX2_oddsPart_28 : decode cX2_oddsPart 28 = .ok (.if_icmp .ge 56, 3) := by decide +kernel
theorem dX2_oddsPart_31 : decode cX2_oddsPart 31 = .ok (.aload_n 1, 1) := by decide +kernel
theorem dX2_oddsPart_32 : decode cX2_oddsPart 32 = .ok (.iload 9, 2) := by decide +kernel
theorem dX2_oddsPart_34 : decode cX2_oddsPart 34 = .ok (.invokevirtual 22, 3) := by decide +kernel
theorem dX2_oddsPart_37 : decode cX2_oddsPart 37 = .ok (.istore 10, 2) := by decide +kernel
theorem dX2_oddsPart_39 : decode cX2_oddsPart 39 = .ok (.iload 10, 2) := by decide +kernel
theorem dX2_oddsPart_41 : decode cX2_oddsPart 41 = .ok (.ifCond .ne 10, 3) := by decide +kernel
theorem dX2_oddsPart_44 : decode cX2_oddsPart 44 = .ok (.iconst 1, 1) := by decide +kernel
theorem dX2_oddsPart_45 : decode cX2_oddsPart 45 = .ok (.iload 9, 2) := by decide +kernel
theorem dX2_oddsPart_47 : decode cX2_oddsPart 47 = .ok (.ishl, 1) := by decide +kernel
theorem dX2_oddsPart_48 : decode cX2_oddsPart 48 = .ok (.goto 5, 3) := by decide +kernel
theorem dX2_oddsPart_51 : decode cX2_oddsPart 51 = .ok (.iload 10, 2) := by decide +kernel
theorem dX2_oddsPart_53 : decode cX2_oddsPart 53 = .ok (.istore 11, 2) := by decide +kernel
theorem dX2_oddsPart_55 : decode cX2_oddsPart 55 = .ok (.aload_n 0, 1) := by decide +kernel
theorem dX2_oddsPart_56 : decode cX2_oddsPart 56 = .ok (.iload 11, 2) := by decide +kernel
theorem dX2_oddsPart_58 : decode cX2_oddsPart 58 = .ok (.aload_n 0, 1) := by decide +kernel
theorem dX2_oddsPart_59 : decode cX2_oddsPart 59 = .ok (.getfield 9, 3) := by decide +kernel
theorem dX2_oddsPart_62 : decode cX2_oddsPart 62 = .ok (.iload 9, 2) := by decide +kernel
theorem dX2_oddsPart_64 : decode cX2_oddsPart 64 = .ok (.laload, 1) := by decide +kernel
theorem dX2_oddsPart_65 : decode cX2_oddsPart 65 = .ok (.iload 11, 2) := by decide +kernel
theorem dX2_oddsPart_67 : decode cX2_oddsPart 67 = .ok (.invokestatic 39, 3) := by decide +kernel
theorem dX2_oddsPart_70 : decode cX2_oddsPart 70 = .ok (.invokestatic 44, 3) := by decide +kernel
theorem dX2_oddsPart_73 : decode cX2_oddsPart 73 = .ok (.i2l, 1) := by decide +kernel
theorem dX2_oddsPart_74 : decode cX2_oddsPart 74 = .ok (.lmul, 1) := by decide +kernel
theorem dX2_oddsPart_75 : decode cX2_oddsPart 75 = .ok (.invokevirtual 28, 3) := by decide +kernel
theorem dX2_oddsPart_78 : decode cX2_oddsPart 78 = .ok (.iinc 9 1, 3) := by decide +kernel
theorem dX2_oddsPart_81 : decode cX2_oddsPart 81 = .ok (.goto (-60), 3) := by decide +kernel
theorem dX2_oddsPart_84 : decode cX2_oddsPart 84 = .ok (.aload_n 0, 1) := by decide +kernel
theorem dX2_oddsPart_85 : decode cX2_oddsPart 85 = .ok (.invokevirtual 32, 3) := by decide +kernel
theorem dX2_oddsPart_88 : decode cX2_oddsPart 88 = .ok (.lload 6, 2) := by decide +kernel
theorem dX2_oddsPart_90 : decode cX2_oddsPart 90 = .ok (.ldc2_w 47, 3) := by decide +kernel
theorem dX2_oddsPart_93 : decode cX2_oddsPart 93 = .ok (.lmul, 1) := by decide +kernel
theorem dX2_oddsPart_94 : decode cX2_oddsPart 94 = .ok (.lstore 6, 2) := by decide +kernel
theorem dX2_oddsPart_96 : decode cX2_oddsPart 96 = .ok (.iinc 8 1, 3) := by decide +kernel
theorem dX2_oddsPart_99 : decode cX2_oddsPart 99 = .ok (.goto (-88), 3) := by decide +kernel
theorem dX2_oddsPart_102 : decode cX2_oddsPart 102 = .ok (.aload_n 0, 1) := by decide +kernel
theorem dX2_oddsPart_103 : decode cX2_oddsPart 103 = .ok (.iload_n 3, 1) := by decide +kernel
theorem dX2_oddsPart_104 : decode cX2_oddsPart 104 = .ok (.invokevirtual 35, 3) := by decide +kernel
theorem dX2_oddsPart_107 : decode cX2_oddsPart 107 = .ok (.lstore 8, 2) := by decide +kernel
theorem dX2_oddsPart_109 : decode cX2_oddsPart 109 = .ok (.lload 8, 2) := by decide +kernel
theorem dX2_oddsPart_111 : decode cX2_oddsPart 111 = .ok (.lload 6, 2) := by decide +kernel
theorem dX2_oddsPart_113 : decode cX2_oddsPart 113 = .ok (.invokestatic 49, 3) := by decide +kernel
theorem dX2_oddsPart_116 : decode cX2_oddsPart 116 = .ok (.lstore 10, 2) := by decide +kernel
theorem dX2_oddsPart_118 : decode cX2_oddsPart 118 = .ok (.lload 10, 2) := by decide +kernel
theorem dX2_oddsPart_120 : decode cX2_oddsPart 120 = .ok (.lconst 0, 1) := by decide +kernel
theorem dX2_oddsPart_121 : decode cX2_oddsPart 121 = .ok (.lcmp, 1) := by decide +kernel
theorem dX2_oddsPart_122 : decode cX2_oddsPart 122 = .ok (.ifCond .ne 5, 3) := by decide +kernel
theorem dX2_oddsPart_125 : decode cX2_oddsPart 125 = .ok (.lconst 0, 1) := by decide +kernel
theorem dX2_oddsPart_126 : decode cX2_oddsPart 126 = .ok (.lreturn, 1) := by decide +kernel
theorem dX2_oddsPart_127 : decode cX2_oddsPart 127 = .ok (.iload 5, 2) := by decide +kernel
theorem dX2_oddsPart_129 : decode cX2_oddsPart 129 = .ok (.ifCond .ne 11, 3) := by decide +kernel
theorem dX2_oddsPart_132 : decode cX2_oddsPart 132 = .ok (.lload 8, 2) := by decide +kernel
theorem dX2_oddsPart_134 : decode cX2_oddsPart 134 = .ok (.lload 10, 2) := by decide +kernel
theorem dX2_oddsPart_136 : decode cX2_oddsPart 136 = .ok (.ldiv, 1) := by decide +kernel
theorem dX2_oddsPart_137 : decode cX2_oddsPart 137 = .ok (.goto 8, 3) := by decide +kernel
theorem dX2_oddsPart_140 : decode cX2_oddsPart 140 = .ok (.lload 6, 2) := by decide +kernel
theorem dX2_oddsPart_142 : decode cX2_oddsPart 142 = .ok (.lload 10, 2) := by decide +kernel
theorem dX2_oddsPart_144 : decode cX2_oddsPart 144 = .ok (.ldiv, 1) := by decide +kernel
theorem dX2_oddsPart_145 : decode cX2_oddsPart 145 = .ok (.lreturn, 1) := by decide +kernel
theorem dX2_sharesOf_0 : decode cX2_sharesOf 0 = .ok (.iload_n 0, 1) := by decide +kernel
theorem dX2_sharesOf_1 : decode cX2_sharesOf 1 = .ok (.ifCond .ne 7, 3) := by decide +kernel
theorem dX2_sharesOf_4 : decode cX2_sharesOf 4 = .ok (.iconst 0, 1) := by decide +kernel
theorem dX2_sharesOf_5 : decode cX2_sharesOf 5 = .ok (.goto 7, 3) := by decide +kernel
theorem dX2_sharesOf_8 : decode cX2_sharesOf 8 = .ok (.bipush 60, 2) := by decide +kernel
theorem dX2_sharesOf_10 : decode cX2_sharesOf 10 = .ok (.iload_n 0, 1) := by decide +kernel
theorem dX2_sharesOf_11 : decode cX2_sharesOf 11 = .ok (.idiv, 1) := by decide +kernel
theorem dX2_sharesOf_12 : decode cX2_sharesOf 12 = .ok (.ireturn, 1) := by decide +kernel
theorem dX2_setOut_0 : decode cX2_setOut 0 = .ok (.iconst 0, 1) := by decide +kernel
theorem dX2_setOut_1 : decode cX2_setOut 1 = .ok (.istore_n 2, 1) := by decide +kernel
theorem dX2_setOut_2 : decode cX2_setOut 2 = .ok (.iload_n 2, 1) := by decide +kernel
theorem dX2_setOut_3 : decode cX2_setOut 3 = .ok (.aload_n 0, 1) := by decide +kernel
theorem dX2_setOut_4 : decode cX2_setOut 4 = .ok (.getfield 9, 3) := by decide +kernel
theorem dX2_setOut_7 : decode cX2_setOut 7 = .ok (.arraylength, 1) := by decide +kernel
theorem dX2_setOut_8 : decode cX2_setOut 8 = .ok (.if_icmp .ge 41, 3) := by decide +kernel
theorem dX2_setOut_11 : decode cX2_setOut 11 = .ok (.iload_n 2, 1) := by decide +kernel
theorem dX2_setOut_12 : decode cX2_setOut 12 = .ok (.aload_n 0, 1) := by decide +kernel
theorem dX2_setOut_13 : decode cX2_setOut 13 = .ok (.getfield 15, 3) := by decide +kernel
theorem dX2_setOut_16 : decode cX2_setOut 16 = .ok (.arraylength, 1) := by decide +kernel
theorem dX2_setOut_17 : decode cX2_setOut 17 = .ok (.if_icmp .ge 32, 3) := by decide +kernel
theorem dX2_setOut_20 : decode cX2_setOut 20 = .ok (.aload_n 0, 1) := by decide +kernel
theorem dX2_setOut_21 : decode cX2_setOut 21 = .ok (.getfield 9, 3) := by decide +kernel
theorem dX2_setOut_24 : decode cX2_setOut 24 = .ok (.iload_n 2, 1) := by decide +kernel
theorem dX2_setOut_25 : decode cX2_setOut 25 = .ok (.iload_n 2, 1) := by decide +kernel
theorem dX2_setOut_26 : decode cX2_setOut 26 = .ok (.iload_n 1, 1) := by decide +kernel
theorem dX2_setOut_27 : decode cX2_setOut 27 = .ok (.if_icmp .ne 7, 3) := by decide +kernel
theorem dX2_setOut_30 : decode cX2_setOut 30 = .ok (.lconst 1, 1) := by decide +kernel
theorem dX2_setOut_31 : decode cX2_setOut 31 = .ok (.goto 4, 3) := by decide +kernel
theorem dX2_setOut_34 : decode cX2_setOut 34 = .ok (.lconst 0, 1) := by decide +kernel
theorem dX2_setOut_35 : decode cX2_setOut 35 = .ok (.lastore, 1) := by decide +kernel
theorem dX2_setOut_36 : decode cX2_setOut 36 = .ok (.aload_n 0, 1) := by decide +kernel
theorem dX2_setOut_37 : decode cX2_setOut 37 = .ok (.getfield 15, 3) := by decide +kernel
theorem dX2_setOut_40 : decode cX2_setOut 40 = .ok (.iload_n 2, 1) := by decide +kernel
theorem dX2_setOut_41 : decode cX2_setOut 41 = .ok (.lconst 0, 1) := by decide +kernel
theorem dX2_setOut_42 : decode cX2_setOut 42 = .ok (.lastore, 1) := by decide +kernel
theorem dX2_setOut_43 : decode cX2_setOut 43 = .ok (.iinc 2 1, 3) := by decide +kernel
theorem dX2_setOut_46 : decode cX2_setOut 46 = .ok (.goto (-44), 3) := by decide +kernel
theorem dX2_setOut_49 : decode cX2_setOut 49 = .ok (.return_, 1) := by decide +kernel
theorem dX2_giveAll_0 : decode cX2_giveAll 0 = .ok (.iconst 0, 1) := by decide +kernel
theorem dX2_giveAll_1 : decode cX2_giveAll 1 = .ok (.istore 4, 2) := by decide +kernel
theorem dX2_giveAll_3 : decode cX2_giveAll 3 = .ok (.iload 4, 2) := by decide +kernel
theorem dX2_giveAll_5 : decode cX2_giveAll 5 = .ok (.aload_n 0, 1) := by decide +kernel
theorem dX2_giveAll_6 : decode cX2_giveAll 6 = .ok (.getfield 15, 3) := by decide +kernel
theorem dX2_giveAll_9 : decode cX2_giveAll 9 = .ok (.arraylength, 1) := by decide +kernel
theorem dX2_giveAll_10 : decode cX2_giveAll 10 = .ok (.if_icmp .ge 29, 3) := by decide +kernel
theorem dX2_giveAll_13 : decode cX2_giveAll 13 = .ok (.iload_n 1, 1) := by decide +kernel
theorem dX2_giveAll_14 : decode cX2_giveAll 14 = .ok (.iload 4, 2) := by decide +kernel
theorem dX2_giveAll_16 : decode cX2_giveAll 16 = .ok (.invokestatic 53, 3) := by decide +kernel
theorem dX2_giveAll_19 : decode cX2_giveAll 19 = .ok (.ifCond .eq 14, 3) := by decide +kernel
theorem dX2_giveAll_22 : decode cX2_giveAll 22 = .ok (.aload_n 0, 1) := by decide +kernel
theorem dX2_giveAll_23 : decode cX2_giveAll 23 = .ok (.getfield 15, 3) := by decide +kernel
theorem dX2_giveAll_26 : decode cX2_giveAll 26 = .ok (.iload 4, 2) := by decide +kernel
theorem dX2_giveAll_28 : decode cX2_giveAll 28 = .ok (.dup2, 1) := by decide +kernel
theorem dX2_giveAll_29 : decode cX2_giveAll 29 = .ok (.laload, 1) := by decide +kernel
theorem dX2_giveAll_30 : decode cX2_giveAll 30 = .ok (.lload_n 2, 1) := by decide +kernel
theorem dX2_giveAll_31 : decode cX2_giveAll 31 = .ok (.ladd, 1) := by decide +kernel
theorem dX2_giveAll_32 : decode cX2_giveAll 32 = .ok (.lastore, 1) := by decide +kernel
theorem dX2_giveAll_33 : decode cX2_giveAll 33 = .ok (.iinc 4 1, 3) := by decide +kernel
theorem dX2_giveAll_36 : decode cX2_giveAll 36 = .ok (.goto (-33), 3) := by decide +kernel
theorem dX2_giveAll_39 : decode cX2_giveAll 39 = .ok (.return_, 1) := by decide +kernel
theorem dX2_arrive_0 : decode cX2_arrive 0 = .ok (.iconst 0, 1) := by decide +kernel
theorem dX2_arrive_1 : decode cX2_arrive 1 = .ok (.istore_n 1, 1) := by decide +kernel
theorem dX2_arrive_2 : decode cX2_arrive 2 = .ok (.iload_n 1, 1) := by decide +kernel
theorem dX2_arrive_3 : decode cX2_arrive 3 = .ok (.aload_n 0, 1) := by decide +kernel
theorem dX2_arrive_4 : decode cX2_arrive 4 = .ok (.getfield 9, 3) := by decide +kernel
theorem dX2_arrive_7 : decode cX2_arrive 7 = .ok (.arraylength, 1) := by decide +kernel
theorem dX2_arrive_8 : decode cX2_arrive 8 = .ok (.if_icmp .ge 37, 3) := by decide +kernel
theorem dX2_arrive_11 : decode cX2_arrive 11 = .ok (.iload_n 1, 1) := by decide +kernel
theorem dX2_arrive_12 : decode cX2_arrive 12 = .ok (.aload_n 0, 1) := by decide +kernel
theorem dX2_arrive_13 : decode cX2_arrive 13 = .ok (.getfield 15, 3) := by decide +kernel
theorem dX2_arrive_16 : decode cX2_arrive 16 = .ok (.arraylength, 1) := by decide +kernel
theorem dX2_arrive_17 : decode cX2_arrive 17 = .ok (.if_icmp .ge 28, 3) := by decide +kernel
theorem dX2_arrive_20 : decode cX2_arrive 20 = .ok (.aload_n 0, 1) := by decide +kernel
theorem dX2_arrive_21 : decode cX2_arrive 21 = .ok (.getfield 9, 3) := by decide +kernel
theorem dX2_arrive_24 : decode cX2_arrive 24 = .ok (.iload_n 1, 1) := by decide +kernel
theorem dX2_arrive_25 : decode cX2_arrive 25 = .ok (.aload_n 0, 1) := by decide +kernel
theorem dX2_arrive_26 : decode cX2_arrive 26 = .ok (.getfield 15, 3) := by decide +kernel
theorem dX2_arrive_29 : decode cX2_arrive 29 = .ok (.iload_n 1, 1) := by decide +kernel
theorem dX2_arrive_30 : decode cX2_arrive 30 = .ok (.laload, 1) := by decide +kernel
theorem dX2_arrive_31 : decode cX2_arrive 31 = .ok (.lastore, 1) := by decide +kernel
theorem dX2_arrive_32 : decode cX2_arrive 32 = .ok (.aload_n 0, 1) := by decide +kernel
theorem dX2_arrive_33 : decode cX2_arrive 33 = .ok (.getfield 15, 3) := by decide +kernel
theorem dX2_arrive_36 : decode cX2_arrive 36 = .ok (.iload_n 1, 1) := by decide +kernel
theorem dX2_arrive_37 : decode cX2_arrive 37 = .ok (.lconst 0, 1) := by decide +kernel
theorem dX2_arrive_38 : decode cX2_arrive 38 = .ok (.lastore, 1) := by decide +kernel
theorem dX2_arrive_39 : decode cX2_arrive 39 = .ok (.iinc 1 1, 3) := by decide +kernel
theorem dX2_arrive_42 : decode cX2_arrive 42 = .ok (.goto (-40), 3) := by decide +kernel
theorem dX2_arrive_45 : decode cX2_arrive 45 = .ok (.return_, 1) := by decide +kernel
theorem dX2_hereAt_0 : decode cX2_hereAt 0 = .ok (.iload_n 1, 1) := by decide +kernel
theorem dX2_hereAt_1 : decode cX2_hereAt 1 = .ok (.ifCond .lt 21, 3) := by decide +kernel
theorem dX2_hereAt_4 : decode cX2_hereAt 4 = .ok (.iload_n 1, 1) := by decide +kernel
theorem dX2_hereAt_5 : decode cX2_hereAt 5 = .ok (.aload_n 0, 1) := by decide +kernel
theorem dX2_hereAt_6 : decode cX2_hereAt 6 = .ok (.getfield 9, 3) := by decide +kernel
theorem dX2_hereAt_9 : decode cX2_hereAt 9 = .ok (.arraylength, 1) := by decide +kernel
theorem dX2_hereAt_10 : decode cX2_hereAt 10 = .ok (.if_icmp .ge 12, 3) := by decide +kernel
theorem dX2_hereAt_13 : decode cX2_hereAt 13 = .ok (.aload_n 0, 1) := by decide +kernel
theorem dX2_hereAt_14 : decode cX2_hereAt 14 = .ok (.getfield 9, 3) := by decide +kernel
theorem dX2_hereAt_17 : decode cX2_hereAt 17 = .ok (.iload_n 1, 1) := by decide +kernel
theorem dX2_hereAt_18 : decode cX2_hereAt 18 = .ok (.laload, 1) := by decide +kernel
theorem dX2_hereAt_19 : decode cX2_hereAt 19 = .ok (.goto 4, 3) := by decide +kernel
theorem dX2_hereAt_22 : decode cX2_hereAt 22 = .ok (.lconst 0, 1) := by decide +kernel
theorem dX2_hereAt_23 : decode cX2_hereAt 23 = .ok (.lreturn, 1) := by decide +kernel
theorem dX2_commonDivisor_0 : decode cX2_commonDivisor 0 = .ok (.lload_n 0, 1) := by decide +kernel
theorem dX2_commonDivisor_1 : decode cX2_commonDivisor 1 = .ok (.lstore 4, 2) := by decide +kernel
theorem dX2_commonDivisor_3 : decode cX2_commonDivisor 3 = .ok (.lload_n 2, 1) := by decide +kernel
theorem dX2_commonDivisor_4 : decode cX2_commonDivisor 4 = .ok (.lstore 6, 2) := by decide +kernel
theorem dX2_commonDivisor_6 : decode cX2_commonDivisor 6 = .ok (.iconst 0, 1) := by decide +kernel
theorem dX2_commonDivisor_7 : decode cX2_commonDivisor 7 = .ok (.istore 8, 2) := by decide +kernel
theorem dX2_commonDivisor_9 : decode cX2_commonDivisor 9 = .ok (.iload 8, 2) := by decide +kernel
theorem dX2_commonDivisor_11 : decode cX2_commonDivisor 11 = .ok (.sipush 200, 3) := by decide +kernel
theorem dX2_commonDivisor_14 : decode cX2_commonDivisor 14 = .ok (.if_icmp .ge 31, 3) := by decide +kernel
theorem dX2_commonDivisor_17 : decode cX2_commonDivisor 17 = .ok (.lload 6, 2) := by decide +kernel
theorem dX2_commonDivisor_19 : decode cX2_commonDivisor 19 = .ok (.lconst 0, 1) := by decide +kernel
theorem dX2_commonDivisor_20 : decode cX2_commonDivisor 20 = .ok (.lcmp, 1) := by decide +kernel
theorem dX2_commonDivisor_21 : decode cX2_commonDivisor 21 = .ok (.ifCond .eq 24, 3) := by decide +kernel
theorem dX2_commonDivisor_24 : decode cX2_commonDivisor 24 = .ok (.lload 4, 2) := by decide +kernel
theorem dX2_commonDivisor_26 : decode cX2_commonDivisor 26 = .ok (.lload 6, 2) := by decide +kernel
theorem dX2_commonDivisor_28 : decode cX2_commonDivisor 28 = .ok (.lrem, 1) := by decide +kernel
theorem dX2_commonDivisor_29 : decode cX2_commonDivisor 29 = .ok (.lstore 9, 2) := by decide +kernel
theorem dX2_commonDivisor_31 : decode cX2_commonDivisor 31 = .ok (.lload 6, 2) := by decide +kernel
theorem dX2_commonDivisor_33 : decode cX2_commonDivisor 33 = .ok (.lstore 4, 2) := by decide +kernel
theorem dX2_commonDivisor_35 : decode cX2_commonDivisor 35 = .ok (.lload 9, 2) := by decide +kernel
theorem dX2_commonDivisor_37 : decode cX2_commonDivisor 37 = .ok (.lstore 6, 2) := by decide +kernel
theorem dX2_commonDivisor_39 : decode cX2_commonDivisor 39 = .ok (.iinc 8 1, 3) := by decide +kernel
theorem dX2_commonDivisor_42 : decode cX2_commonDivisor 42 = .ok (.goto (-33), 3) := by decide +kernel
theorem dX2_commonDivisor_45 : decode cX2_commonDivisor 45 = .ok (.lload 4, 2) := by decide +kernel
theorem dX2_commonDivisor_47 : decode cX2_commonDivisor 47 = .ok (.lreturn, 1) := by decide +kernel
theorem dX3_init_0 : decode cX3_init 0 = .ok (.aload_n 0, 1) := by decide +kernel
theorem dX3_init_1 : decode cX3_init 1 = .ok (.invokespecial 3, 3) := by decide +kernel
theorem dX3_init_4 : decode cX3_init 4 = .ok (.aload_n 0, 1) := by decide +kernel
theorem dX3_init_5 : decode cX3_init 5 = .ok (.sipush 200, 3) := by decide +kernel
theorem dX3_init_8 : decode cX3_init 8 = .ok (.newarray .int, 2) := by decide +kernel
theorem dX3_init_10 : decode cX3_init 10 = .ok (.putfield 11, 3) := by decide +kernel
theorem dX3_init_13 : decode cX3_init 13 = .ok (.aload_n 0, 1) := by decide +kernel
theorem dX3_init_14 : decode cX3_init 14 = .ok (.bipush 12, 2) := by decide +kernel
theorem dX3_init_16 : decode cX3_init 16 = .ok (.newarray .int, 2) := by decide +kernel
theorem dX3_init_18 : decode cX3_init 18 = .ok (.putfield 15, 3) := by decide +kernel
theorem dX3_init_21 : decode cX3_init 21 = .ok (.aload_n 0, 1) := by decide +kernel
theorem dX3_init_22 : decode cX3_init 22 = .ok (.bipush 12, 2) := by decide +kernel
theorem dX3_init_24 : decode cX3_init 24 = .ok (.newarray .int, 2) := by decide +kernel
theorem dX3_init_26 : decode cX3_init 26 = .ok (.putfield 18, 3) := by decide +kernel
theorem dX3_init_29 : decode cX3_init 29 = .ok (.aload_n 0, 1) := by decide +kernel
theorem dX3_init_30 : decode cX3_init 30 = .ok (.bipush 12, 2) := by decide +kernel
theorem dX3_init_32 : decode cX3_init 32 = .ok (.newarray .int, 2) := by decide +kernel
theorem dX3_init_34 : decode cX3_init 34 = .ok (.putfield 21, 3) := by decide +kernel
theorem dX3_init_37 : decode cX3_init 37 = .ok (.return_, 1) := by decide +kernel
theorem dX3_length_0 : decode cX3_length 0 = .ok (.aload_n 0, 1) := by decide +kernel
theorem dX3_length_1 : decode cX3_length 1 = .ok (.getfield 24, 3) := by decide +kernel
theorem dX3_length_4 : decode cX3_length 4 = .ok (.ireturn, 1) := by decide +kernel
theorem dX3_hasRoomFor_0 : decode cX3_hasRoomFor 0 = .ok (.iload_n 1, 1) := by decide +kernel
theorem dX3_hasRoomFor_1 : decode cX3_hasRoomFor 1 = .ok (.aload_n 0, 1) := by decide +kernel
theorem dX3_hasRoomFor_2 : decode cX3_hasRoomFor 2 = .ok (.getfield 11, 3) := by decide +kernel
theorem dX3_hasRoomFor_5 : decode cX3_hasRoomFor 5 = .ok (.arraylength, 1) := by decide +kernel
theorem dX3_hasRoomFor_6 : decode cX3_hasRoomFor 6 = .ok (.aload_n 0, 1) := by decide +kernel
theorem dX3_hasRoomFor_7 : decode cX3_hasRoomFor 7 = .ok (.getfield 24, 3) := by decide +kernel
theorem dX3_hasRoomFor_10 : decode cX3_hasRoomFor 10 = .ok (.isub, 1) := by decide +kernel
theorem dX3_hasRoomFor_11 : decode cX3_hasRoomFor 11 = .ok (.if_icmp .gt 7, 3) := by decide +kernel
theorem dX3_hasRoomFor_14 : decode cX3_hasRoomFor 14 = .ok (.iconst 1, 1) := by decide +kernel
theorem dX3_hasRoomFor_15 : decode cX3_hasRoomFor 15 = .ok (.goto 4, 3) := by decide +kernel
theorem dX3_hasRoomFor_18 : decode cX3_hasRoomFor 18 = .ok (.iconst 0, 1) := by decide +kernel
theorem dX3_hasRoomFor_19 : decode cX3_hasRoomFor 19 = .ok (.ireturn, 1) := by decide +kernel
theorem dX3_append_0 : decode cX3_append 0 = .ok (.iconst 0, 1) := by decide +kernel
theorem dX3_append_1 : decode cX3_append 1 = .ok (.istore 4, 2) := by decide +kernel
theorem dX3_append_3 : decode cX3_append 3 = .ok (.iload 4, 2) := by decide +kernel
theorem dX3_append_5 : decode cX3_append 5 = .ok (.iload_n 3, 1) := by decide +kernel
theorem dX3_append_6 : decode cX3_append 6 = .ok (.if_icmp .ge 52, 3) := by decide +kernel
theorem dX3_append_9 : decode cX3_append 9 = .ok (.aload_n 0, 1) := by decide +kernel
theorem dX3_append_10 : decode cX3_append 10 = .ok (.getfield 24, 3) := by decide +kernel
theorem dX3_append_13 : decode cX3_append 13 = .ok (.aload_n 0, 1) := by decide +kernel
theorem dX3_append_14 : decode cX3_append 14 = .ok (.getfield 11, 3) := by decide +kernel
theorem dX3_append_17 : decode cX3_append 17 = .ok (.arraylength, 1) := by decide +kernel
theorem dX3_append_18 : decode cX3_append 18 = .ok (.if_icmp .ge 40, 3) := by decide +kernel
theorem dX3_append_21 : decode cX3_append 21 = .ok (.aload_n 0, 1) := by decide +kernel
theorem dX3_append_22 : decode cX3_append 22 = .ok (.getfield 11, 3) := by decide +kernel
theorem dX3_append_25 : decode cX3_append 25 = .ok (.aload_n 0, 1) := by decide +kernel
theorem dX3_append_26 : decode cX3_append 26 = .ok (.getfield 24, 3) := by decide +kernel
theorem dX3_append_29 : decode cX3_append 29 = .ok (.lload_n 1, 1) := by decide +kernel
theorem dX3_append_30 : decode cX3_append 30 = .ok (.bipush 8, 2) := by decide +kernel
theorem dX3_append_32 : decode cX3_append 32 = .ok (.iload 4, 2) := by decide +kernel
theorem dX3_append_34 : decode cX3_append 34 = .ok (.imul, 1) := by decide +kernel
theorem dX3_append_35 : decode cX3_append 35 = .ok (.lshr, 1) := by decide +kernel
theorem dX3_append_36 : decode cX3_append 36 = .ok (.ldc2_w 28, 3) := by decide +kernel
theorem dX3_append_39 : decode cX3_append 39 = .ok (.land, 1) := by decide +kernel
theorem dX3_append_40 : decode cX3_append 40 = .ok (.l2i, 1) := by decide +kernel
theorem dX3_append_41 : decode cX3_append 41 = .ok (.iastore, 1) := by decide +kernel
theorem dX3_append_42 : decode cX3_append 42 = .ok (.aload_n 0, 1) := by decide +kernel
theorem dX3_append_43 : decode cX3_append 43 = .ok (.dup, 1) := by decide +kernel
theorem dX3_append_44 : decode cX3_append 44 = .ok (.getfield 24, 3) := by decide +kernel
theorem dX3_append_47 : decode cX3_append 47 = .ok (.iconst 1, 1) := by decide +kernel
theorem dX3_append_48 : decode cX3_append 48 = .ok (.iadd, 1) := by decide +kernel
theorem dX3_append_49 : decode cX3_append 49 = .ok (.putfield 24, 3) := by decide +kernel
theorem dX3_append_52 : decode cX3_append 52 = .ok (.iinc 4 1, 3) := by decide +kernel
theorem dX3_append_55 : decode cX3_append 55 = .ok (.goto (-52), 3) := by decide +kernel
theorem dX3_append_58 : decode cX3_append 58 = .ok (.aload_n 0, 1) := by decide +kernel
theorem dX3_append_59 : decode cX3_append 59 = .ok (.getfield 24, 3) := by decide +kernel
theorem dX3_append_62 : decode cX3_append 62 = .ok (.ireturn, 1) := by decide +kernel
theorem dX3_clear_0 : decode cX3_clear 0 = .ok (.aload_n 0, 1) := by decide +kernel
theorem dX3_clear_1 : decode cX3_clear 1 = .ok (.getfield 24, 3) := by decide +kernel
theorem dX3_clear_4 : decode cX3_clear 4 = .ok (.istore_n 1, 1) := by decide +kernel
theorem dX3_clear_5 : decode cX3_clear 5 = .ok (.aload_n 0, 1) := by decide +kernel
theorem dX3_clear_6 : decode cX3_clear 6 = .ok (.iconst 0, 1) := by decide +kernel
theorem dX3_clear_7 : decode cX3_clear 7 = .ok (.putfield 24, 3) := by decide +kernel
theorem dX3_clear_10 : decode cX3_clear 10 = .ok (.iload_n 1, 1) := by decide +kernel
theorem dX3_clear_11 : decode cX3_clear 11 = .ok (.ireturn, 1) := by decide +kernel
theorem dX3_lineCount_0 : decode cX3_lineCount 0 = .ok (.aload_n 0, 1) := by decide +kernel
theorem dX3_lineCount_1 : decode cX3_lineCount 1 = .ok (.getfield 30, 3) := by decide +kernel
theorem dX3_lineCount_4 : decode cX3_lineCount 4 = .ok (.ireturn, 1) := by decide +kernel
theorem dX3_wordOf_0 : decode cX3_wordOf 0 = .ok (.aload_n 0, 1) := by decide +kernel
theorem dX3_wordOf_1 : decode cX3_wordOf 1 = .ok (.getfield 15, 3) := by decide +kernel
theorem dX3_wordOf_4 : decode cX3_wordOf 4 = .ok (.iload_n 1, 1) := by decide +kernel
theorem dX3_wordOf_5 : decode cX3_wordOf 5 = .ok (.invokestatic 33, 3) := by decide +kernel
theorem dX3_wordOf_8 : decode cX3_wordOf 8 = .ok (.ireturn, 1) := by decide +kernel
theorem dX3_firstOf_0 : decode cX3_firstOf 0 = .ok (.aload_n 0, 1) := by decide +kernel
theorem dX3_firstOf_1 : decode cX3_firstOf 1 = .ok (.getfield 18, 3) := by decide +kernel
theorem dX3_firstOf_4 : decode cX3_firstOf 4 = .ok (.iload_n 1, 1) := by decide +kernel
theorem dX3_firstOf_5 : decode cX3_firstOf 5 = .ok (.invokestatic 33, 3) := by decide +kernel
theorem dX3_firstOf_8 : decode cX3_firstOf 8 = .ok (.ireturn, 1) := by decide +kernel
theorem dX3_secondOf_0 : decode cX3_secondOf 0 = .ok (.aload_n 0, 1) := by decide +kernel
theorem dX3_secondOf_1 : decode cX3_secondOf 1 = .ok (.getfield 21, 3) := by decide +kernel
theorem dX3_secondOf_4 : decode cX3_secondOf 4 = .ok (.iload_n 1, 1) := by decide +kernel
theorem dX3_secondOf_5 : decode cX3_secondOf 5 = .ok (.invokestatic 33, 3) := by decide +kernel
theorem dX3_secondOf_8 : decode cX3_secondOf 8 = .ok (.ireturn, 1) := by decide +kernel
theorem dX3_inLine_0 : decode cX3_inLine 0 = .ok (.iload_n 1, 1) := by decide +kernel
theorem dX3_inLine_1 : decode cX3_inLine 1 = .ok (.ifCond .lt 15, 3) := by decide +kernel
theorem dX3_inLine_4 : decode cX3_inLine 4 = .ok (.iload_n 1, 1) := by decide +kernel
theorem dX3_inLine_5 : decode cX3_inLine 5 = .ok (.aload_n 0, 1) := by decide +kernel
theorem dX3_inLine_6 : decode cX3_inLine 6 = .ok (.arraylength, 1) := by decide +kernel
theorem dX3_inLine_7 : decode cX3_inLine 7 = .ok (.if_icmp .ge 9, 3) := by decide +kernel
theorem dX3_inLine_10 : decode cX3_inLine 10 = .ok (.aload_n 0, 1) := by decide +kernel
theorem dX3_inLine_11 : decode cX3_inLine 11 = .ok (.iload_n 1, 1) := by decide +kernel
theorem dX3_inLine_12 : decode cX3_inLine 12 = .ok (.iaload, 1) := by decide +kernel
theorem dX3_inLine_13 : decode cX3_inLine 13 = .ok (.goto 4, 3) := by decide +kernel
theorem dX3_inLine_16 : decode cX3_inLine 16 = .ok (.iconst (-1), 1) := by decide +kernel
theorem dX3_inLine_17 : decode cX3_inLine 17 = .ok (.ireturn, 1) := by decide +kernel
theorem dX3_read_0 : decode cX3_read 0 = .ok (.aload_n 0, 1) := by decide +kernel
theorem dX3_read_1 : decode cX3_read 1 = .ok (.iconst 0, 1) := by decide +kernel
theorem dX3_read_2 : decode cX3_read 2 = .ok (.putfield 30, 3) := by decide +kernel
theorem dX3_read_5 : decode cX3_read 5 = .ok (.aload_n 0, 1) := by decide +kernel
theorem dX3_read_6 : decode cX3_read 6 = .ok (.iconst 0, 1) := by decide +kernel
theorem dX3_read_7 : decode cX3_read 7 = .ok (.putfield 37, 3) := by decide +kernel
theorem dX3_read_10 : decode cX3_read 10 = .ok (.iconst 0, 1) := by decide +kernel
theorem dX3_read_11 : decode cX3_read 11 = .ok (.istore_n 1, 1) := by decide +kernel
theorem dX3_read_12 : decode cX3_read 12 = .ok (.iload_n 1, 1) := by decide +kernel
theorem dX3_read_13 : decode cX3_read 13 = .ok (.bipush 12, 2) := by decide +kernel
theorem dX3_read_15 : decode cX3_read 15 = .ok (.if_icmp .ge 64, 3) := by decide +kernel
theorem dX3_read_18 : decode cX3_read 18 = .ok (.aload_n 0, 1) := by decide +kernel
theorem dX3_read_19 : decode cX3_read 19 = .ok (.iload_n 1, 1) := by decide +kernel
theorem dX3_read_20 : decode cX3_read 20 = .ok (.invokevirtual 40, 3) := by decide +kernel
theorem dX3_read_23 : decode cX3_read 23 = .ok (.ifCond .ne 8, 3) := by decide +kernel
theorem dX3_read_26 : decode cX3_read 26 = .ok (.aload_n 0, 1) := by decide +kernel
theorem dX3_read_27 : decode cX3_read 27 = .ok (.getfield 44, 3) := by decide +kernel
theorem dX3_read_30 : decode cX3_read 30 = .ok (.ireturn, 1) := by decide +kernel
theorem dX3_read_31 : decode cX3_read 31 = .ok (.aload_n 0, 1) := by decide +kernel
theorem dX3_read_32 : decode cX3_read 32 = .ok (.iload_n 1, 1) := by decide +kernel
theorem dX3_read_33 : decode cX3_read 33 = .ok (.iconst 1, 1) := by decide +kernel
theorem dX3_read_34 : decode cX3_read 34 = .ok (.iadd, 1) := by decide +kernel
theorem dX3_read_35 : decode cX3_read 35 = .ok (.putfield 30, 3) := by decide +kernel
theorem dX3_read_38 : decode cX3_read 38 = .ok (.aload_n 0, 1) := by decide +kernel
theorem dX3_read_39 : decode cX3_read 39 = .ok (.invokevirtual 47, 3) := by decide +kernel
theorem dX3_read_42 : decode cX3_read 42 = .ok (.aload_n 0, 1) := by decide +kernel
theorem dX3_read_43 : decode cX3_read 43 = .ok (.getfield 44, 3) := by decide +kernel
theorem dX3_read_46 : decode cX3_read 46 = .ok (.aload_n 0, 1) := by decide +kernel
theorem dX3_read_47 : decode cX3_read 47 = .ok (.getfield 24, 3) := by decide +kernel
theorem dX3_read_50 : decode cX3_read 50 = .ok (.if_icmp .ne 5, 3) := by decide +kernel
theorem dX3_read_53 : decode cX3_read 53 = .ok (.iconst (-1), 1) := by decide +kernel
theorem dX3_read_54 : decode cX3_read 54 = .ok (.ireturn, 1) := by decide +kernel
theorem dX3_read_55 : decode cX3_read 55 = .ok (.aload_n 0, 1) := by decide +kernel
theorem dX3_read_56 : decode cX3_read 56 = .ok (.aload_n 0, 1) := by decide +kernel
theorem dX3_read_57 : decode cX3_read 57 = .ok (.getfield 44, 3) := by decide +kernel
theorem dX3_read_60 : decode cX3_read 60 = .ok (.invokevirtual 50, 3) := by decide +kernel
theorem dX3_read_63 : decode cX3_read 63 = .ok (.bipush 59, 2) := by decide +kernel
theorem dX3_read_65 : decode cX3_read 65 = .ok (.if_icmp .eq 8, 3) := by decide +kernel
theorem dX3_read_68 : decode cX3_read 68 = .ok (.aload_n 0, 1) := by decide +kernel
theorem dX3_read_69 : decode cX3_read 69 = .ok (.getfield 44, 3) := by decide +kernel
theorem dX3_read_72 : decode cX3_read 72 = .ok (.ireturn, 1) := by decide +kernel
theorem dX3_read_73 : decode cX3_read 73 = .ok (.iinc 1 1, 3) := by decide +kernel
theorem dX3_read_76 : decode cX3_read 76 = .ok (.goto (-64), 3) := by decide +kernel
theorem dX3_read_79 : decode cX3_read 79 = .ok (.aload_n 0, 1) := by decide +kernel
theorem dX3_read_80 : decode cX3_read 80 = .ok (.getfield 44, 3) := by decide +kernel
theorem dX3_read_83 : decode cX3_read 83 = .ok (.ireturn, 1) := by decide +kernel
theorem dX3_readLine_0 : decode cX3_readLine 0 = .ok (.aload_n 0, 1) := by decide +kernel
theorem dX3_readLine_1 : decode cX3_readLine 1 = .ok (.invokevirtual 47, 3) := by decide +kernel
theorem dX3_readLine_4 : decode cX3_readLine 4 = .ok (.aload_n 0, 1) := by decide +kernel
theorem dX3_readLine_5 : decode cX3_readLine 5 = .ok (.invokevirtual 54, 3) := by decide +kernel
theorem dX3_readLine_8 : decode cX3_readLine 8 = .ok (.istore_n 2, 1) := by decide +kernel
theorem dX3_readLine_9 : decode cX3_readLine 9 = .ok (.iconst 0, 1) := by decide +kernel
theorem dX3_readLine_10 : decode cX3_readLine 10 = .ok (.istore_n 3, 1) := by decide +kernel
theorem dX3_readLine_11 : decode cX3_readLine 11 = .ok (.iconst 0, 1) := by decide +kernel
theorem dX3_readLine_12 : decode cX3_readLine 12 = .ok (.istore 4, 2) := by decide +kernel
theorem dX3_readLine_14 : decode cX3_readLine 14 = .ok (.iload_n 2, 1) := by decide +kernel
theorem dX3_readLine_15 : decode cX3_readLine 15 = .ok (.iconst (-1), 1) := by decide +kernel
theorem dX3_readLine_16 : decode cX3_readLine 16 = .ok (.if_icmp .ne 5, 3) := by decide +kernel
theorem dX3_readLine_19 : decode cX3_readLine 19 = .ok (.iconst 0, 1) := by decide +kernel
theorem dX3_readLine_20 : decode cX3_readLine 20 = .ok (.ireturn, 1) := by decide +kernel
theorem dX3_readLine_21 : decode cX3_readLine 21 = .ok (.iload_n 2, 1) := by decide +kernel
theorem dX3_readLine_22 : decode cX3_readLine 22 = .ok (.bipush 7, 2) := by decide +kernel
theorem dX3_readLine_24 : decode cX3_readLine 24 = .ok (.if_icmp .eq 17, 3) := by decide +kernel
theorem dX3_readLine_27 : decode cX3_readLine 27 = .ok (.aload_n 0, 1) := by decide +kernel
theorem dX3_readLine_28 : decode cX3_readLine 28 = .ok (.bipush 12, 2) := by decide +kernel
theorem dX3_readLine_30 : decode cX3_readLine 30 = .ok (.invokevirtual 58, 3) := by decide +kernel
theorem dX3_readLine_33 : decode cX3_readLine 33 = .ok (.istore_n 3, 1) := by decide +kernel
theorem dX3_readLine_34 : decode cX3_readLine 34 = .ok (.iload_n 3, 1) := by decide +kernel
theorem dX3_readLine_35 : decode cX3_readLine 35 = .ok (.iconst (-1), 1) := by decide +kernel
theorem dX3_readLine_36 : decode cX3_readLine 36 = .ok (.if_icmp .ne 5, 3) := by decide +kernel
theorem dX3_readLine_39 : decode cX3_readLine 39 = .ok (.iconst 0, 1) := by decide +kernel
theorem dX3_readLine_40 : decode cX3_readLine 40 = .ok (.ireturn, 1) := by decide +kernel
theorem dX3_readLine_41 : decode cX3_readLine 41 = .ok (.iload_n 2, 1) := by decide +kernel
theorem dX3_readLine_42 : decode cX3_readLine 42 = .ok (.iconst 4, 1) := by decide +kernel
theorem dX3_readLine_43 : decode cX3_readLine 43 = .ok (.if_icmp .eq 8, 3) := by decide +kernel
theorem dX3_readLine_46 : decode cX3_readLine 46 = .ok (.iload_n 2, 1) := by decide +kernel
theorem dX3_readLine_47 : decode cX3_readLine 47 = .ok (.iconst 5, 1) := by decide +kernel
theorem dX3_readLine_48 : decode cX3_readLine 48 = .ok (.if_icmp .ne 23, 3) := by decide +kernel
theorem dX3_readLine_51 : decode cX3_readLine 51 = .ok (.aload_n 0, 1) := by decide +kernel
theorem dX3_readLine_52 : decode cX3_readLine 52 = .ok (.bipush 12, 2) := by decide +kernel
theorem dX3_readLine_54 : decode cX3_readLine 54 = .ok (.invokevirtual 58, 3) := by decide +kernel
theorem dX3_readLine_57 : decode cX3_readLine 57 = .ok (.istore 4, 2) := by decide +kernel
theorem dX3_readLine_59 : decode cX3_readLine 59 = .ok (.iload_n 3, 1) := by decide +kernel
theorem dX3_readLine_60 : decode cX3_readLine 60 = .ok (.iload 4, 2) := by decide +kernel
theorem dX3_readLine_62 : decode cX3_readLine 62 = .ok (.invokestatic 61, 3) := by decide +kernel
theorem dX3_readLine_65 : decode cX3_readLine 65 = .ok (.iconst (-1), 1) := by decide +kernel
theorem dX3_readLine_66 : decode cX3_readLine 66 = .ok (.if_icmp .ne 5, 3) := by decide +kernel
theorem dX3_readLine_69 : decode cX3_readLine 69 = .ok (.iconst 0, 1) := by decide +kernel
theorem dX3_readLine_70 : decode cX3_readLine 70 = .ok (.ireturn, 1) := by decide +kernel
theorem dX3_readLine_71 : decode cX3_readLine 71 = .ok (.iload_n 2, 1) := by decide +kernel
theorem dX3_readLine_72 : decode cX3_readLine 72 = .ok (.bipush 6, 2) := by decide +kernel
theorem dX3_readLine_74 : decode cX3_readLine 74 = .ok (.if_icmp .ne 18, 3) := by decide +kernel
theorem dX3_readLine_77 : decode cX3_readLine 77 = .ok (.aload_n 0, 1) := by decide +kernel
theorem dX3_readLine_78 : decode cX3_readLine 78 = .ok (.iconst 5, 1) := by decide +kernel
theorem dX3_readLine_79 : decode cX3_readLine 79 = .ok (.invokevirtual 58, 3) := by decide +kernel
theorem dX3_readLine_82 : decode cX3_readLine 82 = .ok (.istore 4, 2) := by decide +kernel
theorem dX3_readLine_84 : decode cX3_readLine 84 = .ok (.iload 4, 2) := by decide +kernel
theorem dX3_readLine_86 : decode cX3_readLine 86 = .ok (.iconst (-1), 1) := by decide +kernel
theorem dX3_readLine_87 : decode cX3_readLine 87 = .ok (.if_icmp .ne 5, 3) := by decide +kernel
theorem dX3_readLine_90 : decode cX3_readLine 90 = .ok (.iconst 0, 1) := by decide +kernel
theorem dX3_readLine_91 : decode cX3_readLine 91 = .ok (.ireturn, 1) := by decide +kernel
theorem dX3_readLine_92 : decode cX3_readLine 92 = .ok (.aload_n 0, 1) := by decide +kernel
theorem dX3_readLine_93 : decode cX3_readLine 93 = .ok (.iload_n 1, 1) := by decide +kernel
theorem dX3_readLine_94 : decode cX3_readLine 94 = .ok (.iload_n 2, 1) := by decide +kernel
theorem dX3_readLine_95 : decode cX3_readLine 95 = .ok (.iload_n 3, 1) := by decide +kernel
theorem dX3_readLine_96 : decode cX3_readLine 96 = .ok (.iload 4, 2) := by decide +kernel
theorem dX3_readLine_98 : decode cX3_readLine 98 = .ok (.invokevirtual 67, 3) := by decide +kernel
theorem dX3_readLine_101 : decode cX3_readLine 101 = .ok (.iconst 1, 1) := by decide +kernel
theorem dX3_readLine_102 : decode cX3_readLine 102 = .ok (.ireturn, 1) := by decide +kernel
theorem dX3_setLine_0 : decode cX3_setLine 0 = .ok (.iload_n 1, 1) := by decide +kernel
theorem dX3_setLine_1 : decode cX3_setLine 1 = .ok (.ifCond .lt 52, 3) := by decide +kernel
theorem dX3_setLine_4 : decode cX3_setLine 4 = .ok (.iload_n 1, 1) := by decide +kernel
theorem dX3_setLine_5 : decode cX3_setLine 5 = .ok (.aload_n 0, 1) := by decide +kernel
theorem dX3_setLine_6 : decode cX3_setLine 6 = .ok (.getfield 15, 3) := by decide +kernel
theorem dX3_setLine_9 : decode cX3_setLine 9 = .ok (.arraylength, 1) := by decide +kernel
theorem dX3_setLine_10 : decode cX3_setLine 10 = .ok (.if_icmp .ge 43, 3) := by decide +kernel
theorem dX3_setLine_13 : decode cX3_setLine 13 = .ok (.iload_n 1, 1) := by decide +kernel
theorem dX3_setLine_14 : decode cX3_setLine 14 = .ok (.aload_n 0, 1) := by decide +kernel
theorem dX3_setLine_15 : decode cX3_setLine 15 = .ok (.getfield 18, 3) := by decide +kernel
theorem dX3_setLine_18 : decode cX3_setLine 18 = .ok (.arraylength, 1) := by decide +kernel
theorem dX3_setLine_19 : decode cX3_setLine 19 = .ok (.if_icmp .ge 34, 3) := by decide +kernel
theorem dX3_setLine_22 : decode cX3_setLine 22 = .ok (.iload_n 1, 1) := by decide +kernel
theorem dX3_setLine_23 : decode cX3_setLine 23 = .ok (.aload_n 0, 1) := by decide +kernel
theorem dX3_setLine_24 : decode cX3_setLine 24 = .ok (.getfield 21, 3) := by decide +kernel
theorem dX3_setLine_27 : decode cX3_setLine 27 = .ok (.arraylength, 1) := by decide +kernel
theorem dX3_setLine_28 : decode cX3_setLine 28 = .ok (.if_icmp .ge 25, 3) := by decide +kernel
theorem dX3_setLine_31 : decode cX3_setLine 31 = .ok (.aload_n 0, 1) := by decide +kernel
theorem dX3_setLine_32 : decode cX3_setLine 32 = .ok (.getfield 15, 3) := by decide +kernel
theorem dX3_setLine_35 : decode cX3_setLine 35 = .ok (.iload_n 1, 1) := by decide +kernel
theorem dX3_setLine_36 : decode cX3_setLine 36 = .ok (.iload_n 2, 1) := by decide +kernel
theorem dX3_setLine_37 : decode cX3_setLine 37 = .ok (.iastore, 1) := by decide +kernel
theorem dX3_setLine_38 : decode cX3_setLine 38 = .ok (.aload_n 0, 1) := by decide +kernel
theorem dX3_setLine_39 : decode cX3_setLine 39 = .ok (.getfield 18, 3) := by decide +kernel
theorem dX3_setLine_42 : decode cX3_setLine 42 = .ok (.iload_n 1, 1) := by decide +kernel
theorem dX3_setLine_43 : decode cX3_setLine 43 = .ok (.iload_n 3, 1) := by decide +kernel
theorem dX3_setLine_44 : decode cX3_setLine 44 = .ok (.iastore, 1) := by decide +kernel
theorem dX3_setLine_45 : decode cX3_setLine 45 = .ok (.aload_n 0, 1) := by decide +kernel
theorem dX3_setLine_46 : decode cX3_setLine 46 = .ok (.getfield 21, 3) := by decide +kernel
theorem dX3_setLine_49 : decode cX3_setLine 49 = .ok (.iload_n 1, 1) := by decide +kernel
theorem dX3_setLine_50 : decode cX3_setLine 50 = .ok (.iload 4, 2) := by decide +kernel
theorem dX3_setLine_52 : decode cX3_setLine 52 = .ok (.iastore, 1) := by decide +kernel
theorem dX3_setLine_53 : decode cX3_setLine 53 = .ok (.return_, 1) := by decide +kernel
theorem dX3_nextToken_0 : decode cX3_nextToken 0 = .ok (.aload_n 0, 1) := by decide +kernel
theorem dX3_nextToken_1 : decode cX3_nextToken 1 = .ok (.aload_n 0, 1) := by decide +kernel
theorem dX3_nextToken_2 : decode cX3_nextToken 2 = .ok (.getfield 37, 3) := by decide +kernel
theorem dX3_nextToken_5 : decode cX3_nextToken 5 = .ok (.putfield 44, 3) := by decide +kernel
theorem dX3_nextToken_8 : decode cX3_nextToken 8 = .ok (.aload_n 0, 1) := by decide +kernel
theorem dX3_nextToken_9 : decode cX3_nextToken 9 = .ok (.getfield 44, 3) := by decide +kernel
theorem dX3_nextToken_12 : decode cX3_nextToken 12 = .ok (.aload_n 0, 1) := by decide +kernel
theorem dX3_nextToken_13 : decode cX3_nextToken 13 = .ok (.getfield 24, 3) := by decide +kernel
theorem dX3_nextToken_16 : decode cX3_nextToken 16 = .ok (.if_icmp .ge 29, 3) := by decide +kernel
theorem dX3_nextToken_19 : decode cX3_nextToken 19 = .ok (.aload_n 0, 1) := by decide +kernel
theorem dX3_nextToken_20 : decode cX3_nextToken 20 = .ok (.aload_n 0, 1) := by decide +kernel
theorem dX3_nextToken_21 : decode cX3_nextToken 21 = .ok (.getfield 44, 3) := by decide +kernel
theorem dX3_nextToken_24 : decode cX3_nextToken 24 = .ok (.invokevirtual 50, 3) := by decide +kernel
theorem dX3_nextToken_27 : decode cX3_nextToken 27 = .ok (.bipush 32, 2) := by decide +kernel
theorem dX3_nextToken_29 : decode cX3_nextToken 29 = .ok (.if_icmp .ne 16, 3) := by decide +kernel
theorem dX3_nextToken_32 : decode cX3_nextToken 32 = .ok (.aload_n 0, 1) := by decide +kernel
theorem dX3_nextToken_33 : decode cX3_nextToken 33 = .ok (.dup, 1) := by decide +kernel
theorem dX3_nextToken_34 : decode cX3_nextToken 34 = .ok (.getfield 44, 3) := by decide +kernel
theorem dX3_nextToken_37 : decode cX3_nextToken 37 = .ok (.iconst 1, 1) := by decide +kernel
theorem dX3_nextToken_38 : decode cX3_nextToken 38 = .ok (.iadd, 1) := by decide +kernel
theorem dX3_nextToken_39 : decode cX3_nextToken 39 = .ok (.putfield 44, 3) := by decide +kernel
theorem dX3_nextToken_42 : decode cX3_nextToken 42 = .ok (.goto (-34), 3) := by decide +kernel
theorem dX3_nextToken_45 : decode cX3_nextToken 45 = .ok (.aload_n 0, 1) := by decide +kernel
theorem dX3_nextToken_46 : decode cX3_nextToken 46 = .ok (.aload_n 0, 1) := by decide +kernel
theorem dX3_nextToken_47 : decode cX3_nextToken 47 = .ok (.getfield 44, 3) := by decide +kernel
theorem dX3_nextToken_50 : decode cX3_nextToken 50 = .ok (.putfield 37, 3) := by decide +kernel
theorem dX3_nextToken_53 : decode cX3_nextToken 53 = .ok (.aload_n 0, 1) := by decide +kernel
theorem dX3_nextToken_54 : decode cX3_nextToken 54 = .ok (.getfield 44, 3) := by decide +kernel
theorem dX3_nextToken_57 : decode cX3_nextToken 57 = .ok (.aload_n 0, 1) := by decide +kernel
theorem dX3_nextToken_58 : decode cX3_nextToken 58 = .ok (.getfield 24, 3) := by decide +kernel
theorem dX3_nextToken_61 : decode cX3_nextToken 61 = .ok (.if_icmp .ge 69, 3) := by decide +kernel
theorem dX3_nextToken_64 : decode cX3_nextToken 64 = .ok (.aload_n 0, 1) := by decide +kernel
theorem dX3_nextToken_65 : decode cX3_nextToken 65 = .ok (.aload_n 0, 1) := by decide +kernel
theorem dX3_nextToken_66 : decode cX3_nextToken 66 = .ok (.getfield 44, 3) := by decide +kernel
theorem dX3_nextToken_69 : decode cX3_nextToken 69 = .ok (.invokevirtual 50, 3) := by decide +kernel
theorem dX3_nextToken_72 : decode cX3_nextToken 72 = .ok (.invokestatic 71, 3) := by decide +kernel
theorem dX3_nextToken_75 : decode cX3_nextToken 75 = .ok (.istore_n 1, 1) := by decide +kernel
theorem dX3_nextToken_76 : decode cX3_nextToken 76 = .ok (.aload_n 0, 1) := by decide +kernel
theorem dX3_nextToken_77 : decode cX3_nextToken 77 = .ok (.dup, 1) := by decide +kernel
theorem dX3_nextToken_78 : decode cX3_nextToken 78 = .ok (.getfield 37, 3) := by decide +kernel
theorem dX3_nextToken_81 : decode cX3_nextToken 81 = .ok (.iconst 1, 1) := by decide +kernel
theorem dX3_nextToken_82 : decode cX3_nextToken 82 = .ok (.iadd, 1) := by decide +kernel
theorem dX3_nextToken_83 : decode cX3_nextToken 83 = .ok (.putfield 37, 3) := by decide +kernel
theorem dX3_nextToken_86 : decode cX3_nextToken 86 = .ok (.aload_n 0, 1) := by decide +kernel
theorem dX3_nextToken_87 : decode cX3_nextToken 87 = .ok (.getfield 37, 3) := by decide +kernel
theorem dX3_nextToken_90 : decode cX3_nextToken 90 = .ok (.aload_n 0, 1) := by decide +kernel
theorem dX3_nextToken_91 : decode cX3_nextToken 91 = .ok (.getfield 24, 3) := by decide +kernel
theorem dX3_nextToken_94 : decode cX3_nextToken 94 = .ok (.if_icmp .ge 36, 3) := by decide +kernel
theorem dX3_nextToken_97 : decode cX3_nextToken 97 = .ok (.iload_n 1, 1) := by decide +kernel
theorem dX3_nextToken_98 : decode cX3_nextToken 98 = .ok (.iconst 2, 1) := by decide +kernel
theorem dX3_nextToken_99 : decode cX3_nextToken 99 = .ok (.if_icmp .eq 31, 3) := by decide +kernel
theorem dX3_nextToken_102 : decode cX3_nextToken 102 = .ok (.aload_n 0, 1) := by decide +kernel
theorem dX3_nextToken_103 : decode cX3_nextToken 103 = .ok (.aload_n 0, 1) := by decide +kernel
theorem dX3_nextToken_104 : decode cX3_nextToken 104 = .ok (.getfield 37, 3) := by decide +kernel
theorem dX3_nextToken_107 : decode cX3_nextToken 107 = .ok (.invokevirtual 50, 3) := by decide +kernel
theorem dX3_nextToken_110 : decode cX3_nextToken 110 = .ok (.invokestatic 71, 3) := by decide +kernel
theorem dX3_nextToken_113 : decode cX3_nextToken 113 = .ok (.iload_n 1, 1) := by decide +kernel
theorem dX3_nextToken_114 : decode cX3_nextToken 114 = .ok (.if_icmp .ne 16, 3) := by decide +kernel
theorem dX3_nextToken_117 : decode cX3_nextToken 117 = .ok (.aload_n 0, 1) := by decide +kernel
theorem dX3_nextToken_118 : decode cX3_nextToken 118 = .ok (.dup, 1) := by decide +kernel
theorem dX3_nextToken_119 : decode cX3_nextToken 119 = .ok (.getfield 37, 3) := by decide +kernel
theorem dX3_nextToken_122 : decode cX3_nextToken 122 = .ok (.iconst 1, 1) := by decide +kernel
theorem dX3_nextToken_123 : decode cX3_nextToken 123 = .ok (.iadd, 1) := by decide +kernel
theorem dX3_nextToken_124 : decode cX3_nextToken 124 = .ok (.putfield 37, 3) := by decide +kernel
theorem dX3_nextToken_127 : decode cX3_nextToken 127 = .ok (.goto (-41), 3) := by decide +kernel
theorem dX3_nextToken_130 : decode cX3_nextToken 130 = .ok (.return_, 1) := by decide +kernel
theorem dX3_signAt_0 : decode cX3_signAt 0 = .ok (.iload_n 1, 1) := by decide +kernel
theorem dX3_signAt_1 : decode cX3_signAt 1 = .ok (.ifCond .lt 29, 3) := by decide +kernel
theorem dX3_signAt_4 : decode cX3_signAt 4 = .ok (.iload_n 1, 1) := by decide +kernel
theorem dX3_signAt_5 : decode cX3_signAt 5 = .ok (.aload_n 0, 1) := by decide +kernel
theorem dX3_signAt_6 : decode cX3_signAt 6 = .ok (.getfield 24, 3) := by decide +kernel
theorem dX3_signAt_9 : decode cX3_signAt 9 = .ok (.if_icmp .ge 21, 3) := by decide +kernel
theorem dX3_signAt_12 : decode cX3_signAt 12 = .ok (.iload_n 1, 1) := by decide +kernel
theorem dX3_signAt_13 : decode cX3_signAt 13 = .ok (.aload_n 0, 1) := by decide +kernel
theorem dX3_signAt_14 : decode cX3_signAt 14 = .ok (.getfield 11, 3) := by decide +kernel
theorem dX3_signAt_17 : decode cX3_signAt 17 = .ok (.arraylength, 1) := by decide +kernel
theorem dX3_signAt_18 : decode cX3_signAt 18 = .ok (.if_icmp .ge 12, 3) := by decide +kernel
theorem dX3_signAt_21 : decode cX3_signAt 21 = .ok (.aload_n 0, 1) := by decide +kernel
theorem dX3_signAt_22 : decode cX3_signAt 22 = .ok (.getfield 11, 3) := by decide +kernel
theorem dX3_signAt_25 : decode cX3_signAt 25 = .ok (.iload_n 1, 1) := by decide +kernel
theorem dX3_signAt_26 : decode cX3_signAt 26 = .ok (.iaload, 1) := by decide +kernel
theorem dX3_signAt_27 : decode cX3_signAt 27 = .ok (.goto 4, 3) := by decide +kernel
theorem dX3_signAt_30 : decode cX3_signAt 30 = .ok (.iconst (-1), 1) := by decide +kernel
theorem dX3_signAt_31 : decode cX3_signAt 31 = .ok (.ireturn, 1) := by decide +kernel
theorem dX3_sortOf_0 : decode cX3_sortOf 0 = .ok (.iload_n 0, 1) := by decide +kernel
theorem dX3_sortOf_1 : decode cX3_sortOf 1 = .ok (.bipush 97, 2) := by decide +kernel
theorem dX3_sortOf_3 : decode cX3_sortOf 3 = .ok (.if_icmp .lt 11, 3) := by decide +kernel
theorem dX3_sortOf_6 : decode cX3_sortOf 6 = .ok (.iload_n 0, 1) := by decide +kernel
theorem dX3_sortOf_7 : decode cX3_sortOf 7 = .ok (.bipush 122, 2) := by decide +kernel
theorem dX3_sortOf_9 : decode cX3_sortOf 9 = .ok (.if_icmp .gt 5, 3) := by decide +kernel
theorem dX3_sortOf_12 : decode cX3_sortOf 12 = .ok (.iconst 0, 1) := by decide +kernel
theorem dX3_sortOf_13 : decode cX3_sortOf 13 = .ok (.ireturn, 1) := by decide +kernel
theorem dX3_sortOf_14 : decode cX3_sortOf 14 = .ok (.iload_n 0, 1) := by decide +kernel
theorem dX3_sortOf_15 : decode cX3_sortOf 15 = .ok (.bipush 48, 2) := by decide +kernel
theorem dX3_sortOf_17 : decode cX3_sortOf 17 = .ok (.if_icmp .lt 13, 3) := by decide +kernel
theorem dX3_sortOf_20 : decode cX3_sortOf 20 = .ok (.iload_n 0, 1) := by decide +kernel
theorem dX3_sortOf_21 : decode cX3_sortOf 21 = .ok (.bipush 57, 2) := by decide +kernel
theorem dX3_sortOf_23 : decode cX3_sortOf 23 = .ok (.if_icmp .gt 7, 3) := by decide +kernel
theorem dX3_sortOf_26 : decode cX3_sortOf 26 = .ok (.iconst 1, 1) := by decide +kernel
theorem dX3_sortOf_27 : decode cX3_sortOf 27 = .ok (.goto 4, 3) := by decide +kernel
theorem dX3_sortOf_30 : decode cX3_sortOf 30 = .ok (.iconst 2, 1) := by decide +kernel
theorem dX3_sortOf_31 : decode cX3_sortOf 31 = .ok (.ireturn, 1) := by decide +kernel
theorem dX3_wordHere_0 : decode cX3_wordHere 0 = .ok (.aload_n 0, 1) := by decide +kernel
theorem dX3_wordHere_1 : decode cX3_wordHere 1 = .ok (.ldc 74, 2) := by decide +kernel
theorem dX3_wordHere_3 : decode cX3_wordHere 3 = .ok (.invokevirtual 76, 3) := by decide +kernel
theorem dX3_wordHere_6 : decode cX3_wordHere 6 = .ok (.ifCond .eq 5, 3) := by decide +kernel
theorem dX3_wordHere_9 : decode cX3_wordHere 9 = .ok (.iconst 0, 1) := by decide +kernel
theorem dX3_wordHere_10 : decode cX3_wordHere 10 = .ok (.ireturn, 1) := by decide +kernel
theorem dX3_wordHere_11 : decode cX3_wordHere 11 = .ok (.aload_n 0, 1) := by decide +kernel
theorem dX3_wordHere_12 : decode cX3_wordHere 12 = .ok (.ldc 80, 2) := by decide +kernel
theorem dX3_wordHere_14 : decode cX3_wordHere 14 = .ok (.invokevirtual 76, 3) := by decide +kernel
theorem dX3_wordHere_17 : decode cX3_wordHere 17 = .ok (.ifCond .eq 5, 3) := by decide +kernel
theorem dX3_wordHere_20 : decode cX3_wordHere 20 = .ok (.iconst 1, 1) := by decide +kernel
theorem dX3_wordHere_21 : decode cX3_wordHere 21 = .ok (.ireturn, 1) := by decide +kernel
theorem dX3_wordHere_22 : decode cX3_wordHere 22 = .ok (.aload_n 0, 1) := by decide +kernel
theorem dX3_wordHere_23 : decode cX3_wordHere 23 = .ok (.ldc 82, 2) := by decide +kernel
theorem dX3_wordHere_25 : decode cX3_wordHere 25 = .ok (.invokevirtual 76, 3) := by decide +kernel
theorem dX3_wordHere_28 : decode cX3_wordHere 28 = .ok (.ifCond .eq 5, 3) := by decide +kernel
theorem dX3_wordHere_31 : decode cX3_wordHere 31 = .ok (.iconst 2, 1) := by decide +kernel
theorem dX3_wordHere_32 : decode cX3_wordHere 32 = .ok (.ireturn, 1) := by decide +kernel
theorem dX3_wordHere_33 : decode cX3_wordHere 33 = .ok (.aload_n 0, 1) := by decide +kernel
theorem dX3_wordHere_34 : decode cX3_wordHere 34 = .ok (.ldc 84, 2) := by decide +kernel
theorem dX3_wordHere_36 : decode cX3_wordHere 36 = .ok (.invokevirtual 76, 3) := by decide +kernel
theorem dX3_wordHere_39 : decode cX3_wordHere 39 = .ok (.ifCond .eq 5, 3) := by decide +kernel
theorem dX3_wordHere_42 : decode cX3_wordHere 42 = .ok (.iconst 3, 1) := by decide +kernel
theorem dX3_wordHere_43 : decode cX3_wordHere 43 = .ok (.ireturn, 1) := by decide +kernel
theorem dX3_wordHere_44 : decode cX3_wordHere 44 = .ok (.aload_n 0, 1) := by decide +kernel
theorem dX3_wordHere_45 : decode cX3_wordHere 45 = .ok (.ldc 86, 2) := by decide +kernel
theorem dX3_wordHere_47 : decode cX3_wordHere 47 = .ok (.invokevirtual 76, 3) := by decide +kernel
theorem dX3_wordHere_50 : decode cX3_wordHere 50 = .ok (.ifCond .eq 5, 3) := by decide +kernel
theorem dX3_wordHere_53 : decode cX3_wordHere 53 = .ok (.iconst 4, 1) := by decide +kernel
theorem dX3_wordHere_54 : decode cX3_wordHere 54 = .ok (.ireturn, 1) := by decide +kernel
theorem dX3_wordHere_55 : decode cX3_wordHere 55 = .ok (.aload_n 0, 1) := by decide +kernel
theorem dX3_wordHere_56 : decode cX3_wordHere 56 = .ok (.ldc 88, 2) := by decide +kernel
theorem dX3_wordHere_58 : decode cX3_wordHere 58 = .ok (.invokevirtual 76, 3) := by decide +kernel
theorem dX3_wordHere_61 : decode cX3_wordHere 61 = .ok (.ifCond .eq 5, 3) := by decide +kernel
theorem dX3_wordHere_64 : decode cX3_wordHere 64 = .ok (.iconst 5, 1) := by decide +kernel
theorem dX3_wordHere_65 : decode cX3_wordHere 65 = .ok (.ireturn, 1) := by decide +kernel
theorem dX3_wordHere_66 : decode cX3_wordHere 66 = .ok (.aload_n 0, 1) := by decide +kernel
theorem dX3_wordHere_67 : decode cX3_wordHere 67 = .ok (.ldc 90, 2) := by decide +kernel
theorem dX3_wordHere_69 : decode cX3_wordHere 69 = .ok (.invokevirtual 76, 3) := by decide +kernel
theorem dX3_wordHere_72 : decode cX3_wordHere 72 = .ok (.ifCond .eq 6, 3) := by decide +kernel
theorem dX3_wordHere_75 : decode cX3_wordHere 75 = .ok (.bipush 6, 2) := by decide +kernel
theorem dX3_wordHere_77 : decode cX3_wordHere 77 = .ok (.ireturn, 1) := by decide +kernel
theorem dX3_wordHere_78 : decode cX3_wordHere 78 = .ok (.aload_n 0, 1) := by decide +kernel
theorem dX3_wordHere_79 : decode cX3_wordHere 79 = .ok (.ldc 92, 2) := by decide +kernel
theorem dX3_wordHere_81 : decode cX3_wordHere 81 = .ok (.invokevirtual 76, 3) := by decide +kernel
theorem dX3_wordHere_84 : decode cX3_wordHere 84 = .ok (.ifCond .eq 8, 3) := by decide +kernel
theorem dX3_wordHere_87 : decode cX3_wordHere 87 = .ok (.bipush 7, 2) := by decide +kernel
theorem dX3_wordHere_89 : decode cX3_wordHere 89 = .ok (.goto 4, 3) := by decide +kernel
theorem dX3_wordHere_92 : decode cX3_wordHere 92 = .ok (.iconst (-1), 1) := by decide +kernel
theorem dX3_wordHere_93 : decode cX3_wordHere 93 = .ok (.ireturn, 1) := by decide +kernel
theorem dX3_spells_0 : decode cX3_spells 0 = .ok (.aload_n 0, 1) := by decide +kernel
theorem dX3_spells_1 : decode cX3_spells 1 = .ok (.getfield 37, 3) := by decide +kernel
theorem dX3_spells_4 : decode cX3_spells 4 = .ok (.aload_n 0, 1) := by decide +kernel
theorem dX3_spells_5 : decode cX3_spells 5 = .ok (.getfield 44, 3) := by decide +kernel
theorem dX3_spells_8 : decode cX3_spells 8 = .ok (.isub, 1) := by decide +kernel
theorem dX3_spells_9 : decode cX3_spells 9 = .ok (.aload_n 1, 1) := by decide +kernel
theorem dX3_spells_10 : decode cX3_spells 10 = .ok (.invokevirtual 94, 3) := by decide +kernel
theorem dX3_spells_13 : decode cX3_spells 13 = .ok (.if_icmp .eq 5, 3) := by decide +kernel
theorem dX3_spells_16 : decode cX3_spells 16 = .ok (.iconst 0, 1) := by decide +kernel
theorem dX3_spells_17 : decode cX3_spells 17 = .ok (.ireturn, 1) := by decide +kernel
theorem dX3_spells_18 : decode cX3_spells 18 = .ok (.iconst 0, 1) := by decide +kernel
theorem dX3_spells_19 : decode cX3_spells 19 = .ok (.istore_n 2, 1) := by decide +kernel
theorem dX3_spells_20 : decode cX3_spells 20 = .ok (.iload_n 2, 1) := by decide +kernel
theorem dX3_spells_21 : decode cX3_spells 21 = .ok (.aload_n 1, 1) := by decide +kernel
theorem dX3_spells_22 : decode cX3_spells 22 = .ok (.invokevirtual 94, 3) := by decide +kernel
theorem dX3_spells_25 : decode cX3_spells 25 = .ok (.if_icmp .ge 29, 3) := by decide +kernel
theorem dX3_spells_28 : decode cX3_spells 28 = .ok (.aload_n 0, 1) := by decide +kernel
theorem dX3_spells_29 : decode cX3_spells 29 = .ok (.aload_n 0, 1) := by decide +kernel
theorem dX3_spells_30 : decode cX3_spells 30 = .ok (.getfield 44, 3) := by decide +kernel
theorem dX3_spells_33 : decode cX3_spells 33 = .ok (.iload_n 2, 1) := by decide +kernel
theorem dX3_spells_34 : decode cX3_spells 34 = .ok (.iadd, 1) := by decide +kernel
theorem dX3_spells_35 : decode cX3_spells 35 = .ok (.invokevirtual 50, 3) := by decide +kernel
theorem dX3_spells_38 : decode cX3_spells 38 = .ok (.aload_n 1, 1) := by decide +kernel
theorem dX3_spells_39 : decode cX3_spells 39 = .ok (.iload_n 2, 1) := by decide +kernel
theorem dX3_spells_40 : decode cX3_spells 40 = .ok (.invokevirtual 98, 3) := by decide +kernel
theorem dX3_spells_43 : decode cX3_spells 43 = .ok (.if_icmp .eq 5, 3) := by decide +kernel
theorem dX3_spells_46 : decode cX3_spells 46 = .ok (.iconst 0, 1) := by decide +kernel
theorem dX3_spells_47 : decode cX3_spells 47 = .ok (.ireturn, 1) := by decide +kernel
theorem dX3_spells_48 : decode cX3_spells 48 = .ok (.iinc 2 1, 3) := by decide +kernel
theorem dX3_spells_51 : decode cX3_spells 51 = .ok (.goto (-31), 3) := by decide +kernel
theorem dX3_spells_54 : decode cX3_spells 54 = .ok (.iconst 1, 1) := by decide +kernel
theorem dX3_spells_55 : decode cX3_spells 55 = .ok (.ireturn, 1) := by decide +kernel
theorem dX3_nextNumber_0 : decode cX3_nextNumber 0 = .ok (.aload_n 0, 1) := by decide +kernel
theorem dX3_nextNumber_1 : decode cX3_nextNumber 1 = .ok (.invokevirtual 47, 3) := by decide +kernel
theorem dX3_nextNumber_4 : decode cX3_nextNumber 4 = .ok (.aload_n 0, 1) := by decide +kernel
theorem dX3_nextNumber_5 : decode cX3_nextNumber 5 = .ok (.getfield 37, 3) := by decide +kernel
theorem dX3_nextNumber_8 : decode cX3_nextNumber 8 = .ok (.aload_n 0, 1) := by decide +kernel
theorem dX3_nextNumber_9 : decode cX3_nextNumber 9 = .ok (.getfield 44, 3) := by decide +kernel
theorem dX3_nextNumber_12 : decode cX3_nextNumber 12 = .ok (.isub, 1) := by decide +kernel
theorem dX3_nextNumber_13 : decode cX3_nextNumber 13 = .ok (.istore_n 2, 1) := by decide +kernel
theorem dX3_nextNumber_14 : decode cX3_nextNumber 14 = .ok (.iload_n 2, 1) := by decide +kernel
theorem dX3_nextNumber_15 : decode cX3_nextNumber 15 = .ok (.iconst 1, 1) := by decide +kernel
theorem dX3_nextNumber_16 : decode cX3_nextNumber 16 = .ok (.if_icmp .lt 23, 3) := by decide +kernel
theorem dX3_nextNumber_19 : decode cX3_nextNumber 19 = .ok (.iload_n 2, 1) := by decide +kernel
theorem dX3_nextNumber_20 : decode cX3_nextNumber 20 = .ok (.iconst 2, 1) := by decide +kernel
theorem dX3_nextNumber_21 : decode cX3_nextNumber 21 = .ok (.if_icmp .gt 18, 3) := by decide +kernel
theorem dX3_nextNumber_24 : decode cX3_nextNumber 24 = .ok (.aload_n 0, 1) := by decide +kernel
theorem dX3_nextNumber_25 : decode cX3_nextNumber 25 = .ok (.aload_n 0, 1) := by decide +kernel
theorem dX3_nextNumber_26 : decode cX3_nextNumber 26 = .ok (.getfield 44, 3) := by decide +kernel
theorem dX3_nextNumber_29 : decode cX3_nextNumber 29 = .ok (.invokevirtual 50, 3) := by decide +kernel
theorem dX3_nextNumber_32 : decode cX3_nextNumber 32 = .ok (.invokestatic 71, 3) := by decide +kernel
theorem dX3_nextNumber_35 : decode cX3_nextNumber 35 = .ok (.iconst 1, 1) := by decide +kernel
theorem dX3_nextNumber_36 : decode cX3_nextNumber 36 = .ok (.if_icmp .eq 5, 3) := by decide +kernel
theorem dX3_nextNumber_39 : decode cX3_nextNumber 39 = .ok (.iconst (-1), 1) := by decide +kernel
theorem dX3_nextNumber_40 : decode cX3_nextNumber 40 = .ok (.ireturn, 1) := by decide +kernel
theorem dX3_nextNumber_41 : decode cX3_nextNumber 41 = .ok (.iconst 0, 1) := by decide +kernel
theorem dX3_nextNumber_42 : decode cX3_nextNumber 42 = .ok (.istore_n 3, 1) := by decide +kernel
theorem dX3_nextNumber_43 : decode cX3_nextNumber 43 = .ok (.iconst 0, 1) := by decide +kernel
theorem dX3_nextNumber_44 : decode cX3_nextNumber 44 = .ok (.istore 4, 2) := by decide +kernel
theorem dX3_nextNumber_46 : decode cX3_nextNumber 46 = .ok (.iload 4, 2) := by decide +kernel
theorem dX3_nextNumber_48 : decode cX3_nextNumber 48 = .ok (.iload_n 2, 1) := by decide +kernel
theorem dX3_nextNumber_49 : decode cX3_nextNumber 49 = .ok (.if_icmp .ge 29, 3) := by decide +kernel
theorem dX3_nextNumber_52 : decode cX3_nextNumber 52 = .ok (.iload_n 3, 1) := by decide +kernel
theorem dX3_nextNumber_53 : decode cX3_nextNumber 53 = .ok (.bipush 10, 2) := by decide +kernel
theorem dX3_nextNumber_55 : decode cX3_nextNumber 55 = .ok (.imul, 1) := by decide +kernel
theorem dX3_nextNumber_56 : decode cX3_nextNumber 56 = .ok (.aload_n 0, 1) := by decide +kernel
theorem dX3_nextNumber_57 : decode cX3_nextNumber 57 = .ok (.aload_n 0, 1) := by decide +kernel
theorem dX3_nextNumber_58 : decode cX3_nextNumber 58 = .ok (.getfield 44, 3) := by decide +kernel
theorem dX3_nextNumber_61 : decode cX3_nextNumber 61 = .ok (.iload 4, 2) := by decide +kernel
theorem dX3_nextNumber_63 : decode cX3_nextNumber 63 = .ok (.iadd, 1) := by decide +kernel
theorem dX3_nextNumber_64 : decode cX3_nextNumber 64 = .ok (.invokevirtual 50, 3) := by decide +kernel
theorem dX3_nextNumber_67 : decode cX3_nextNumber 67 = .ok (.iadd, 1) := by decide +kernel
theorem dX3_nextNumber_68 : decode cX3_nextNumber 68 = .ok (.bipush 48, 2) := by decide +kernel
theorem dX3_nextNumber_70 : decode cX3_nextNumber 70 = .ok (.isub, 1) := by decide +kernel
theorem dX3_nextNumber_71 : decode cX3_nextNumber 71 = .ok (.istore_n 3, 1) := by decide +kernel
theorem dX3_nextNumber_72 : decode cX3_nextNumber 72 = .ok (.iinc 4 1, 3) := by decide +kernel
theorem dX3_nextNumber_75 : decode cX3_nextNumber 75 = .ok (.goto (-29), 3) := by decide +kernel
theorem dX3_nextNumber_78 : decode cX3_nextNumber 78 = .ok (.iload_n 3, 1) := by decide +kernel
theorem dX3_nextNumber_79 : decode cX3_nextNumber 79 = .ok (.iload_n 1, 1) := by decide +kernel
theorem dX3_nextNumber_80 : decode cX3_nextNumber 80 = .ok (.if_icmp .ge 7, 3) := by decide +kernel
theorem dX3_nextNumber_83 : decode cX3_nextNumber 83 = .ok (.iload_n 3, 1) := by decide +kernel
theorem dX3_nextNumber_84 : decode cX3_nextNumber 84 = .ok (.goto 4, 3) := by decide +kernel
theorem dX3_nextNumber_87 : decode cX3_nextNumber 87 = .ok (.iconst (-1), 1) := by decide +kernel
theorem dX3_nextNumber_88 : decode cX3_nextNumber 88 = .ok (.ireturn, 1) := by decide +kernel
theorem dX4_init_0 : decode cX4_init 0 = .ok (.aload_n 0, 1) := by decide +kernel
theorem dX4_init_1 : decode cX4_init 1 = .ok (.invokespecial 3, 3) := by decide +kernel
theorem dX4_init_4 : decode cX4_init 4 = .ok (.aload_n 0, 1) := by decide +kernel
theorem dX4_init_5 : decode cX4_init 5 = .ok (.sipush 720, 3) := by decide +kernel
theorem dX4_init_8 : decode cX4_init 8 = .ok (.newarray .int, 2) := by decide +kernel
theorem dX4_init_10 : decode cX4_init 10 = .ok (.putfield 9, 3) := by decide +kernel
theorem dX4_init_13 : decode cX4_init 13 = .ok (.aload_n 0, 1) := by decide +kernel
theorem dX4_init_14 : decode cX4_init 14 = .ok (.bipush 12, 2) := by decide +kernel
theorem dX4_init_16 : decode cX4_init 16 = .ok (.newarray .int, 2) := by decide +kernel
theorem dX4_init_18 : decode cX4_init 18 = .ok (.putfield 15, 3) := by decide +kernel
theorem dX4_init_21 : decode cX4_init 21 = .ok (.iconst 0, 1) := by decide +kernel
theorem dX4_init_22 : decode cX4_init 22 = .ok (.istore_n 1, 1) := by decide +kernel
theorem dX4_init_23 : decode cX4_init 23 = .ok (.iload_n 1, 1) := by decide +kernel
theorem dX4_init_24 : decode cX4_init 24 = .ok (.bipush 12, 2) := by decide +kernel
theorem dX4_init_26 : decode cX4_init 26 = .ok (.if_icmp .ge 28, 3) := by decide +kernel
theorem dX4_init_29 : decode cX4_init 29 = .ok (.iconst 0, 1) := by decide +kernel
theorem dX4_init_30 : decode cX4_init 30 = .ok (.istore_n 2, 1) := by decide +kernel
theorem dX4_init_31 : decode cX4_init 31 = .ok (.iload_n 2, 1) := by decide +kernel
theorem dX4_init_32 : decode cX4_init 32 = .ok (.iconst 5, 1) := by decide +kernel
theorem dX4_init_33 : decode cX4_init 33 = .ok (.if_icmp .ge 15, 3) := by decide +kernel
theorem dX4_init_36 : decode cX4_init 36 = .ok (.aload_n 0, 1) := by decide +kernel
theorem dX4_init_37 : decode cX4_init 37 = .ok (.iload_n 1, 1) := by decide +kernel
theorem dX4_init_38 : decode cX4_init 38 = .ok (.iload_n 2, 1) := by decide +kernel
theorem dX4_init_39 : decode cX4_init 39 = .ok (.invokevirtual 18, 3) := by decide +kernel
theorem dX4_init_42 : decode cX4_init 42 = .ok (.iinc 2 1, 3) := by decide +kernel
theorem dX4_init_45 : decode cX4_init 45 = .ok (.goto (-14), 3) := by decide +kernel
theorem dX4_init_48 : decode cX4_init 48 = .ok (.iinc 1 1, 3) := by decide +kernel
theorem dX4_init_51 : decode cX4_init 51 = .ok (.goto (-28), 3) := by decide +kernel
theorem dX4_init_54 : decode cX4_init 54 = .ok (.return_, 1) := by decide +kernel
theorem dX4_number_0 : decode cX4_number 0 = .ok (.iload_n 0, 1) := by decide +kernel
theorem dX4_number_1 : decode cX4_number 1 = .ok (.iconst 5, 1) := by decide +kernel
theorem dX4_number_2 : decode cX4_number 2 = .ok (.imul, 1) := by decide +kernel
theorem dX4_number_3 : decode cX4_number 3 = .ok (.iload_n 1, 1) := by decide +kernel
theorem dX4_number_4 : decode cX4_number 4 = .ok (.iadd, 1) := by decide +kernel
theorem dX4_number_5 : decode cX4_number 5 = .ok (.ireturn, 1) := by decide +kernel
theorem dX4_lay_0 : decode cX4_lay 0 = .ok (.iload_n 1, 1) := by decide +kernel
theorem dX4_lay_1 : decode cX4_lay 1 = .ok (.iload_n 2, 1) := by decide +kernel
theorem dX4_lay_2 : decode cX4_lay 2 = .ok (.invokestatic 22, 3) := by decide +kernel
theorem dX4_lay_5 : decode cX4_lay 5 = .ok (.istore_n 3, 1) := by decide +kernel
theorem dX4_lay_6 : decode cX4_lay 6 = .ok (.aload_n 0, 1) := by decide +kernel
theorem dX4_lay_7 : decode cX4_lay 7 = .ok (.iload_n 3, 1) := by decide +kernel
theorem dX4_lay_8 : decode cX4_lay 8 = .ok (.iconst 0, 1) := by decide +kernel
theorem dX4_lay_9 : decode cX4_lay 9 = .ok (.iload_n 1, 1) := by decide +kernel
theorem dX4_lay_10 : decode cX4_lay 10 = .ok (.invokevirtual 26, 3) := by decide +kernel
theorem dX4_lay_13 : decode cX4_lay 13 = .ok (.aload_n 0, 1) := by decide +kernel
theorem dX4_lay_14 : decode cX4_lay 14 = .ok (.iconst 0, 1) := by decide +kernel
theorem dX4_lay_15 : decode cX4_lay 15 = .ok (.iload_n 2, 1) := by decide +kernel
theorem dX4_lay_16 : decode cX4_lay 16 = .ok (.invokevirtual 30, 3) := by decide +kernel
theorem dX4_lay_19 : decode cX4_lay 19 = .ok (.iconst 1, 1) := by decide +kernel
theorem dX4_lay_20 : decode cX4_lay 20 = .ok (.istore 4, 2) := by decide +kernel
theorem dX4_lay_22 : decode cX4_lay 22 = .ok (.iload 4, 2) := by decide +kernel
theorem dX4_lay_24 : decode cX4_lay 24 = .ok (.aload_n 0, 1) := by decide +kernel
theorem dX4_lay_25 : decode cX4_lay 25 = .ok (.getfield 15, 3) := by decide +kernel
theorem dX4_lay_28 : decode cX4_lay 28 = .ok (.arraylength, 1) := by decide +kernel
theorem dX4_lay_29 : decode cX4_lay 29 = .ok (.if_icmp .ge 84, 3) := by decide +kernel
theorem dX4_lay_32 : decode cX4_lay 32 = .ok (.iload 4, 2) := by decide +kernel
theorem dX4_lay_34 : decode cX4_lay 34 = .ok (.iconst 0, 1) := by decide +kernel
theorem dX4_lay_35 : decode cX4_lay 35 = .ok (.invokestatic 33, 3) := by decide +kernel
theorem dX4_lay_38 : decode cX4_lay 38 = .ok (.istore 5, 2) := by decide +kernel
theorem dX4_lay_40 : decode cX4_lay 40 = .ok (.iload 5, 2) := by decide +kernel
theorem dX4_lay_42 : decode cX4_lay 42 = .ok (.ifCond .lt 65, 3) := by decide +kernel
theorem dX4_lay_45 : decode cX4_lay 45 = .ok (.iload 5, 2) := by decide +kernel
theorem dX4_lay_47 : decode cX4_lay 47 = .ok (.iload 4, 2) := by decide +kernel
theorem dX4_lay_49 : decode cX4_lay 49 = .ok (.if_icmp .ge 58, 3) := by decide +kernel
theorem dX4_lay_52 : decode cX4_lay 52 = .ok (.aload_n 0, 1) := by decide +kernel
theorem dX4_lay_53 : decode cX4_lay 53 = .ok (.iload_n 3, 1) := by decide +kernel
theorem dX4_lay_54 : decode cX4_lay 54 = .ok (.iload 5, 2) := by decide +kernel
theorem dX4_lay_56 : decode cX4_lay 56 = .ok (.invokevirtual 38, 3) := by decide +kernel
theorem dX4_lay_59 : decode cX4_lay 59 = .ok (.istore 6, 2) := by decide +kernel
theorem dX4_lay_61 : decode cX4_lay 61 = .ok (.iload 6, 2) := by decide +kernel
theorem dX4_lay_63 : decode cX4_lay 63 = .ok (.aload_n 0, 1) := by decide +kernel
theorem dX4_lay_64 : decode cX4_lay 64 = .ok (.getfield 15, 3) := by decide +kernel
theorem dX4_lay_67 : decode cX4_lay 67 = .ok (.iload 5, 2) := by decide +kernel
theorem dX4_lay_69 : decode cX4_lay 69 = .ok (.iaload, 1) := by decide +kernel
theorem dX4_lay_70 : decode cX4_lay 70 = .ok (.iload 5, 2) := by decide +kernel
theorem dX4_lay_72 : decode cX4_lay 72 = .ok (.iload 4, 2) := by decide +kernel
theorem dX4_lay_74 : decode cX4_lay 74 = .ok (.invokestatic 41, 3) := by decide +kernel
theorem dX4_lay_77 : decode cX4_lay 77 = .ok (.invokestatic 44, 3) := by decide +kernel
theorem dX4_lay_80 : decode cX4_lay 80 = .ok (.invokestatic 33, 3) := by decide +kernel
theorem dX4_lay_83 : decode cX4_lay 83 = .ok (.istore 7, 2) := by decide +kernel
theorem dX4_lay_85 : decode cX4_lay 85 = .ok (.aload_n 0, 1) := by decide +kernel
theorem dX4_lay_86 : decode cX4_lay 86 = .ok (.iload_n 3, 1) := by decide +kernel
theorem dX4_lay_87 : decode cX4_lay 87 = .ok (.iload 4, 2) := by decide +kernel
theorem dX4_lay_89 : decode cX4_lay 89 = .ok (.iload 7, 2) := by decide +kernel
theorem dX4_lay_91 : decode cX4_lay 91 = .ok (.invokevirtual 26, 3) := by decide +kernel
theorem dX4_lay_94 : decode cX4_lay 94 = .ok (.aload_n 0, 1) := by decide +kernel
theorem dX4_lay_95 : decode cX4_lay 95 = .ok (.iload 4, 2) := by decide +kernel
theorem dX4_lay_97 : decode cX4_lay 97 = .ok (.iload 7, 2) := by decide +kernel
theorem dX4_lay_99 : decode cX4_lay 99 = .ok (.iload 6, 2) := by decide +kernel
theorem dX4_lay_101 : decode cX4_lay 101 = .ok (.invokestatic 41, 3) := by decide +kernel
theorem dX4_lay_104 : decode cX4_lay 104 = .ok (.invokevirtual 30, 3) := by decide +kernel
theorem dX4_lay_107 : decode cX4_lay 107 = .ok (.iinc 4 1, 3) := by decide +kernel
theorem dX4_lay_110 : decode cX4_lay 110 = .ok (.goto (-88), 3) := by decide +kernel
theorem dX4_lay_113 : decode cX4_lay 113 = .ok (.return_, 1) := by decide +kernel
theorem dX4_setGoal_0 : decode cX4_setGoal 0 = .ok (.iload_n 1, 1) := by decide +kernel
theorem dX4_setGoal_1 : decode cX4_setGoal 1 = .ok (.invokestatic 47, 3) := by decide +kernel
theorem dX4_setGoal_4 : decode cX4_setGoal 4 = .ok (.ifCond .eq 22, 3) := by decide +kernel
theorem dX4_setGoal_7 : decode cX4_setGoal 7 = .ok (.iload_n 2, 1) := by decide +kernel
theorem dX4_setGoal_8 : decode cX4_setGoal 8 = .ok (.invokestatic 51, 3) := by decide +kernel
theorem dX4_setGoal_11 : decode cX4_setGoal 11 = .ok (.ifCond .eq 15, 3) := by decide +kernel
theorem dX4_setGoal_14 : decode cX4_setGoal 14 = .ok (.aload_n 0, 1) := by decide +kernel
theorem dX4_setGoal_15 : decode cX4_setGoal 15 = .ok (.getfield 9, 3) := by decide +kernel
theorem dX4_setGoal_18 : decode cX4_setGoal 18 = .ok (.iload_n 1, 1) := by decide +kernel
theorem dX4_setGoal_19 : decode cX4_setGoal 19 = .ok (.bipush 12, 2) := by decide +kernel
theorem dX4_setGoal_21 : decode cX4_setGoal 21 = .ok (.imul, 1) := by decide +kernel
theorem dX4_setGoal_22 : decode cX4_setGoal 22 = .ok (.iload_n 2, 1) := by decide +kernel
theorem dX4_setGoal_23 : decode cX4_setGoal 23 = .ok (.iadd, 1) := by decide +kernel
theorem dX4_setGoal_24 : decode cX4_setGoal 24 = .ok (.iload_n 3, 1) := by decide +kernel
theorem dX4_setGoal_25 : decode cX4_setGoal 25 = .ok (.iastore, 1) := by decide +kernel
theorem dX4_setGoal_26 : decode cX4_setGoal 26 = .ok (.return_, 1) := by decide +kernel
theorem dX4_setAhead_0 : decode cX4_setAhead 0 = .ok (.iload_n 1, 1) := by decide +kernel
theorem dX4_setAhead_1 : decode cX4_setAhead 1 = .ok (.ifCond .lt 19, 3) := by decide +kernel
theorem dX4_setAhead_4 : decode cX4_setAhead 4 = .ok (.iload_n 1, 1) := by decide +kernel
theorem dX4_setAhead_5 : decode cX4_setAhead 5 = .ok (.aload_n 0, 1) := by decide +kernel
theorem dX4_setAhead_6 : decode cX4_setAhead 6 = .ok (.getfield 15, 3) := by decide +kernel
theorem dX4_setAhead_9 : decode cX4_setAhead 9 = .ok (.arraylength, 1) := by decide +kernel
theorem dX4_setAhead_10 : decode cX4_setAhead 10 = .ok (.if_icmp .ge 10, 3) := by decide +kernel
theorem dX4_setAhead_13 : decode cX4_setAhead 13 = .ok (.aload_n 0, 1) := by decide +kernel
theorem dX4_setAhead_14 : decode cX4_setAhead 14 = .ok (.getfield 15, 3) := by decide +kernel
theorem dX4_setAhead_17 : decode cX4_setAhead 17 = .ok (.iload_n 1, 1) := by decide +kernel
theorem dX4_setAhead_18 : decode cX4_setAhead 18 = .ok (.iload_n 2, 1) := by decide +kernel
theorem dX4_setAhead_19 : decode cX4_setAhead 19 = .ok (.iastore, 1) := by decide +kernel
theorem dX4_setAhead_20 : decode cX4_setAhead 20 = .ok (.return_, 1) := by decide +kernel
theorem dX4_isTurning_0 : decode cX4_isTurning 0 = .ok (.iload_n 0, 1) := by decide +kernel
theorem dX4_isTurning_1 : decode cX4_isTurning 1 = .ok (.ifCond .lt 13, 3) := by decide +kernel
theorem dX4_isTurning_4 : decode cX4_isTurning 4 = .ok (.iload_n 0, 1) := by decide +kernel
theorem dX4_isTurning_5 : decode cX4_isTurning 5 = .ok (.bipush 60, 2) := by decide +kernel
theorem dX4_isTurning_7 : decode cX4_isTurning 7 = .ok (.if_icmp .ge 7, 3) := by decide +kernel
theorem dX4_isTurning_10 : decode cX4_isTurning 10 = .ok (.iconst 1, 1) := by decide +kernel
theorem dX4_isTurning_11 : decode cX4_isTurning 11 = .ok (.goto 4, 3) := by decide +kernel
theorem dX4_isTurning_14 : decode cX4_isTurning 14 = .ok (.iconst 0, 1) := by decide +kernel
theorem dX4_isTurning_15 : decode cX4_isTurning 15 = .ok (.ireturn, 1) := by decide +kernel
theorem dX4_goal_0 : decode cX4_goal 0 = .ok (.iload_n 1, 1) := by decide +kernel
theorem dX4_goal_1 : decode cX4_goal 1 = .ok (.invokestatic 47, 3) := by decide +kernel
theorem dX4_goal_4 : decode cX4_goal 4 = .ok (.ifCond .eq 10, 3) := by decide +kernel
theorem dX4_goal_7 : decode cX4_goal 7 = .ok (.iload_n 2, 1) := by decide +kernel
theorem dX4_goal_8 : decode cX4_goal 8 = .ok (.invokestatic 51, 3) := by decide +kernel
theorem dX4_goal_11 : decode cX4_goal 11 = .ok (.ifCond .ne 6, 3) := by decide +kernel
theorem dX4_goal_14 : decode cX4_goal 14 = .ok (.bipush (-2), 2) := by decide +kernel
theorem dX4_goal_16 : decode cX4_goal 16 = .ok (.ireturn, 1) := by decide +kernel
theorem dX4_goal_17 : decode cX4_goal 17 = .ok (.aload_n 0, 1) := by decide +kernel
theorem dX4_goal_18 : decode cX4_goal 18 = .ok (.getfield 9, 3) := by decide +kernel
theorem dX4_goal_21 : decode cX4_goal 21 = .ok (.iload_n 1, 1) := by decide +kernel
theorem dX4_goal_22 : decode cX4_goal 22 = .ok (.bipush 12, 2) := by decide +kernel
theorem dX4_goal_24 : decode cX4_goal 24 = .ok (.imul, 1) := by decide +kernel
theorem dX4_goal_25 : decode cX4_goal 25 = .ok (.iload_n 2, 1) := by decide +kernel
theorem dX4_goal_26 : decode cX4_goal 26 = .ok (.iadd, 1) := by decide +kernel
theorem dX4_goal_27 : decode cX4_goal 27 = .ok (.iaload, 1) := by decide +kernel
theorem dX4_goal_28 : decode cX4_goal 28 = .ok (.ireturn, 1) := by decide +kernel
theorem dX4_bringing_0 : decode cX4_bringing 0 = .ok (.iconst 0, 1) := by decide +kernel
theorem dX4_bringing_1 : decode cX4_bringing 1 = .ok (.istore_n 3, 1) := by decide +kernel
theorem dX4_bringing_2 : decode cX4_bringing 2 = .ok (.iconst 0, 1) := by decide +kernel
theorem dX4_bringing_3 : decode cX4_bringing 3 = .ok (.istore 4, 2) := by decide +kernel
theorem dX4_bringing_5 : decode cX4_bringing 5 = .ok (.iload 4, 2) := by decide +kernel
theorem dX4_bringing_7 : decode cX4_bringing 7 = .ok (.bipush 60, 2) := by decide +kernel
theorem dX4_bringing_9 : decode cX4_bringing 9 = .ok (.if_icmp .ge 23, 3) := by decide +kernel
theorem dX4_bringing_12 : decode cX4_bringing 12 = .ok (.aload_n 0, 1) := by decide +kernel
theorem dX4_bringing_13 : decode cX4_bringing 13 = .ok (.iload 4, 2) := by decide +kernel
theorem dX4_bringing_15 : decode cX4_bringing 15 = .ok (.aload_n 1, 1) := by decide +kernel
theorem dX4_bringing_16 : decode cX4_bringing 16 = .ok (.aload_n 2, 1) := by decide +kernel
theorem dX4_bringing_17 : decode cX4_bringing 17 = .ok (.invokevirtual 54, 3) := by decide +kernel
theorem dX4_bringing_20 : decode cX4_bringing 20 = .ok (.ifCond .eq 6, 3) := by decide +kernel
theorem dX4_bringing_23 : decode cX4_bringing 23 = .ok (.iinc 3 1, 3) := by decide +kernel
theorem dX4_bringing_26 : decode cX4_bringing 26 = .ok (.iinc 4 1, 3) := by decide +kernel
theorem dX4_bringing_29 : decode cX4_bringing 29 = .ok (.goto (-24), 3) := by decide +kernel
theorem dX4_bringing_32 : decode cX4_bringing 32 = .ok (.iload_n 3, 1) := by decide +kernel
theorem dX4_bringing_33 : decode cX4_bringing 33 = .ok (.ireturn, 1) := by decide +kernel
theorem dX4_brings_0 : decode cX4_brings 0 = .ok (.iconst 0, 1) := by decide +kernel
theorem dX4_brings_1 : decode cX4_brings 1 = .ok (.istore 4, 2) := by decide +kernel
theorem dX4_brings_3 : decode cX4_brings 3 = .ok (.iload 4, 2) := by decide +kernel
theorem dX4_brings_5 : decode cX4_brings 5 = .ok (.bipush 12, 2) := by decide +kernel
theorem dX4_brings_7 : decode cX4_brings 7 = .ok (.if_icmp .ge 31, 3) := by decide +kernel
theorem dX4_brings_10 : decode cX4_brings 10 = .ok (.aload_n 3, 1) := by decide +kernel
theorem dX4_brings_11 : decode cX4_brings 11 = .ok (.aload_n 0, 1) := by decide +kernel
theorem dX4_brings_12 : decode cX4_brings 12 = .ok (.iload_n 1, 1) := by decide +kernel
theorem dX4_brings_13 : decode cX4_brings 13 = .ok (.iload 4, 2) := by decide +kernel
theorem dX4_brings_15 : decode cX4_brings 15 = .ok (.invokevirtual 38, 3) := by decide +kernel
theorem dX4_brings_18 : decode cX4_brings 18 = .ok (.invokevirtual 58, 3) := by decide +kernel
theorem dX4_brings_21 : decode cX4_brings 21 = .ok (.aload_n 2, 1) := by decide +kernel
theorem dX4_brings_22 : decode cX4_brings 22 = .ok (.iload 4, 2) := by decide +kernel
theorem dX4_brings_24 : decode cX4_brings 24 = .ok (.invokevirtual 58, 3) := by decide +kernel
theorem dX4_brings_27 : decode cX4_brings 27 = .ok (.if_icmp .eq 5, 3) := by decide +kernel
theorem dX4_brings_30 : decode cX4_brings 30 = .ok (.iconst 0, 1) := by decide +kernel
theorem dX4_brings_31 : decode cX4_brings 31 = .ok (.ireturn, 1) := by decide +kernel
theorem dX4_brings_32 : decode cX4_brings 32 = .ok (.iinc 4 1, 3) := by decide +kernel
theorem dX4_brings_35 : decode cX4_brings 35 = .ok (.goto (-32), 3) := by decide +kernel
theorem dX4_brings_38 : decode cX4_brings 38 = .ok (.iconst 1, 1) := by decide +kernel
theorem dX4_brings_39 : decode cX4_brings 39 = .ok (.ireturn, 1) := by decide +kernel
theorem dX4_fixedWays_0 : decode cX4_fixedWays 0 = .ok (.lconst 1, 1) := by decide +kernel
theorem dX4_fixedWays_1 : decode cX4_fixedWays 1 = .ok (.lstore_n 3, 1) := by decide +kernel
theorem dX4_fixedWays_2 : decode cX4_fixedWays 2 = .ok (.iconst 0, 1) := by decide +kernel
theorem dX4_fixedWays_3 : decode cX4_fixedWays 3 = .ok (.istore 5, 2) := by decide +kernel
theorem dX4_fixedWays_5 : decode cX4_fixedWays 5 = .ok (.iconst 0, 1) := by decide +kernel
theorem dX4_fixedWays_6 : decode cX4_fixedWays 6 = .ok (.istore 6, 2) := by decide +kernel
theorem dX4_fixedWays_8 : decode cX4_fixedWays 8 = .ok (.iload 6, 2) := by decide +kernel
theorem dX4_fixedWays_10 : decode cX4_fixedWays 10 = .ok (.bipush 12, 2) := by decide +kernel
theorem dX4_fixedWays_12 : decode cX4_fixedWays 12 = .ok (.if_icmp .ge 36, 3) := by decide +kernel
theorem dX4_fixedWays_15 : decode cX4_fixedWays 15 = .ok (.iload 5, 2) := by decide +kernel
theorem dX4_fixedWays_17 : decode cX4_fixedWays 17 = .ok (.iload 6, 2) := by decide +kernel
theorem dX4_fixedWays_19 : decode cX4_fixedWays 19 = .ok (.invokestatic 64, 3) := by decide +kernel
theorem dX4_fixedWays_22 : decode cX4_fixedWays 22 = .ok (.ifCond .ne 20, 3) := by decide +kernel
theorem dX4_fixedWays_25 : decode cX4_fixedWays 25 = .ok (.lload_n 3, 1) := by decide +kernel
theorem dX4_fixedWays_26 : decode cX4_fixedWays 26 = .ok (.iload_n 2, 1) := by decide +kernel
theorem dX4_fixedWays_27 : decode cX4_fixedWays 27 = .ok (.i2l, 1) := by decide +kernel
theorem dX4_fixedWays_28 : decode cX4_fixedWays 28 = .ok (.lmul, 1) := by decide +kernel
theorem dX4_fixedWays_29 : decode cX4_fixedWays 29 = .ok (.lstore_n 3, 1) := by decide +kernel
theorem dX4_fixedWays_30 : decode cX4_fixedWays 30 = .ok (.iload 5, 2) := by decide +kernel
theorem dX4_fixedWays_32 : decode cX4_fixedWays 32 = .ok (.aload_n 0, 1) := by decide +kernel
theorem dX4_fixedWays_33 : decode cX4_fixedWays 33 = .ok (.iload_n 1, 1) := by decide +kernel
theorem dX4_fixedWays_34 : decode cX4_fixedWays 34 = .ok (.iload 6, 2) := by decide +kernel
theorem dX4_fixedWays_36 : decode cX4_fixedWays 36 = .ok (.invokevirtual 68, 3) := by decide +kernel
theorem dX4_fixedWays_39 : decode cX4_fixedWays 39 = .ok (.ior, 1) := by decide +kernel
theorem dX4_fixedWays_40 : decode cX4_fixedWays 40 = .ok (.istore 5, 2) := by decide +kernel
theorem dX4_fixedWays_42 : decode cX4_fixedWays 42 = .ok (.iinc 6 1, 3) := by decide +kernel
theorem dX4_fixedWays_45 : decode cX4_fixedWays 45 = .ok (.goto (-37), 3) := by decide +kernel
theorem dX4_fixedWays_48 : decode cX4_fixedWays 48 = .ok (.lload_n 3, 1) := by decide +kernel
theorem dX4_fixedWays_49 : decode cX4_fixedWays 49 = .ok (.lreturn, 1) := by decide +kernel
theorem dX4_ringOf_0 : decode cX4_ringOf 0 = .ok (.iconst 0, 1) := by decide +kernel
theorem dX4_ringOf_1 : decode cX4_ringOf 1 = .ok (.istore_n 3, 1) := by decide +kernel
theorem dX4_ringOf_2 : decode cX4_ringOf 2 = .ok (.iload_n 2, 1) := by decide +kernel
theorem dX4_ringOf_3 : decode cX4_ringOf 3 = .ok (.istore 4, 2) := by decide +kernel
theorem dX4_ringOf_5 : decode cX4_ringOf 5 = .ok (.iconst 0, 1) := by decide +kernel
theorem dX4_ringOf_6 : decode cX4_ringOf 6 = .ok (.istore 5, 2) := by decide +kernel
theorem dX4_ringOf_8 : decode cX4_ringOf 8 = .ok (.iload 5, 2) := by decide +kernel
theorem dX4_ringOf_10 : decode cX4_ringOf 10 = .ok (.bipush 12, 2) := by decide +kernel
theorem dX4_ringOf_12 : decode cX4_ringOf 12 = .ok (.if_icmp .ge 33, 3) := by decide +kernel
theorem dX4_ringOf_15 : decode cX4_ringOf 15 = .ok (.iload 4, 2) := by decide +kernel
theorem dX4_ringOf_17 : decode cX4_ringOf 17 = .ok (.invokestatic 51, 3) := by decide +kernel
theorem dX4_ringOf_20 : decode cX4_ringOf 20 = .ok (.ifCond .eq 25, 3) := by decide +kernel
theorem dX4_ringOf_23 : decode cX4_ringOf 23 = .ok (.iload_n 3, 1) := by decide +kernel
theorem dX4_ringOf_24 : decode cX4_ringOf 24 = .ok (.iconst 1, 1) := by decide +kernel
theorem dX4_ringOf_25 : decode cX4_ringOf 25 = .ok (.iload 4, 2) := by decide +kernel
theorem dX4_ringOf_27 : decode cX4_ringOf 27 = .ok (.ishl, 1) := by decide +kernel
theorem dX4_ringOf_28 : decode cX4_ringOf 28 = .ok (.ior, 1) := by decide +kernel
theorem dX4_ringOf_29 : decode cX4_ringOf 29 = .ok (.istore_n 3, 1) := by decide +kernel
theorem dX4_ringOf_30 : decode cX4_ringOf 30 = .ok (.aload_n 0, 1) := by decide +kernel
theorem dX4_ringOf_31 : decode cX4_ringOf 31 = .ok (.iload_n 1, 1) := by decide +kernel
theorem dX4_ringOf_32 : decode cX4_ringOf 32 = .ok (.iload 4, 2) := by decide +kernel
theorem dX4_ringOf_34 : decode cX4_ringOf 34 = .ok (.invokevirtual 38, 3) := by decide +kernel
theorem dX4_ringOf_37 : decode cX4_ringOf 37 = .ok (.istore 4, 2) := by decide +kernel
theorem dX4_ringOf_39 : decode cX4_ringOf 39 = .ok (.iinc 5 1, 3) := by decide +kernel
theorem dX4_ringOf_42 : decode cX4_ringOf 42 = .ok (.goto (-34), 3) := by decide +kernel
theorem dX4_ringOf_45 : decode cX4_ringOf 45 = .ok (.iload_n 3, 1) := by decide +kernel
theorem dX4_ringOf_46 : decode cX4_ringOf 46 = .ok (.ireturn, 1) := by decide +kernel
theorem dX4_unlikeWays_0 : decode cX4_unlikeWays 0 = .ok (.lconst 0, 1) := by decide +kernel
theorem dX4_unlikeWays_1 : decode cX4_unlikeWays 1 = .ok (.lstore_n 2, 1) := by decide +kernel
theorem dX4_unlikeWays_2 : decode cX4_unlikeWays 2 = .ok (.iconst 0, 1) := by decide +kernel
theorem dX4_unlikeWays_3 : decode cX4_unlikeWays 3 = .ok (.istore 4, 2) := by decide +kernel
theorem dX4_unlikeWays_5 : decode cX4_unlikeWays 5 = .ok (.iload 4, 2) := by decide +kernel
theorem dX4_unlikeWays_7 : decode cX4_unlikeWays 7 = .ok (.bipush 60, 2) := by decide +kernel
theorem dX4_unlikeWays_9 : decode cX4_unlikeWays 9 = .ok (.if_icmp .ge 19, 3) := by decide +kernel
theorem dX4_unlikeWays_12 : decode cX4_unlikeWays 12 = .ok (.lload_n 2, 1) := by decide +kernel
theorem dX4_unlikeWays_13 : decode cX4_unlikeWays 13 = .ok (.aload_n 0, 1) := by decide +kernel
theorem dX4_unlikeWays_14 : decode cX4_unlikeWays 14 = .ok (.iload 4, 2) := by decide +kernel
theorem dX4_unlikeWays_16 : decode cX4_unlikeWays 16 = .ok (.iload_n 1, 1) := by decide +kernel
theorem dX4_unlikeWays_17 : decode cX4_unlikeWays 17 = .ok (.invokevirtual 71, 3) := by decide +kernel
theorem dX4_unlikeWays_20 : decode cX4_unlikeWays 20 = .ok (.ladd, 1) := by decide +kernel
theorem dX4_unlikeWays_21 : decode cX4_unlikeWays 21 = .ok (.lstore_n 2, 1) := by decide +kernel
theorem dX4_unlikeWays_22 : decode cX4_unlikeWays 22 = .ok (.iinc 4 1, 3) := by decide +kernel
theorem dX4_unlikeWays_25 : decode cX4_unlikeWays 25 = .ok (.goto (-20), 3) := by decide +kernel
theorem dX4_unlikeWays_28 : decode cX4_unlikeWays 28 = .ok (.lload_n 2, 1) := by decide +kernel
theorem dX4_unlikeWays_29 : decode cX4_unlikeWays 29 = .ok (.ldc2_w 75, 3) := by decide +kernel
theorem dX4_unlikeWays_32 : decode cX4_unlikeWays 32 = .ok (.ldiv, 1) := by decide +kernel
theorem dX4_unlikeWays_33 : decode cX4_unlikeWays 33 = .ok (.lreturn, 1) := by decide +kernel
theorem dX5_init_0 : decode cX5_init 0 = .ok (.aload_n 0, 1) := by decide +kernel
theorem dX5_init_1 : decode cX5_init 1 = .ok (.invokespecial 3, 3) := by decide +kernel
theorem dX5_init_4 : decode cX5_init 4 = .ok (.aload_n 0, 1) := by decide +kernel
theorem dX5_init_5 : decode cX5_init 5 = .ok (.bipush 12, 2) := by decide +kernel
theorem dX5_init_7 : decode cX5_init 7 = .ok (.newarray .int, 2) := by decide +kernel
theorem dX5_init_9 : decode cX5_init 9 = .ok (.putfield 9, 3) := by decide +kernel
theorem dX5_init_12 : decode cX5_init 12 = .ok (.aload_n 0, 1) := by decide +kernel
theorem dX5_init_13 : decode cX5_init 13 = .ok (.bipush 12, 2) := by decide +kernel
theorem dX5_init_15 : decode cX5_init 15 = .ok (.newarray .int, 2) := by decide +kernel
theorem dX5_init_17 : decode cX5_init 17 = .ok (.putfield 15, 3) := by decide +kernel
theorem dX5_init_20 : decode cX5_init 20 = .ok (.aload_n 0, 1) := by decide +kernel
theorem dX5_init_21 : decode cX5_init 21 = .ok (.bipush 12, 2) := by decide +kernel
theorem dX5_init_23 : decode cX5_init 23 = .ok (.newarray .int, 2) := by decide +kernel
theorem dX5_init_25 : decode cX5_init 25 = .ok (.putfield 18, 3) := by decide +kernel
theorem dX5_init_28 : decode cX5_init 28 = .ok (.aload_n 0, 1) := by decide +kernel
theorem dX5_init_29 : decode cX5_init 29 = .ok (.invokevirtual 21, 3) := by decide +kernel
theorem dX5_init_32 : decode cX5_init 32 = .ok (.return_, 1) := by decide +kernel
theorem dX5_clear_0 : decode cX5_clear 0 = .ok (.iconst 0, 1) := by decide +kernel
theorem dX5_clear_1 : decode cX5_clear 1 = .ok (.istore_n 1, 1) := by decide +kernel
theorem dX5_clear_2 : decode cX5_clear 2 = .ok (.iload_n 1, 1) := by decide +kernel
theorem dX5_clear_3 : decode cX5_clear 3 = .ok (.aload_n 0, 1) := by decide +kernel
theorem dX5_clear_4 : decode cX5_clear 4 = .ok (.getfield 9, 3) := by decide +kernel
theorem dX5_clear_7 : decode cX5_clear 7 = .ok (.arraylength, 1) := by decide +kernel
theorem dX5_clear_8 : decode cX5_clear 8 = .ok (.if_icmp .ge 19, 3) := by decide +kernel
theorem dX5_clear_11 : decode cX5_clear 11 = .ok (.aload_n 0, 1) := by decide +kernel
theorem dX5_clear_12 : decode cX5_clear 12 = .ok (.getfield 9, 3) := by decide +kernel
theorem dX5_clear_15 : decode cX5_clear 15 = .ok (.iload_n 1, 1) := by decide +kernel
theorem dX5_clear_16 : decode cX5_clear 16 = .ok (.iload_n 1, 1) := by decide +kernel
theorem dX5_clear_17 : decode cX5_clear 17 = .ok (.invokestatic 24, 3) := by decide +kernel
theorem dX5_clear_20 : decode cX5_clear 20 = .ok (.iastore, 1) := by decide +kernel
theorem dX5_clear_21 : decode cX5_clear 21 = .ok (.iinc 1 1, 3) := by decide +kernel
theorem dX5_clear_24 : decode cX5_clear 24 = .ok (.goto (-22), 3) := by decide +kernel
theorem dX5_clear_27 : decode cX5_clear 27 = .ok (.aload_n 0, 1) := by decide +kernel
theorem dX5_clear_28 : decode cX5_clear 28 = .ok (.invokevirtual 30, 3) := by decide +kernel
theorem dX5_clear_31 : decode cX5_clear 31 = .ok (.return_, 1) := by decide +kernel
theorem dX5_forgetFound_0 : decode cX5_forgetFound 0 = .ok (.aload_n 0, 1) := by decide +kernel
theorem dX5_forgetFound_1 : decode cX5_forgetFound 1 = .ok (.iconst 0, 1) := by decide +kernel
theorem dX5_forgetFound_2 : decode cX5_forgetFound 2 = .ok (.putfield 33, 3) := by decide +kernel
theorem dX5_forgetFound_5 : decode cX5_forgetFound 5 = .ok (.aload_n 0, 1) := by decide +kernel
theorem dX5_forgetFound_6 : decode cX5_forgetFound 6 = .ok (.iconst 0, 1) := by decide +kernel
theorem dX5_forgetFound_7 : decode cX5_forgetFound 7 = .ok (.putfield 37, 3) := by decide +kernel
theorem dX5_forgetFound_10 : decode cX5_forgetFound 10 = .ok (.return_, 1) := by decide +kernel
theorem dX5_openTo_0 : decode cX5_openTo 0 = .ok (.iload_n 1, 1) := by decide +kernel
theorem dX5_openTo_1 : decode cX5_openTo 1 = .ok (.ifCond .lt 21, 3) := by decide +kernel
theorem dX5_openTo_4 : decode cX5_openTo 4 = .ok (.iload_n 1, 1) := by decide +kernel
theorem dX5_openTo_5 : decode cX5_openTo 5 = .ok (.aload_n 0, 1) := by decide +kernel
theorem dX5_openTo_6 : decode cX5_openTo 6 = .ok (.getfield 9, 3) := by decide +kernel
theorem dX5_openTo_9 : decode cX5_openTo 9 = .ok (.arraylength, 1) := by decide +kernel
theorem dX5_openTo_10 : decode cX5_openTo 10 = .ok (.if_icmp .ge 12, 3) := by decide +kernel
theorem dX5_openTo_13 : decode cX5_openTo 13 = .ok (.aload_n 0, 1) := by decide +kernel
theorem dX5_openTo_14 : decode cX5_openTo 14 = .ok (.getfield 9, 3) := by decide +kernel
theorem dX5_openTo_17 : decode cX5_openTo 17 = .ok (.iload_n 1, 1) := by decide +kernel
theorem dX5_openTo_18 : decode cX5_openTo 18 = .ok (.iaload, 1) := by decide +kernel
theorem dX5_openTo_19 : decode cX5_openTo 19 = .ok (.goto 4, 3) := by decide +kernel
theorem dX5_openTo_22 : decode cX5_openTo 22 = .ok (.iconst 0, 1) := by decide +kernel
theorem dX5_openTo_23 : decode cX5_openTo 23 = .ok (.ireturn, 1) := by decide +kernel
theorem dX5_close_0 : decode cX5_close 0 = .ok (.iload_n 1, 1) := by decide +kernel
theorem dX5_close_1 : decode cX5_close 1 = .ok (.iload_n 2, 1) := by decide +kernel
theorem dX5_close_2 : decode cX5_close 2 = .ok (.invokestatic 40, 3) := by decide +kernel
theorem dX5_close_5 : decode cX5_close 5 = .ok (.iconst (-1), 1) := by decide +kernel
theorem dX5_close_6 : decode cX5_close 6 = .ok (.if_icmp .eq 35, 3) := by decide +kernel
theorem dX5_close_9 : decode cX5_close 9 = .ok (.aload_n 0, 1) := by decide +kernel
theorem dX5_close_10 : decode cX5_close 10 = .ok (.iload_n 1, 1) := by decide +kernel
theorem dX5_close_11 : decode cX5_close 11 = .ok (.aload_n 0, 1) := by decide +kernel
theorem dX5_close_12 : decode cX5_close 12 = .ok (.iload_n 1, 1) := by decide +kernel
theorem dX5_close_13 : decode cX5_close 13 = .ok (.invokevirtual 44, 3) := by decide +kernel
theorem dX5_close_16 : decode cX5_close 16 = .ok (.iconst 1, 1) := by decide +kernel
theorem dX5_close_17 : decode cX5_close 17 = .ok (.iload_n 2, 1) := by decide +kernel
theorem dX5_close_18 : decode cX5_close 18 = .ok (.ishl, 1) := by decide +kernel
theorem dX5_close_19 : decode cX5_close 19 = .ok (.iconst (-1), 1) := by decide +kernel
theorem dX5_close_20 : decode cX5_close 20 = .ok (.ixor, 1) := by decide +kernel
theorem dX5_close_21 : decode cX5_close 21 = .ok (.iand, 1) := by decide +kernel
theorem dX5_close_22 : decode cX5_close 22 = .ok (.invokevirtual 47, 3) := by decide +kernel
theorem dX5_close_25 : decode cX5_close 25 = .ok (.aload_n 0, 1) := by decide +kernel
theorem dX5_close_26 : decode cX5_close 26 = .ok (.iload_n 2, 1) := by decide +kernel
theorem dX5_close_27 : decode cX5_close 27 = .ok (.aload_n 0, 1) := by decide +kernel
theorem dX5_close_28 : decode cX5_close 28 = .ok (.iload_n 2, 1) := by decide +kernel
theorem dX5_close_29 : decode cX5_close 29 = .ok (.invokevirtual 44, 3) := by decide +kernel
theorem dX5_close_32 : decode cX5_close 32 = .ok (.iconst 1, 1) := by decide +kernel
theorem dX5_close_33 : decode cX5_close 33 = .ok (.iload_n 1, 1) := by decide +kernel
theorem dX5_close_34 : decode cX5_close 34 = .ok (.ishl, 1) := by decide +kernel
theorem dX5_close_35 : decode cX5_close 35 = .ok (.iconst (-1), 1) := by decide +kernel
theorem dX5_close_36 : decode cX5_close 36 = .ok (.ixor, 1) := by decide +kernel
theorem dX5_close_37 : decode cX5_close 37 = .ok (.iand, 1) := by decide +kernel
theorem dX5_close_38 : decode cX5_close 38 = .ok (.invokevirtual 47, 3) := by decide +kernel
theorem dX5_close_41 : decode cX5_close 41 = .ok (.return_, 1) := by decide +kernel
theorem dX5_open_0 : decode cX5_open 0 = .ok (.iload_n 1, 1) := by decide +kernel
theorem dX5_open_1 : decode cX5_open 1 = .ok (.iload_n 2, 1) := by decide +kernel
theorem dX5_open_2 : decode cX5_open 2 = .ok (.invokestatic 40, 3) := by decide +kernel
theorem dX5_open_5 : decode cX5_open 5 = .ok (.iconst (-1), 1) := by decide +kernel
theorem dX5_open_6 : decode cX5_open 6 = .ok (.if_icmp .eq 31, 3) := by decide +kernel
theorem dX5_open_9 : decode cX5_open 9 = .ok (.aload_n 0, 1) := by decide +kernel
theorem dX5_open_10 : decode cX5_open 10 = .ok (.iload_n 1, 1) := by decide +kernel
theorem dX5_open_11 : decode cX5_open 11 = .ok (.aload_n 0, 1) := by decide +kernel
theorem dX5_open_12 : decode cX5_open 12 = .ok (.iload_n 1, 1) := by decide +kernel
theorem dX5_open_13 : decode cX5_open 13 = .ok (.invokevirtual 44, 3) := by decide +kernel
theorem dX5_open_16 : decode cX5_open 16 = .ok (.iconst 1, 1) := by decide +kernel
theorem dX5_open_17 : decode cX5_open 17 = .ok (.iload_n 2, 1) := by decide +kernel
theorem dX5_open_18 : decode cX5_open 18 = .ok (.ishl, 1) := by decide +kernel
theorem dX5_open_19 : decode cX5_open 19 = .ok (.ior, 1) := by decide +kernel
theorem dX5_open_20 : decode cX5_open 20 = .ok (.invokevirtual 47, 3) := by decide +kernel
theorem dX5_open_23 : decode cX5_open 23 = .ok (.aload_n 0, 1) := by decide +kernel
theorem dX5_open_24 : decode cX5_open 24 = .ok (.iload_n 2, 1) := by decide +kernel
theorem dX5_open_25 : decode cX5_open 25 = .ok (.aload_n 0, 1) := by decide +kernel
theorem dX5_open_26 : decode cX5_open 26 = .ok (.iload_n 2, 1) := by decide +kernel
theorem dX5_open_27 : decode cX5_open 27 = .ok (.invokevirtual 44, 3) := by decide +kernel
theorem dX5_open_30 : decode cX5_open 30 = .ok (.iconst 1, 1) := by decide +kernel
theorem dX5_open_31 : decode cX5_open 31 = .ok (.iload_n 1, 1) := by decide +kernel
theorem dX5_open_32 : decode cX5_open 32 = .ok (.ishl, 1) := by decide +kernel
theorem dX5_open_33 : decode cX5_open 33 = .ok (.ior, 1) := by decide +kernel
theorem dX5_open_34 : decode cX5_open 34 = .ok (.invokevirtual 47, 3) := by decide +kernel
theorem dX5_open_37 : decode cX5_open 37 = .ok (.return_, 1) := by decide +kernel
theorem dX5_setOpen_0 : decode cX5_setOpen 0 = .ok (.iload_n 1, 1) := by decide +kernel
theorem dX5_setOpen_1 : decode cX5_setOpen 1 = .ok (.ifCond .lt 19, 3) := by decide +kernel
theorem dX5_setOpen_4 : decode cX5_setOpen 4 = .ok (.iload_n 1, 1) := by decide +kernel
theorem dX5_setOpen_5 : decode cX5_setOpen 5 = .ok (.aload_n 0, 1) := by decide +kernel
theorem dX5_setOpen_6 : decode cX5_setOpen 6 = .ok (.getfield 9, 3) := by decide +kernel
theorem dX5_setOpen_9 : decode cX5_setOpen 9 = .ok (.arraylength, 1) := by decide +kernel
