theorem dX5_setOpen_10 : decode cX5_setOpen 10 = .ok (.if_icmp .ge 10, 3) := by decide +kernel
theorem dX5_setOpen_13 : decode cX5_setOpen 13 = .ok (.aload_n 0, 1) := by decide +kernel
theorem dX5_setOpen_14 : decode cX5_setOpen 14 = .ok (.getfield 9, 3) := by decide +kernel
theorem dX5_setOpen_17 : decode cX5_setOpen 17 = .ok (.iload_n 1, 1) := by decide +kernel
theorem dX5_setOpen_18 : decode cX5_setOpen 18 = .ok (.iload_n 2, 1) := by decide +kernel
theorem dX5_setOpen_19 : decode cX5_setOpen 19 = .ok (.iastore, 1) := by decide +kernel
theorem dX5_setOpen_20 : decode cX5_setOpen 20 = .ok (.aload_n 0, 1) := by decide +kernel
theorem dX5_setOpen_21 : decode cX5_setOpen 21 = .ok (.invokevirtual 30, 3) := by decide +kernel
theorem dX5_setOpen_24 : decode cX5_setOpen 24 = .ok (.return_, 1) := by decide +kernel
theorem dX5_through_0 : decode cX5_through 0 = .ok (.iload_n 1, 1) := by decide +kernel
theorem dX5_through_1 : decode cX5_through 1 = .ok (.iload_n 2, 1) := by decide +kernel
theorem dX5_through_2 : decode cX5_through 2 = .ok (.invokestatic 51, 3) := by decide +kernel
theorem dX5_through_5 : decode cX5_through 5 = .ok (.istore_n 3, 1) := by decide +kernel
theorem dX5_through_6 : decode cX5_through 6 = .ok (.aload_n 0, 1) := by decide +kernel
theorem dX5_through_7 : decode cX5_through 7 = .ok (.iload_n 1, 1) := by decide +kernel
theorem dX5_through_8 : decode cX5_through 8 = .ok (.invokevirtual 44, 3) := by decide +kernel
theorem dX5_through_11 : decode cX5_through 11 = .ok (.iload_n 3, 1) := by decide +kernel
theorem dX5_through_12 : decode cX5_through 12 = .ok (.invokestatic 54, 3) := by decide +kernel
theorem dX5_through_15 : decode cX5_through 15 = .ok (.ifCond .eq 7, 3) := by decide +kernel
theorem dX5_through_18 : decode cX5_through 18 = .ok (.iload_n 3, 1) := by decide +kernel
theorem dX5_through_19 : decode cX5_through 19 = .ok (.goto 4, 3) := by decide +kernel
theorem dX5_through_22 : decode cX5_through 22 = .ok (.iconst (-1), 1) := by decide +kernel
theorem dX5_through_23 : decode cX5_through 23 = .ok (.ireturn, 1) := by decide +kernel
theorem dX5_sidesClosed_0 : decode cX5_sidesClosed 0 = .ok (.iconst 0, 1) := by decide +kernel
theorem dX5_sidesClosed_1 : decode cX5_sidesClosed 1 = .ok (.istore_n 2, 1) := by decide +kernel
theorem dX5_sidesClosed_2 : decode cX5_sidesClosed 2 = .ok (.iconst 0, 1) := by decide +kernel
theorem dX5_sidesClosed_3 : decode cX5_sidesClosed 3 = .ok (.istore_n 3, 1) := by decide +kernel
theorem dX5_sidesClosed_4 : decode cX5_sidesClosed 4 = .ok (.iload_n 3, 1) := by decide +kernel
theorem dX5_sidesClosed_5 : decode cX5_sidesClosed 5 = .ok (.iconst 5, 1) := by decide +kernel
theorem dX5_sidesClosed_6 : decode cX5_sidesClosed 6 = .ok (.if_icmp .ge 25, 3) := by decide +kernel
theorem dX5_sidesClosed_9 : decode cX5_sidesClosed 9 = .ok (.aload_n 0, 1) := by decide +kernel
theorem dX5_sidesClosed_10 : decode cX5_sidesClosed 10 = .ok (.iload_n 1, 1) := by decide +kernel
theorem dX5_sidesClosed_11 : decode cX5_sidesClosed 11 = .ok (.iload_n 3, 1) := by decide +kernel
theorem dX5_sidesClosed_12 : decode cX5_sidesClosed 12 = .ok (.invokevirtual 58, 3) := by decide +kernel
theorem dX5_sidesClosed_15 : decode cX5_sidesClosed 15 = .ok (.iconst (-1), 1) := by decide +kernel
theorem dX5_sidesClosed_16 : decode cX5_sidesClosed 16 = .ok (.if_icmp .ne 9, 3) := by decide +kernel
theorem dX5_sidesClosed_19 : decode cX5_sidesClosed 19 = .ok (.iload_n 2, 1) := by decide +kernel
theorem dX5_sidesClosed_20 : decode cX5_sidesClosed 20 = .ok (.iconst 1, 1) := by decide +kernel
theorem dX5_sidesClosed_21 : decode cX5_sidesClosed 21 = .ok (.iload_n 3, 1) := by decide +kernel
theorem dX5_sidesClosed_22 : decode cX5_sidesClosed 22 = .ok (.ishl, 1) := by decide +kernel
theorem dX5_sidesClosed_23 : decode cX5_sidesClosed 23 = .ok (.ior, 1) := by decide +kernel
theorem dX5_sidesClosed_24 : decode cX5_sidesClosed 24 = .ok (.istore_n 2, 1) := by decide +kernel
theorem dX5_sidesClosed_25 : decode cX5_sidesClosed 25 = .ok (.iinc 3 1, 3) := by decide +kernel
theorem dX5_sidesClosed_28 : decode cX5_sidesClosed 28 = .ok (.goto (-24), 3) := by decide +kernel
theorem dX5_sidesClosed_31 : decode cX5_sidesClosed 31 = .ok (.iload_n 2, 1) := by decide +kernel
theorem dX5_sidesClosed_32 : decode cX5_sidesClosed 32 = .ok (.ireturn, 1) := by decide +kernel
theorem dX5_wallCount_0 : decode cX5_wallCount 0 = .ok (.iconst 0, 1) := by decide +kernel
theorem dX5_wallCount_1 : decode cX5_wallCount 1 = .ok (.istore_n 1, 1) := by decide +kernel
theorem dX5_wallCount_2 : decode cX5_wallCount 2 = .ok (.iconst 0, 1) := by decide +kernel
theorem dX5_wallCount_3 : decode cX5_wallCount 3 = .ok (.istore_n 2, 1) := by decide +kernel
theorem dX5_wallCount_4 : decode cX5_wallCount 4 = .ok (.iload_n 2, 1) := by decide +kernel
theorem dX5_wallCount_5 : decode cX5_wallCount 5 = .ok (.bipush 12, 2) := by decide +kernel
theorem dX5_wallCount_7 : decode cX5_wallCount 7 = .ok (.if_icmp .ge 20, 3) := by decide +kernel
theorem dX5_wallCount_10 : decode cX5_wallCount 10 = .ok (.iload_n 1, 1) := by decide +kernel
theorem dX5_wallCount_11 : decode cX5_wallCount 11 = .ok (.aload_n 0, 1) := by decide +kernel
theorem dX5_wallCount_12 : decode cX5_wallCount 12 = .ok (.iload_n 2, 1) := by decide +kernel
theorem dX5_wallCount_13 : decode cX5_wallCount 13 = .ok (.invokevirtual 61, 3) := by decide +kernel
theorem dX5_wallCount_16 : decode cX5_wallCount 16 = .ok (.invokestatic 64, 3) := by decide +kernel
theorem dX5_wallCount_19 : decode cX5_wallCount 19 = .ok (.iadd, 1) := by decide +kernel
theorem dX5_wallCount_20 : decode cX5_wallCount 20 = .ok (.istore_n 1, 1) := by decide +kernel
theorem dX5_wallCount_21 : decode cX5_wallCount 21 = .ok (.iinc 2 1, 3) := by decide +kernel
theorem dX5_wallCount_24 : decode cX5_wallCount 24 = .ok (.goto (-20), 3) := by decide +kernel
theorem dX5_wallCount_27 : decode cX5_wallCount 27 = .ok (.iload_n 1, 1) := by decide +kernel
theorem dX5_wallCount_28 : decode cX5_wallCount 28 = .ok (.iconst 2, 1) := by decide +kernel
theorem dX5_wallCount_29 : decode cX5_wallCount 29 = .ok (.idiv, 1) := by decide +kernel
theorem dX5_wallCount_30 : decode cX5_wallCount 30 = .ok (.ireturn, 1) := by decide +kernel
theorem dX5_insideOf_0 : decode cX5_insideOf 0 = .ok (.iconst 1, 1) := by decide +kernel
theorem dX5_insideOf_1 : decode cX5_insideOf 1 = .ok (.iload_n 1, 1) := by decide +kernel
theorem dX5_insideOf_2 : decode cX5_insideOf 2 = .ok (.ishl, 1) := by decide +kernel
theorem dX5_insideOf_3 : decode cX5_insideOf 3 = .ok (.istore_n 2, 1) := by decide +kernel
theorem dX5_insideOf_4 : decode cX5_insideOf 4 = .ok (.iconst 1, 1) := by decide +kernel
theorem dX5_insideOf_5 : decode cX5_insideOf 5 = .ok (.istore_n 3, 1) := by decide +kernel
theorem dX5_insideOf_6 : decode cX5_insideOf 6 = .ok (.iload_n 3, 1) := by decide +kernel
theorem dX5_insideOf_7 : decode cX5_insideOf 7 = .ok (.bipush 12, 2) := by decide +kernel
theorem dX5_insideOf_9 : decode cX5_insideOf 9 = .ok (.if_icmp .ge 17, 3) := by decide +kernel
theorem dX5_insideOf_12 : decode cX5_insideOf 12 = .ok (.iload_n 2, 1) := by decide +kernel
theorem dX5_insideOf_13 : decode cX5_insideOf 13 = .ok (.aload_n 0, 1) := by decide +kernel
theorem dX5_insideOf_14 : decode cX5_insideOf 14 = .ok (.iload_n 2, 1) := by decide +kernel
theorem dX5_insideOf_15 : decode cX5_insideOf 15 = .ok (.invokevirtual 69, 3) := by decide +kernel
theorem dX5_insideOf_18 : decode cX5_insideOf 18 = .ok (.ior, 1) := by decide +kernel
theorem dX5_insideOf_19 : decode cX5_insideOf 19 = .ok (.istore_n 2, 1) := by decide +kernel
theorem dX5_insideOf_20 : decode cX5_insideOf 20 = .ok (.iinc 3 1, 3) := by decide +kernel
theorem dX5_insideOf_23 : decode cX5_insideOf 23 = .ok (.goto (-17), 3) := by decide +kernel
theorem dX5_insideOf_26 : decode cX5_insideOf 26 = .ok (.iload_n 2, 1) := by decide +kernel
theorem dX5_insideOf_27 : decode cX5_insideOf 27 = .ok (.ireturn, 1) := by decide +kernel
theorem dX5_openToAny_0 : decode cX5_openToAny 0 = .ok (.iconst 0, 1) := by decide +kernel
theorem dX5_openToAny_1 : decode cX5_openToAny 1 = .ok (.istore_n 2, 1) := by decide +kernel
theorem dX5_openToAny_2 : decode cX5_openToAny 2 = .ok (.iconst 0, 1) := by decide +kernel
theorem dX5_openToAny_3 : decode cX5_openToAny 3 = .ok (.istore_n 3, 1) := by decide +kernel
theorem dX5_openToAny_4 : decode cX5_openToAny 4 = .ok (.iload_n 3, 1) := by decide +kernel
theorem dX5_openToAny_5 : decode cX5_openToAny 5 = .ok (.bipush 12, 2) := by decide +kernel
theorem dX5_openToAny_7 : decode cX5_openToAny 7 = .ok (.if_icmp .ge 25, 3) := by decide +kernel
theorem dX5_openToAny_10 : decode cX5_openToAny 10 = .ok (.iload_n 1, 1) := by decide +kernel
theorem dX5_openToAny_11 : decode cX5_openToAny 11 = .ok (.iload_n 3, 1) := by decide +kernel
theorem dX5_openToAny_12 : decode cX5_openToAny 12 = .ok (.invokestatic 54, 3) := by decide +kernel
theorem dX5_openToAny_15 : decode cX5_openToAny 15 = .ok (.ifCond .eq 11, 3) := by decide +kernel
theorem dX5_openToAny_18 : decode cX5_openToAny 18 = .ok (.iload_n 2, 1) := by decide +kernel
theorem dX5_openToAny_19 : decode cX5_openToAny 19 = .ok (.aload_n 0, 1) := by decide +kernel
theorem dX5_openToAny_20 : decode cX5_openToAny 20 = .ok (.iload_n 3, 1) := by decide +kernel
theorem dX5_openToAny_21 : decode cX5_openToAny 21 = .ok (.invokevirtual 44, 3) := by decide +kernel
theorem dX5_openToAny_24 : decode cX5_openToAny 24 = .ok (.ior, 1) := by decide +kernel
theorem dX5_openToAny_25 : decode cX5_openToAny 25 = .ok (.istore_n 2, 1) := by decide +kernel
theorem dX5_openToAny_26 : decode cX5_openToAny 26 = .ok (.iinc 3 1, 3) := by decide +kernel
theorem dX5_openToAny_29 : decode cX5_openToAny 29 = .ok (.goto (-25), 3) := by decide +kernel
theorem dX5_openToAny_32 : decode cX5_openToAny 32 = .ok (.iload_n 2, 1) := by decide +kernel
theorem dX5_openToAny_33 : decode cX5_openToAny 33 = .ok (.ireturn, 1) := by decide +kernel
theorem dX5_insideCount_0 : decode cX5_insideCount 0 = .ok (.iconst 0, 1) := by decide +kernel
theorem dX5_insideCount_1 : decode cX5_insideCount 1 = .ok (.istore_n 1, 1) := by decide +kernel
theorem dX5_insideCount_2 : decode cX5_insideCount 2 = .ok (.iconst 0, 1) := by decide +kernel
theorem dX5_insideCount_3 : decode cX5_insideCount 3 = .ok (.istore_n 2, 1) := by decide +kernel
theorem dX5_insideCount_4 : decode cX5_insideCount 4 = .ok (.iconst 0, 1) := by decide +kernel
theorem dX5_insideCount_5 : decode cX5_insideCount 5 = .ok (.istore_n 3, 1) := by decide +kernel
theorem dX5_insideCount_6 : decode cX5_insideCount 6 = .ok (.iload_n 3, 1) := by decide +kernel
theorem dX5_insideCount_7 : decode cX5_insideCount 7 = .ok (.bipush 12, 2) := by decide +kernel
theorem dX5_insideCount_9 : decode cX5_insideCount 9 = .ok (.if_icmp .ge 28, 3) := by decide +kernel
theorem dX5_insideCount_12 : decode cX5_insideCount 12 = .ok (.iload_n 1, 1) := by decide +kernel
theorem dX5_insideCount_13 : decode cX5_insideCount 13 = .ok (.iload_n 3, 1) := by decide +kernel
theorem dX5_insideCount_14 : decode cX5_insideCount 14 = .ok (.invokestatic 54, 3) := by decide +kernel
theorem dX5_insideCount_17 : decode cX5_insideCount 17 = .ok (.ifCond .ne 14, 3) := by decide +kernel
theorem dX5_insideCount_20 : decode cX5_insideCount 20 = .ok (.iinc 2 1, 3) := by decide +kernel
theorem dX5_insideCount_23 : decode cX5_insideCount 23 = .ok (.iload_n 1, 1) := by decide +kernel
theorem dX5_insideCount_24 : decode cX5_insideCount 24 = .ok (.aload_n 0, 1) := by decide +kernel
theorem dX5_insideCount_25 : decode cX5_insideCount 25 = .ok (.iload_n 3, 1) := by decide +kernel
theorem dX5_insideCount_26 : decode cX5_insideCount 26 = .ok (.invokevirtual 72, 3) := by decide +kernel
theorem dX5_insideCount_29 : decode cX5_insideCount 29 = .ok (.ior, 1) := by decide +kernel
theorem dX5_insideCount_30 : decode cX5_insideCount 30 = .ok (.istore_n 1, 1) := by decide +kernel
theorem dX5_insideCount_31 : decode cX5_insideCount 31 = .ok (.iinc 3 1, 3) := by decide +kernel
theorem dX5_insideCount_34 : decode cX5_insideCount 34 = .ok (.goto (-28), 3) := by decide +kernel
theorem dX5_insideCount_37 : decode cX5_insideCount 37 = .ok (.iload_n 2, 1) := by decide +kernel
theorem dX5_insideCount_38 : decode cX5_insideCount 38 = .ok (.ireturn, 1) := by decide +kernel
theorem dX5_wardenCount_0 : decode cX5_wardenCount 0 = .ok (.aload_n 0, 1) := by decide +kernel
theorem dX5_wardenCount_1 : decode cX5_wardenCount 1 = .ok (.invokevirtual 75, 3) := by decide +kernel
theorem dX5_wardenCount_4 : decode cX5_wardenCount 4 = .ok (.aload_n 0, 1) := by decide +kernel
theorem dX5_wardenCount_5 : decode cX5_wardenCount 5 = .ok (.getfield 78, 3) := by decide +kernel
theorem dX5_wardenCount_8 : decode cX5_wardenCount 8 = .ok (.ireturn, 1) := by decide +kernel
theorem dX5_wardenSet_0 : decode cX5_wardenSet 0 = .ok (.aload_n 0, 1) := by decide +kernel
theorem dX5_wardenSet_1 : decode cX5_wardenSet 1 = .ok (.invokevirtual 75, 3) := by decide +kernel
theorem dX5_wardenSet_4 : decode cX5_wardenSet 4 = .ok (.aload_n 0, 1) := by decide +kernel
theorem dX5_wardenSet_5 : decode cX5_wardenSet 5 = .ok (.getfield 82, 3) := by decide +kernel
theorem dX5_wardenSet_8 : decode cX5_wardenSet 8 = .ok (.ireturn, 1) := by decide +kernel
theorem dX5_wardenSets_0 : decode cX5_wardenSets 0 = .ok (.aload_n 0, 1) := by decide +kernel
theorem dX5_wardenSets_1 : decode cX5_wardenSets 1 = .ok (.invokevirtual 75, 3) := by decide +kernel
theorem dX5_wardenSets_4 : decode cX5_wardenSets 4 = .ok (.aload_n 0, 1) := by decide +kernel
theorem dX5_wardenSets_5 : decode cX5_wardenSets 5 = .ok (.getfield 85, 3) := by decide +kernel
theorem dX5_wardenSets_8 : decode cX5_wardenSets 8 = .ok (.ireturn, 1) := by decide +kernel
theorem dX5_findWardens_0 : decode cX5_findWardens 0 = .ok (.aload_n 0, 1) := by decide +kernel
theorem dX5_findWardens_1 : decode cX5_findWardens 1 = .ok (.getfield 37, 3) := by decide +kernel
theorem dX5_findWardens_4 : decode cX5_findWardens 4 = .ok (.ifCond .eq 4, 3) := by decide +kernel
theorem dX5_findWardens_7 : decode cX5_findWardens 7 = .ok (.return_, 1) := by decide +kernel
theorem dX5_findWardens_8 : decode cX5_findWardens 8 = .ok (.aload_n 0, 1) := by decide +kernel
theorem dX5_findWardens_9 : decode cX5_findWardens 9 = .ok (.iconst (-1), 1) := by decide +kernel
theorem dX5_findWardens_10 : decode cX5_findWardens 10 = .ok (.putfield 78, 3) := by decide +kernel
theorem dX5_findWardens_13 : decode cX5_findWardens 13 = .ok (.aload_n 0, 1) := by decide +kernel
theorem dX5_findWardens_14 : decode cX5_findWardens 14 = .ok (.iconst (-1), 1) := by decide +kernel
theorem dX5_findWardens_15 : decode cX5_findWardens 15 = .ok (.putfield 82, 3) := by decide +kernel
theorem dX5_findWardens_18 : decode cX5_findWardens 18 = .ok (.aload_n 0, 1) := by decide +kernel
theorem dX5_findWardens_19 : decode cX5_findWardens 19 = .ok (.iconst 0, 1) := by decide +kernel
theorem dX5_findWardens_20 : decode cX5_findWardens 20 = .ok (.putfield 85, 3) := by decide +kernel
theorem dX5_findWardens_23 : decode cX5_findWardens 23 = .ok (.iconst 0, 1) := by decide +kernel
theorem dX5_findWardens_24 : decode cX5_findWardens 24 = .ok (.istore_n 1, 1) := by decide +kernel
theorem dX5_findWardens_25 : decode cX5_findWardens 25 = .ok (.iload_n 1, 1) := by decide +kernel
theorem dX5_findWardens_26 : decode cX5_findWardens 26 = .ok (.sipush 4095, 3) := by decide +kernel
theorem dX5_findWardens_29 : decode cX5_findWardens 29 = .ok (.if_icmp .gt 85, 3) := by decide +kernel
theorem dX5_findWardens_32 : decode cX5_findWardens 32 = .ok (.iload_n 1, 1) := by decide +kernel
theorem dX5_findWardens_33 : decode cX5_findWardens 33 = .ok (.invokestatic 64, 3) := by decide +kernel
theorem dX5_findWardens_36 : decode cX5_findWardens 36 = .ok (.istore_n 2, 1) := by decide +kernel
theorem dX5_findWardens_37 : decode cX5_findWardens 37 = .ok (.aload_n 0, 1) := by decide +kernel
theorem dX5_findWardens_38 : decode cX5_findWardens 38 = .ok (.getfield 78, 3) := by decide +kernel
theorem dX5_findWardens_41 : decode cX5_findWardens 41 = .ok (.iconst (-1), 1) := by decide +kernel
theorem dX5_findWardens_42 : decode cX5_findWardens 42 = .ok (.if_icmp .eq 11, 3) := by decide +kernel
theorem dX5_findWardens_45 : decode cX5_findWardens 45 = .ok (.iload_n 2, 1) := by decide +kernel
theorem dX5_findWardens_46 : decode cX5_findWardens 46 = .ok (.aload_n 0, 1) := by decide +kernel
theorem dX5_findWardens_47 : decode cX5_findWardens 47 = .ok (.getfield 78, 3) := by decide +kernel
theorem dX5_findWardens_50 : decode cX5_findWardens 50 = .ok (.if_icmp .ge 7, 3) := by decide +kernel
theorem dX5_findWardens_53 : decode cX5_findWardens 53 = .ok (.iconst 1, 1) := by decide +kernel
theorem dX5_findWardens_54 : decode cX5_findWardens 54 = .ok (.goto 4, 3) := by decide +kernel
theorem dX5_findWardens_57 : decode cX5_findWardens 57 = .ok (.iconst 0, 1) := by decide +kernel
theorem dX5_findWardens_58 : decode cX5_findWardens 58 = .ok (.istore_n 3, 1) := by decide +kernel
theorem dX5_findWardens_59 : decode cX5_findWardens 59 = .ok (.iload_n 3, 1) := by decide +kernel
theorem dX5_findWardens_60 : decode cX5_findWardens 60 = .ok (.ifCond .ne 11, 3) := by decide +kernel
theorem dX5_findWardens_63 : decode cX5_findWardens 63 = .ok (.iload_n 2, 1) := by decide +kernel
theorem dX5_findWardens_64 : decode cX5_findWardens 64 = .ok (.aload_n 0, 1) := by decide +kernel
theorem dX5_findWardens_65 : decode cX5_findWardens 65 = .ok (.getfield 78, 3) := by decide +kernel
theorem dX5_findWardens_68 : decode cX5_findWardens 68 = .ok (.if_icmp .ne 40, 3) := by decide +kernel
theorem dX5_findWardens_71 : decode cX5_findWardens 71 = .ok (.aload_n 0, 1) := by decide +kernel
theorem dX5_findWardens_72 : decode cX5_findWardens 72 = .ok (.iload_n 1, 1) := by decide +kernel
theorem dX5_findWardens_73 : decode cX5_findWardens 73 = .ok (.invokevirtual 88, 3) := by decide +kernel
theorem dX5_findWardens_76 : decode cX5_findWardens 76 = .ok (.ifCond .eq 32, 3) := by decide +kernel
theorem dX5_findWardens_79 : decode cX5_findWardens 79 = .ok (.iload_n 3, 1) := by decide +kernel
theorem dX5_findWardens_80 : decode cX5_findWardens 80 = .ok (.ifCond .eq 18, 3) := by decide +kernel
theorem dX5_findWardens_83 : decode cX5_findWardens 83 = .ok (.aload_n 0, 1) := by decide +kernel
theorem dX5_findWardens_84 : decode cX5_findWardens 84 = .ok (.iload_n 2, 1) := by decide +kernel
theorem dX5_findWardens_85 : decode cX5_findWardens 85 = .ok (.putfield 78, 3) := by decide +kernel
theorem dX5_findWardens_88 : decode cX5_findWardens 88 = .ok (.aload_n 0, 1) := by decide +kernel
theorem dX5_findWardens_89 : decode cX5_findWardens 89 = .ok (.iload_n 1, 1) := by decide +kernel
theorem dX5_findWardens_90 : decode cX5_findWardens 90 = .ok (.putfield 82, 3) := by decide +kernel
theorem dX5_findWardens_93 : decode cX5_findWardens 93 = .ok (.aload_n 0, 1) := by decide +kernel
theorem dX5_findWardens_94 : decode cX5_findWardens 94 = .ok (.iconst 0, 1) := by decide +kernel
theorem dX5_findWardens_95 : decode cX5_findWardens 95 = .ok (.putfield 85, 3) := by decide +kernel
theorem dX5_findWardens_98 : decode cX5_findWardens 98 = .ok (.aload_n 0, 1) := by decide +kernel
theorem dX5_findWardens_99 : decode cX5_findWardens 99 = .ok (.dup, 1) := by decide +kernel
theorem dX5_findWardens_100 : decode cX5_findWardens 100 = .ok (.getfield 85, 3) := by decide +kernel
theorem dX5_findWardens_103 : decode cX5_findWardens 103 = .ok (.iconst 1, 1) := by decide +kernel
theorem dX5_findWardens_104 : decode cX5_findWardens 104 = .ok (.iadd, 1) := by decide +kernel
theorem dX5_findWardens_105 : decode cX5_findWardens 105 = .ok (.putfield 85, 3) := by decide +kernel
theorem dX5_findWardens_108 : decode cX5_findWardens 108 = .ok (.iinc 1 1, 3) := by decide +kernel
theorem dX5_findWardens_111 : decode cX5_findWardens 111 = .ok (.goto (-86), 3) := by decide +kernel
theorem dX5_findWardens_114 : decode cX5_findWardens 114 = .ok (.aload_n 0, 1) := by decide +kernel
theorem dX5_findWardens_115 : decode cX5_findWardens 115 = .ok (.iconst 1, 1) := by decide +kernel
theorem dX5_findWardens_116 : decode cX5_findWardens 116 = .ok (.putfield 37, 3) := by decide +kernel
theorem dX5_findWardens_119 : decode cX5_findWardens 119 = .ok (.return_, 1) := by decide +kernel
theorem dX5_wardsAll_0 : decode cX5_wardsAll 0 = .ok (.iconst 0, 1) := by decide +kernel
theorem dX5_wardsAll_1 : decode cX5_wardsAll 1 = .ok (.istore_n 2, 1) := by decide +kernel
theorem dX5_wardsAll_2 : decode cX5_wardsAll 2 = .ok (.iload_n 2, 1) := by decide +kernel
theorem dX5_wardsAll_3 : decode cX5_wardsAll 3 = .ok (.aload_n 0, 1) := by decide +kernel
theorem dX5_wardsAll_4 : decode cX5_wardsAll 4 = .ok (.getfield 9, 3) := by decide +kernel
theorem dX5_wardsAll_7 : decode cX5_wardsAll 7 = .ok (.arraylength, 1) := by decide +kernel
theorem dX5_wardsAll_8 : decode cX5_wardsAll 8 = .ok (.if_icmp .ge 22, 3) := by decide +kernel
theorem dX5_wardsAll_11 : decode cX5_wardsAll 11 = .ok (.aload_n 0, 1) := by decide +kernel
theorem dX5_wardsAll_12 : decode cX5_wardsAll 12 = .ok (.getfield 9, 3) := by decide +kernel
theorem dX5_wardsAll_15 : decode cX5_wardsAll 15 = .ok (.iload_n 2, 1) := by decide +kernel
theorem dX5_wardsAll_16 : decode cX5_wardsAll 16 = .ok (.iaload, 1) := by decide +kernel
theorem dX5_wardsAll_17 : decode cX5_wardsAll 17 = .ok (.iload_n 1, 1) := by decide +kernel
theorem dX5_wardsAll_18 : decode cX5_wardsAll 18 = .ok (.iand, 1) := by decide +kernel
theorem dX5_wardsAll_19 : decode cX5_wardsAll 19 = .ok (.ifCond .ne 5, 3) := by decide +kernel
theorem dX5_wardsAll_22 : decode cX5_wardsAll 22 = .ok (.iconst 0, 1) := by decide +kernel
theorem dX5_wardsAll_23 : decode cX5_wardsAll 23 = .ok (.ireturn, 1) := by decide +kernel
theorem dX5_wardsAll_24 : decode cX5_wardsAll 24 = .ok (.iinc 2 1, 3) := by decide +kernel
theorem dX5_wardsAll_27 : decode cX5_wardsAll 27 = .ok (.goto (-25), 3) := by decide +kernel
theorem dX5_wardsAll_30 : decode cX5_wardsAll 30 = .ok (.iconst 1, 1) := by decide +kernel
theorem dX5_wardsAll_31 : decode cX5_wardsAll 31 = .ok (.ireturn, 1) := by decide +kernel
theorem dX5_roundCount_0 : decode cX5_roundCount 0 = .ok (.aload_n 0, 1) := by decide +kernel
theorem dX5_roundCount_1 : decode cX5_roundCount 1 = .ok (.invokevirtual 92, 3) := by decide +kernel
theorem dX5_roundCount_4 : decode cX5_roundCount 4 = .ok (.aload_n 0, 1) := by decide +kernel
theorem dX5_roundCount_5 : decode cX5_roundCount 5 = .ok (.getfield 95, 3) := by decide +kernel
theorem dX5_roundCount_8 : decode cX5_roundCount 8 = .ok (.ireturn, 1) := by decide +kernel
theorem dX5_inFirstRound_0 : decode cX5_inFirstRound 0 = .ok (.aload_n 0, 1) := by decide +kernel
theorem dX5_inFirstRound_1 : decode cX5_inFirstRound 1 = .ok (.invokevirtual 92, 3) := by decide +kernel
theorem dX5_inFirstRound_4 : decode cX5_inFirstRound 4 = .ok (.aload_n 0, 1) := by decide +kernel
theorem dX5_inFirstRound_5 : decode cX5_inFirstRound 5 = .ok (.getfield 95, 3) := by decide +kernel
theorem dX5_inFirstRound_8 : decode cX5_inFirstRound 8 = .ok (.ifCond .le 25, 3) := by decide +kernel
theorem dX5_inFirstRound_11 : decode cX5_inFirstRound 11 = .ok (.iload_n 1, 1) := by decide +kernel
theorem dX5_inFirstRound_12 : decode cX5_inFirstRound 12 = .ok (.ifCond .lt 21, 3) := by decide +kernel
theorem dX5_inFirstRound_15 : decode cX5_inFirstRound 15 = .ok (.iload_n 1, 1) := by decide +kernel
theorem dX5_inFirstRound_16 : decode cX5_inFirstRound 16 = .ok (.aload_n 0, 1) := by decide +kernel
theorem dX5_inFirstRound_17 : decode cX5_inFirstRound 17 = .ok (.getfield 18, 3) := by decide +kernel
theorem dX5_inFirstRound_20 : decode cX5_inFirstRound 20 = .ok (.arraylength, 1) := by decide +kernel
theorem dX5_inFirstRound_21 : decode cX5_inFirstRound 21 = .ok (.if_icmp .ge 12, 3) := by decide +kernel
theorem dX5_inFirstRound_24 : decode cX5_inFirstRound 24 = .ok (.aload_n 0, 1) := by decide +kernel
theorem dX5_inFirstRound_25 : decode cX5_inFirstRound 25 = .ok (.getfield 18, 3) := by decide +kernel
theorem dX5_inFirstRound_28 : decode cX5_inFirstRound 28 = .ok (.iload_n 1, 1) := by decide +kernel
theorem dX5_inFirstRound_29 : decode cX5_inFirstRound 29 = .ok (.iaload, 1) := by decide +kernel
theorem dX5_inFirstRound_30 : decode cX5_inFirstRound 30 = .ok (.goto 4, 3) := by decide +kernel
theorem dX5_inFirstRound_33 : decode cX5_inFirstRound 33 = .ok (.iconst (-1), 1) := by decide +kernel
theorem dX5_inFirstRound_34 : decode cX5_inFirstRound 34 = .ok (.ireturn, 1) := by decide +kernel
theorem dX5_findRounds_0 : decode cX5_findRounds 0 = .ok (.aload_n 0, 1) := by decide +kernel
theorem dX5_findRounds_1 : decode cX5_findRounds 1 = .ok (.getfield 33, 3) := by decide +kernel
theorem dX5_findRounds_4 : decode cX5_findRounds 4 = .ok (.ifCond .eq 4, 3) := by decide +kernel
theorem dX5_findRounds_7 : decode cX5_findRounds 7 = .ok (.return_, 1) := by decide +kernel
theorem dX5_findRounds_8 : decode cX5_findRounds 8 = .ok (.aload_n 0, 1) := by decide +kernel
theorem dX5_findRounds_9 : decode cX5_findRounds 9 = .ok (.iconst 0, 1) := by decide +kernel
theorem dX5_findRounds_10 : decode cX5_findRounds 10 = .ok (.putfield 95, 3) := by decide +kernel
theorem dX5_findRounds_13 : decode cX5_findRounds 13 = .ok (.aload_n 0, 1) := by decide +kernel
theorem dX5_findRounds_14 : decode cX5_findRounds 14 = .ok (.iconst 0, 1) := by decide +kernel
theorem dX5_findRounds_15 : decode cX5_findRounds 15 = .ok (.iconst 0, 1) := by decide +kernel
theorem dX5_findRounds_16 : decode cX5_findRounds 16 = .ok (.invokevirtual 98, 3) := by decide +kernel
theorem dX5_findRounds_19 : decode cX5_findRounds 19 = .ok (.iconst 1, 1) := by decide +kernel
theorem dX5_findRounds_20 : decode cX5_findRounds 20 = .ok (.istore_n 1, 1) := by decide +kernel
theorem dX5_findRounds_21 : decode cX5_findRounds 21 = .ok (.iload_n 1, 1) := by decide +kernel
theorem dX5_findRounds_22 : decode cX5_findRounds 22 = .ok (.bipush 12, 2) := by decide +kernel
theorem dX5_findRounds_24 : decode cX5_findRounds 24 = .ok (.if_icmp .ge 49, 3) := by decide +kernel
theorem dX5_findRounds_27 : decode cX5_findRounds 27 = .ok (.aload_n 0, 1) := by decide +kernel
theorem dX5_findRounds_28 : decode cX5_findRounds 28 = .ok (.iconst 0, 1) := by decide +kernel
theorem dX5_findRounds_29 : decode cX5_findRounds 29 = .ok (.invokevirtual 44, 3) := by decide +kernel
theorem dX5_findRounds_32 : decode cX5_findRounds 32 = .ok (.iload_n 1, 1) := by decide +kernel
theorem dX5_findRounds_33 : decode cX5_findRounds 33 = .ok (.invokestatic 54, 3) := by decide +kernel
theorem dX5_findRounds_36 : decode cX5_findRounds 36 = .ok (.ifCond .eq 31, 3) := by decide +kernel
theorem dX5_findRounds_39 : decode cX5_findRounds 39 = .ok (.aload_n 0, 1) := by decide +kernel
theorem dX5_findRounds_40 : decode cX5_findRounds 40 = .ok (.iconst 1, 1) := by decide +kernel
theorem dX5_findRounds_41 : decode cX5_findRounds 41 = .ok (.iload_n 1, 1) := by decide +kernel
theorem dX5_findRounds_42 : decode cX5_findRounds 42 = .ok (.invokevirtual 98, 3) := by decide +kernel
theorem dX5_findRounds_45 : decode cX5_findRounds 45 = .ok (.aload_n 0, 1) := by decide +kernel
theorem dX5_findRounds_46 : decode cX5_findRounds 46 = .ok (.iconst 0, 1) := by decide +kernel
theorem dX5_findRounds_47 : decode cX5_findRounds 47 = .ok (.invokevirtual 44, 3) := by decide +kernel
theorem dX5_findRounds_50 : decode cX5_findRounds 50 = .ok (.iconst 2, 1) := by decide +kernel
theorem dX5_findRounds_51 : decode cX5_findRounds 51 = .ok (.iload_n 1, 1) := by decide +kernel
theorem dX5_findRounds_52 : decode cX5_findRounds 52 = .ok (.ishl, 1) := by decide +kernel
theorem dX5_findRounds_53 : decode cX5_findRounds 53 = .ok (.ineg, 1) := by decide +kernel
theorem dX5_findRounds_54 : decode cX5_findRounds 54 = .ok (.iand, 1) := by decide +kernel
theorem dX5_findRounds_55 : decode cX5_findRounds 55 = .ok (.istore_n 2, 1) := by decide +kernel
theorem dX5_findRounds_56 : decode cX5_findRounds 56 = .ok (.aload_n 0, 1) := by decide +kernel
theorem dX5_findRounds_57 : decode cX5_findRounds 57 = .ok (.iconst 2, 1) := by decide +kernel
theorem dX5_findRounds_58 : decode cX5_findRounds 58 = .ok (.iconst 1, 1) := by decide +kernel
theorem dX5_findRounds_59 : decode cX5_findRounds 59 = .ok (.iconst 1, 1) := by decide +kernel
theorem dX5_findRounds_60 : decode cX5_findRounds 60 = .ok (.iload_n 1, 1) := by decide +kernel
theorem dX5_findRounds_61 : decode cX5_findRounds 61 = .ok (.ishl, 1) := by decide +kernel
theorem dX5_findRounds_62 : decode cX5_findRounds 62 = .ok (.ior, 1) := by decide +kernel
theorem dX5_findRounds_63 : decode cX5_findRounds 63 = .ok (.iload_n 2, 1) := by decide +kernel
theorem dX5_findRounds_64 : decode cX5_findRounds 64 = .ok (.invokestatic 101, 3) := by decide +kernel
theorem dX5_findRounds_67 : decode cX5_findRounds 67 = .ok (.iinc 1 1, 3) := by decide +kernel
theorem dX5_findRounds_70 : decode cX5_findRounds 70 = .ok (.goto (-49), 3) := by decide +kernel
theorem dX5_findRounds_73 : decode cX5_findRounds 73 = .ok (.aload_n 0, 1) := by decide +kernel
theorem dX5_findRounds_74 : decode cX5_findRounds 74 = .ok (.iconst 1, 1) := by decide +kernel
theorem dX5_findRounds_75 : decode cX5_findRounds 75 = .ok (.putfield 33, 3) := by decide +kernel
theorem dX5_findRounds_78 : decode cX5_findRounds 78 = .ok (.return_, 1) := by decide +kernel
theorem dX5_goRound_0 : decode cX5_goRound 0 = .ok (.iload_n 1, 1) := by decide +kernel
theorem dX5_goRound_1 : decode cX5_goRound 1 = .ok (.bipush 12, 2) := by decide +kernel
theorem dX5_goRound_3 : decode cX5_goRound 3 = .ok (.if_icmp .lt 9, 3) := by decide +kernel
theorem dX5_goRound_6 : decode cX5_goRound 6 = .ok (.aload_n 0, 1) := by decide +kernel
theorem dX5_goRound_7 : decode cX5_goRound 7 = .ok (.iload_n 3, 1) := by decide +kernel
theorem dX5_goRound_8 : decode cX5_goRound 8 = .ok (.invokevirtual 105, 3) := by decide +kernel
theorem dX5_goRound_11 : decode cX5_goRound 11 = .ok (.return_, 1) := by decide +kernel
theorem dX5_goRound_12 : decode cX5_goRound 12 = .ok (.iload_n 3, 1) := by decide +kernel
theorem dX5_goRound_13 : decode cX5_goRound 13 = .ok (.iload_n 2, 1) := by decide +kernel
theorem dX5_goRound_14 : decode cX5_goRound 14 = .ok (.iconst (-1), 1) := by decide +kernel
theorem dX5_goRound_15 : decode cX5_goRound 15 = .ok (.ixor, 1) := by decide +kernel
theorem dX5_goRound_16 : decode cX5_goRound 16 = .ok (.iand, 1) := by decide +kernel
theorem dX5_goRound_17 : decode cX5_goRound 17 = .ok (.ifCond .ne 4, 3) := by decide +kernel
theorem dX5_goRound_20 : decode cX5_goRound 20 = .ok (.return_, 1) := by decide +kernel
theorem dX5_goRound_21 : decode cX5_goRound 21 = .ok (.aload_n 0, 1) := by decide +kernel
theorem dX5_goRound_22 : decode cX5_goRound 22 = .ok (.aload_n 0, 1) := by decide +kernel
theorem dX5_goRound_23 : decode cX5_goRound 23 = .ok (.iload_n 1, 1) := by decide +kernel
theorem dX5_goRound_24 : decode cX5_goRound 24 = .ok (.iconst 1, 1) := by decide +kernel
theorem dX5_goRound_25 : decode cX5_goRound 25 = .ok (.isub, 1) := by decide +kernel
theorem dX5_goRound_26 : decode cX5_goRound 26 = .ok (.invokevirtual 109, 3) := by decide +kernel
theorem dX5_goRound_29 : decode cX5_goRound 29 = .ok (.invokevirtual 44, 3) := by decide +kernel
theorem dX5_goRound_32 : decode cX5_goRound 32 = .ok (.iload_n 2, 1) := by decide +kernel
theorem dX5_goRound_33 : decode cX5_goRound 33 = .ok (.iconst (-1), 1) := by decide +kernel
theorem dX5_goRound_34 : decode cX5_goRound 34 = .ok (.ixor, 1) := by decide +kernel
theorem dX5_goRound_35 : decode cX5_goRound 35 = .ok (.iand, 1) := by decide +kernel
theorem dX5_goRound_36 : decode cX5_goRound 36 = .ok (.istore 4, 2) := by decide +kernel
theorem dX5_goRound_38 : decode cX5_goRound 38 = .ok (.iconst 1, 1) := by decide +kernel
theorem dX5_goRound_39 : decode cX5_goRound 39 = .ok (.istore 5, 2) := by decide +kernel
theorem dX5_goRound_41 : decode cX5_goRound 41 = .ok (.iload 5, 2) := by decide +kernel
theorem dX5_goRound_43 : decode cX5_goRound 43 = .ok (.bipush 12, 2) := by decide +kernel
theorem dX5_goRound_45 : decode cX5_goRound 45 = .ok (.if_icmp .ge 40, 3) := by decide +kernel
theorem dX5_goRound_48 : decode cX5_goRound 48 = .ok (.iload 4, 2) := by decide +kernel
theorem dX5_goRound_50 : decode cX5_goRound 50 = .ok (.iload 5, 2) := by decide +kernel
theorem dX5_goRound_52 : decode cX5_goRound 52 = .ok (.ishr, 1) := by decide +kernel
theorem dX5_goRound_53 : decode cX5_goRound 53 = .ok (.iconst 1, 1) := by decide +kernel
theorem dX5_goRound_54 : decode cX5_goRound 54 = .ok (.iand, 1) := by decide +kernel
theorem dX5_goRound_55 : decode cX5_goRound 55 = .ok (.ifCond .eq 24, 3) := by decide +kernel
theorem dX5_goRound_58 : decode cX5_goRound 58 = .ok (.aload_n 0, 1) := by decide +kernel
theorem dX5_goRound_59 : decode cX5_goRound 59 = .ok (.iload_n 1, 1) := by decide +kernel
theorem dX5_goRound_60 : decode cX5_goRound 60 = .ok (.iload 5, 2) := by decide +kernel
theorem dX5_goRound_62 : decode cX5_goRound 62 = .ok (.invokevirtual 98, 3) := by decide +kernel
theorem dX5_goRound_65 : decode cX5_goRound 65 = .ok (.aload_n 0, 1) := by decide +kernel
theorem dX5_goRound_66 : decode cX5_goRound 66 = .ok (.iload_n 1, 1) := by decide +kernel
theorem dX5_goRound_67 : decode cX5_goRound 67 = .ok (.iconst 1, 1) := by decide +kernel
theorem dX5_goRound_68 : decode cX5_goRound 68 = .ok (.iadd, 1) := by decide +kernel
theorem dX5_goRound_69 : decode cX5_goRound 69 = .ok (.iload_n 2, 1) := by decide +kernel
theorem dX5_goRound_70 : decode cX5_goRound 70 = .ok (.iconst 1, 1) := by decide +kernel
theorem dX5_goRound_71 : decode cX5_goRound 71 = .ok (.iload 5, 2) := by decide +kernel
theorem dX5_goRound_73 : decode cX5_goRound 73 = .ok (.ishl, 1) := by decide +kernel
theorem dX5_goRound_74 : decode cX5_goRound 74 = .ok (.ior, 1) := by decide +kernel
theorem dX5_goRound_75 : decode cX5_goRound 75 = .ok (.iload_n 3, 1) := by decide +kernel
theorem dX5_goRound_76 : decode cX5_goRound 76 = .ok (.invokestatic 101, 3) := by decide +kernel
theorem dX5_goRound_79 : decode cX5_goRound 79 = .ok (.iinc 5 1, 3) := by decide +kernel
theorem dX5_goRound_82 : decode cX5_goRound 82 = .ok (.goto (-41), 3) := by decide +kernel
theorem dX5_goRound_85 : decode cX5_goRound 85 = .ok (.return_, 1) := by decide +kernel
theorem dX5_putInRow_0 : decode cX5_putInRow 0 = .ok (.iload_n 1, 1) := by decide +kernel
theorem dX5_putInRow_1 : decode cX5_putInRow 1 = .ok (.ifCond .lt 19, 3) := by decide +kernel
theorem dX5_putInRow_4 : decode cX5_putInRow 4 = .ok (.iload_n 1, 1) := by decide +kernel
theorem dX5_putInRow_5 : decode cX5_putInRow 5 = .ok (.aload_n 0, 1) := by decide +kernel
theorem dX5_putInRow_6 : decode cX5_putInRow 6 = .ok (.getfield 15, 3) := by decide +kernel
theorem dX5_putInRow_9 : decode cX5_putInRow 9 = .ok (.arraylength, 1) := by decide +kernel
theorem dX5_putInRow_10 : decode cX5_putInRow 10 = .ok (.if_icmp .ge 10, 3) := by decide +kernel
theorem dX5_putInRow_13 : decode cX5_putInRow 13 = .ok (.aload_n 0, 1) := by decide +kernel
theorem dX5_putInRow_14 : decode cX5_putInRow 14 = .ok (.getfield 15, 3) := by decide +kernel
theorem dX5_putInRow_17 : decode cX5_putInRow 17 = .ok (.iload_n 1, 1) := by decide +kernel
theorem dX5_putInRow_18 : decode cX5_putInRow 18 = .ok (.iload_n 2, 1) := by decide +kernel
theorem dX5_putInRow_19 : decode cX5_putInRow 19 = .ok (.iastore, 1) := by decide +kernel
theorem dX5_putInRow_20 : decode cX5_putInRow 20 = .ok (.return_, 1) := by decide +kernel
theorem dX5_inRow_0 : decode cX5_inRow 0 = .ok (.iload_n 1, 1) := by decide +kernel
theorem dX5_inRow_1 : decode cX5_inRow 1 = .ok (.ifCond .lt 21, 3) := by decide +kernel
theorem dX5_inRow_4 : decode cX5_inRow 4 = .ok (.iload_n 1, 1) := by decide +kernel
theorem dX5_inRow_5 : decode cX5_inRow 5 = .ok (.aload_n 0, 1) := by decide +kernel
theorem dX5_inRow_6 : decode cX5_inRow 6 = .ok (.getfield 15, 3) := by decide +kernel
theorem dX5_inRow_9 : decode cX5_inRow 9 = .ok (.arraylength, 1) := by decide +kernel
theorem dX5_inRow_10 : decode cX5_inRow 10 = .ok (.if_icmp .ge 12, 3) := by decide +kernel
theorem dX5_inRow_13 : decode cX5_inRow 13 = .ok (.aload_n 0, 1) := by decide +kernel
theorem dX5_inRow_14 : decode cX5_inRow 14 = .ok (.getfield 15, 3) := by decide +kernel
theorem dX5_inRow_17 : decode cX5_inRow 17 = .ok (.iload_n 1, 1) := by decide +kernel
theorem dX5_inRow_18 : decode cX5_inRow 18 = .ok (.iaload, 1) := by decide +kernel
theorem dX5_inRow_19 : decode cX5_inRow 19 = .ok (.goto 4, 3) := by decide +kernel
theorem dX5_inRow_22 : decode cX5_inRow 22 = .ok (.iconst (-1), 1) := by decide +kernel
theorem dX5_inRow_23 : decode cX5_inRow 23 = .ok (.ireturn, 1) := by decide +kernel
theorem dX5_endRound_0 : decode cX5_endRound 0 = .ok (.iload_n 1, 1) := by decide +kernel
theorem dX5_endRound_1 : decode cX5_endRound 1 = .ok (.aload_n 0, 1) := by decide +kernel
theorem dX5_endRound_2 : decode cX5_endRound 2 = .ok (.bipush 11, 2) := by decide +kernel
theorem dX5_endRound_4 : decode cX5_endRound 4 = .ok (.invokevirtual 109, 3) := by decide +kernel
theorem dX5_endRound_7 : decode cX5_endRound 7 = .ok (.invokestatic 54, 3) := by decide +kernel
theorem dX5_endRound_10 : decode cX5_endRound 10 = .ok (.ifCond .ne 4, 3) := by decide +kernel
theorem dX5_endRound_13 : decode cX5_endRound 13 = .ok (.return_, 1) := by decide +kernel
theorem dX5_endRound_14 : decode cX5_endRound 14 = .ok (.aload_n 0, 1) := by decide +kernel
theorem dX5_endRound_15 : decode cX5_endRound 15 = .ok (.getfield 95, 3) := by decide +kernel
theorem dX5_endRound_18 : decode cX5_endRound 18 = .ok (.ifCond .ne 41, 3) := by decide +kernel
theorem dX5_endRound_21 : decode cX5_endRound 21 = .ok (.iconst 0, 1) := by decide +kernel
theorem dX5_endRound_22 : decode cX5_endRound 22 = .ok (.istore_n 2, 1) := by decide +kernel
theorem dX5_endRound_23 : decode cX5_endRound 23 = .ok (.iload_n 2, 1) := by decide +kernel
theorem dX5_endRound_24 : decode cX5_endRound 24 = .ok (.aload_n 0, 1) := by decide +kernel
theorem dX5_endRound_25 : decode cX5_endRound 25 = .ok (.getfield 18, 3) := by decide +kernel
theorem dX5_endRound_28 : decode cX5_endRound 28 = .ok (.arraylength, 1) := by decide +kernel
theorem dX5_endRound_29 : decode cX5_endRound 29 = .ok (.if_icmp .ge 30, 3) := by decide +kernel
theorem dX5_endRound_32 : decode cX5_endRound 32 = .ok (.iload_n 2, 1) := by decide +kernel
theorem dX5_endRound_33 : decode cX5_endRound 33 = .ok (.aload_n 0, 1) := by decide +kernel
theorem dX5_endRound_34 : decode cX5_endRound 34 = .ok (.getfield 15, 3) := by decide +kernel
theorem dX5_endRound_37 : decode cX5_endRound 37 = .ok (.arraylength, 1) := by decide +kernel
theorem dX5_endRound_38 : decode cX5_endRound 38 = .ok (.if_icmp .ge 21, 3) := by decide +kernel
theorem dX5_endRound_41 : decode cX5_endRound 41 = .ok (.aload_n 0, 1) := by decide +kernel
theorem dX5_endRound_42 : decode cX5_endRound 42 = .ok (.getfield 18, 3) := by decide +kernel
theorem dX5_endRound_45 : decode cX5_endRound 45 = .ok (.iload_n 2, 1) := by decide +kernel
theorem dX5_endRound_46 : decode cX5_endRound 46 = .ok (.aload_n 0, 1) := by decide +kernel
theorem dX5_endRound_47 : decode cX5_endRound 47 = .ok (.getfield 15, 3) := by decide +kernel
theorem dX5_endRound_50 : decode cX5_endRound 50 = .ok (.iload_n 2, 1) := by decide +kernel
theorem dX5_endRound_51 : decode cX5_endRound 51 = .ok (.iaload, 1) := by decide +kernel
theorem dX5_endRound_52 : decode cX5_endRound 52 = .ok (.iastore, 1) := by decide +kernel
theorem dX5_endRound_53 : decode cX5_endRound 53 = .ok (.iinc 2 1, 3) := by decide +kernel
theorem dX5_endRound_56 : decode cX5_endRound 56 = .ok (.goto (-33), 3) := by decide +kernel
theorem dX5_endRound_59 : decode cX5_endRound 59 = .ok (.aload_n 0, 1) := by decide +kernel
theorem dX5_endRound_60 : decode cX5_endRound 60 = .ok (.dup, 1) := by decide +kernel
theorem dX5_endRound_61 : decode cX5_endRound 61 = .ok (.getfield 95, 3) := by decide +kernel
theorem dX5_endRound_64 : decode cX5_endRound 64 = .ok (.iconst 1, 1) := by decide +kernel
theorem dX5_endRound_65 : decode cX5_endRound 65 = .ok (.iadd, 1) := by decide +kernel
theorem dX5_endRound_66 : decode cX5_endRound 66 = .ok (.putfield 95, 3) := by decide +kernel
theorem dX5_endRound_69 : decode cX5_endRound 69 = .ok (.return_, 1) := by decide +kernel
theorem dX6_init_0 : decode cX6_init 0 = .ok (.aload_n 0, 1) := by decide +kernel
theorem dX6_init_1 : decode cX6_init 1 = .ok (.invokespecial 3, 3) := by decide +kernel
theorem dX6_init_4 : decode cX6_init 4 = .ok (.aload_n 0, 1) := by decide +kernel
theorem dX6_init_5 : decode cX6_init 5 = .ok (.new 9, 3) := by decide +kernel
theorem dX6_init_8 : decode cX6_init 8 = .ok (.dup, 1) := by decide +kernel
theorem dX6_init_9 : decode cX6_init 9 = .ok (.invokespecial 11, 3) := by decide +kernel
theorem dX6_init_12 : decode cX6_init 12 = .ok (.putfield 12, 3) := by decide +kernel
theorem dX6_init_15 : decode cX6_init 15 = .ok (.aload_n 0, 1) := by decide +kernel
theorem dX6_init_16 : decode cX6_init 16 = .ok (.new 16, 3) := by decide +kernel
theorem dX6_init_19 : decode cX6_init 19 = .ok (.dup, 1) := by decide +kernel
theorem dX6_init_20 : decode cX6_init 20 = .ok (.invokespecial 18, 3) := by decide +kernel
theorem dX6_init_23 : decode cX6_init 23 = .ok (.putfield 19, 3) := by decide +kernel
theorem dX6_init_26 : decode cX6_init 26 = .ok (.aload_n 0, 1) := by decide +kernel
theorem dX6_init_27 : decode cX6_init 27 = .ok (.new 23, 3) := by decide +kernel
theorem dX6_init_30 : decode cX6_init 30 = .ok (.dup, 1) := by decide +kernel
theorem dX6_init_31 : decode cX6_init 31 = .ok (.invokespecial 25, 3) := by decide +kernel
theorem dX6_init_34 : decode cX6_init 34 = .ok (.putfield 26, 3) := by decide +kernel
theorem dX6_init_37 : decode cX6_init 37 = .ok (.aload_n 0, 1) := by decide +kernel
theorem dX6_init_38 : decode cX6_init 38 = .ok (.new 30, 3) := by decide +kernel
theorem dX6_init_41 : decode cX6_init 41 = .ok (.dup, 1) := by decide +kernel
theorem dX6_init_42 : decode cX6_init 42 = .ok (.invokespecial 32, 3) := by decide +kernel
theorem dX6_init_45 : decode cX6_init 45 = .ok (.putfield 33, 3) := by decide +kernel
theorem dX6_init_48 : decode cX6_init 48 = .ok (.aload_n 0, 1) := by decide +kernel
theorem dX6_init_49 : decode cX6_init 49 = .ok (.new 37, 3) := by decide +kernel
theorem dX6_init_52 : decode cX6_init 52 = .ok (.dup, 1) := by decide +kernel
theorem dX6_init_53 : decode cX6_init 53 = .ok (.invokespecial 39, 3) := by decide +kernel
theorem dX6_init_56 : decode cX6_init 56 = .ok (.putfield 40, 3) := by decide +kernel
theorem dX6_init_59 : decode cX6_init 59 = .ok (.aload_n 0, 1) := by decide +kernel
theorem dX6_init_60 : decode cX6_init 60 = .ok (.new 37, 3) := by decide +kernel
theorem dX6_init_63 : decode cX6_init 63 = .ok (.dup, 1) := by decide +kernel
theorem dX6_init_64 : decode cX6_init 64 = .ok (.invokespecial 39, 3) := by decide +kernel
theorem dX6_init_67 : decode cX6_init 67 = .ok (.putfield 44, 3) := by decide +kernel
theorem dX6_init_70 : decode cX6_init 70 = .ok (.aload_n 0, 1) := by decide +kernel
theorem dX6_init_71 : decode cX6_init 71 = .ok (.new 37, 3) := by decide +kernel
theorem dX6_init_74 : decode cX6_init 74 = .ok (.dup, 1) := by decide +kernel
theorem dX6_init_75 : decode cX6_init 75 = .ok (.invokespecial 39, 3) := by decide +kernel
theorem dX6_init_78 : decode cX6_init 78 = .ok (.putfield 47, 3) := by decide +kernel
theorem dX6_init_81 : decode cX6_init 81 = .ok (.aload_n 0, 1) := by decide +kernel
theorem dX6_init_82 : decode cX6_init 82 = .ok (.new 37, 3) := by decide +kernel
theorem dX6_init_85 : decode cX6_init 85 = .ok (.dup, 1) := by decide +kernel
theorem dX6_init_86 : decode cX6_init 86 = .ok (.invokespecial 39, 3) := by decide +kernel
theorem dX6_init_89 : decode cX6_init 89 = .ok (.putfield 50, 3) := by decide +kernel
theorem dX6_init_92 : decode cX6_init 92 = .ok (.return_, 1) := by decide +kernel
theorem dX6_write_0 : decode cX6_write 0 = .ok (.iload_n 3, 1) := by decide +kernel
theorem dX6_write_1 : decode cX6_write 1 = .ok (.iconst 1, 1) := by decide +kernel
theorem dX6_write_2 : decode cX6_write 2 = .ok (.if_icmp .lt 9, 3) := by decide +kernel
theorem dX6_write_5 : decode cX6_write 5 = .ok (.iload_n 3, 1) := by decide +kernel
theorem dX6_write_6 : decode cX6_write 6 = .ok (.bipush 8, 2) := by decide +kernel
theorem dX6_write_8 : decode cX6_write 8 = .ok (.if_icmp .le 6, 3) := by decide +kernel
theorem dX6_write_11 : decode cX6_write 11 = .ok (.bipush (-3), 2) := by decide +kernel
theorem dX6_write_13 : decode cX6_write 13 = .ok (.ireturn, 1) := by decide +kernel
theorem dX6_write_14 : decode cX6_write 14 = .ok (.aload_n 0, 1) := by decide +kernel
theorem dX6_write_15 : decode cX6_write 15 = .ok (.getfield 12, 3) := by decide +kernel
theorem dX6_write_18 : decode cX6_write 18 = .ok (.iload_n 3, 1) := by decide +kernel
theorem dX6_write_19 : decode cX6_write 19 = .ok (.invokevirtual 53, 3) := by decide +kernel
theorem dX6_write_22 : decode cX6_write 22 = .ok (.ifCond .ne 6, 3) := by decide +kernel
theorem dX6_write_25 : decode cX6_write 25 = .ok (.bipush (-5), 2) := by decide +kernel
theorem dX6_write_27 : decode cX6_write 27 = .ok (.ireturn, 1) := by decide +kernel
theorem dX6_write_28 : decode cX6_write 28 = .ok (.aload_n 0, 1) := by decide +kernel
theorem dX6_write_29 : decode cX6_write 29 = .ok (.getfield 12, 3) := by decide +kernel
theorem dX6_write_32 : decode cX6_write 32 = .ok (.lload_n 1, 1) := by decide +kernel
theorem dX6_write_33 : decode cX6_write 33 = .ok (.iload_n 3, 1) := by decide +kernel
theorem dX6_write_34 : decode cX6_write 34 = .ok (.invokevirtual 57, 3) := by decide +kernel
theorem dX6_write_37 : decode cX6_write 37 = .ok (.ireturn, 1) := by decide +kernel
theorem dX6_erase_0 : decode cX6_erase 0 = .ok (.aload_n 0, 1) := by decide +kernel
theorem dX6_erase_1 : decode cX6_erase 1 = .ok (.getfield 12, 3) := by decide +kernel
theorem dX6_erase_4 : decode cX6_erase 4 = .ok (.invokevirtual 61, 3) := by decide +kernel
theorem dX6_erase_7 : decode cX6_erase 7 = .ok (.ireturn, 1) := by decide +kernel
theorem dX6_fault_0 : decode cX6_fault 0 = .ok (.aload_n 0, 1) := by decide +kernel
theorem dX6_fault_1 : decode cX6_fault 1 = .ok (.getfield 12, 3) := by decide +kernel
theorem dX6_fault_4 : decode cX6_fault 4 = .ok (.invokevirtual 65, 3) := by decide +kernel
theorem dX6_fault_7 : decode cX6_fault 7 = .ok (.ireturn, 1) := by decide +kernel
theorem dX6_town_0 : decode cX6_town 0 = .ok (.aload_n 0, 1) := by decide +kernel
theorem dX6_town_1 : decode cX6_town 1 = .ok (.getfield 12, 3) := by decide +kernel
theorem dX6_town_4 : decode cX6_town 4 = .ok (.invokevirtual 65, 3) := by decide +kernel
theorem dX6_town_7 : decode cX6_town 7 = .ok (.iconst (-1), 1) := by decide +kernel
theorem dX6_town_8 : decode cX6_town 8 = .ok (.if_icmp .eq 6, 3) := by decide +kernel
theorem dX6_town_11 : decode cX6_town 11 = .ok (.bipush (-4), 2) := by decide +kernel
theorem dX6_town_13 : decode cX6_town 13 = .ok (.ireturn, 1) := by decide +kernel
theorem dX6_town_14 : decode cX6_town 14 = .ok (.aload_n 0, 1) := by decide +kernel
theorem dX6_town_15 : decode cX6_town 15 = .ok (.getfield 12, 3) := by decide +kernel
theorem dX6_town_18 : decode cX6_town 18 = .ok (.invokevirtual 68, 3) := by decide +kernel
theorem dX6_town_21 : decode cX6_town 21 = .ok (.istore_n 1, 1) := by decide +kernel
theorem dX6_town_22 : decode cX6_town 22 = .ok (.iconst 0, 1) := by decide +kernel
theorem dX6_town_23 : decode cX6_town 23 = .ok (.istore_n 2, 1) := by decide +kernel
theorem dX6_town_24 : decode cX6_town 24 = .ok (.iload_n 2, 1) := by decide +kernel
theorem dX6_town_25 : decode cX6_town 25 = .ok (.iload_n 1, 1) := by decide +kernel
theorem dX6_town_26 : decode cX6_town 26 = .ok (.if_icmp .ge 37, 3) := by decide +kernel
theorem dX6_town_29 : decode cX6_town 29 = .ok (.aload_n 0, 1) := by decide +kernel
theorem dX6_town_30 : decode cX6_town 30 = .ok (.aload_n 0, 1) := by decide +kernel
theorem dX6_town_31 : decode cX6_town 31 = .ok (.getfield 12, 3) := by decide +kernel
theorem dX6_town_34 : decode cX6_town 34 = .ok (.iload_n 2, 1) := by decide +kernel
theorem dX6_town_35 : decode cX6_town 35 = .ok (.invokevirtual 71, 3) := by decide +kernel
theorem dX6_town_38 : decode cX6_town 38 = .ok (.aload_n 0, 1) := by decide +kernel
theorem dX6_town_39 : decode cX6_town 39 = .ok (.getfield 12, 3) := by decide +kernel
theorem dX6_town_42 : decode cX6_town 42 = .ok (.iload_n 2, 1) := by decide +kernel
theorem dX6_town_43 : decode cX6_town 43 = .ok (.invokevirtual 75, 3) := by decide +kernel
theorem dX6_town_46 : decode cX6_town 46 = .ok (.aload_n 0, 1) := by decide +kernel
theorem dX6_town_47 : decode cX6_town 47 = .ok (.getfield 12, 3) := by decide +kernel
theorem dX6_town_50 : decode cX6_town 50 = .ok (.iload_n 2, 1) := by decide +kernel
theorem dX6_town_51 : decode cX6_town 51 = .ok (.invokevirtual 78, 3) := by decide +kernel
theorem dX6_town_54 : decode cX6_town 54 = .ok (.invokevirtual 81, 3) := by decide +kernel
theorem dX6_town_57 : decode cX6_town 57 = .ok (.iinc 2 1, 3) := by decide +kernel
theorem dX6_town_60 : decode cX6_town 60 = .ok (.goto (-36), 3) := by decide +kernel
theorem dX6_town_63 : decode cX6_town 63 = .ok (.aload_n 0, 1) := by decide +kernel
theorem dX6_town_64 : decode cX6_town 64 = .ok (.getfield 12, 3) := by decide +kernel
theorem dX6_town_67 : decode cX6_town 67 = .ok (.invokevirtual 61, 3) := by decide +kernel
theorem dX6_town_70 : decode cX6_town 70 = .ok (.pop, 1) := by decide +kernel
theorem dX6_town_71 : decode cX6_town 71 = .ok (.aload_n 0, 1) := by decide +kernel
theorem dX6_town_72 : decode cX6_town 72 = .ok (.getfield 44, 3) := by decide +kernel
theorem dX6_town_75 : decode cX6_town 75 = .ok (.aload_n 0, 1) := by decide +kernel
theorem dX6_town_76 : decode cX6_town 76 = .ok (.getfield 40, 3) := by decide +kernel
theorem dX6_town_79 : decode cX6_town 79 = .ok (.invokevirtual 85, 3) := by decide +kernel
theorem dX6_town_82 : decode cX6_town 82 = .ok (.aload_n 0, 1) := by decide +kernel
theorem dX6_town_83 : decode cX6_town 83 = .ok (.getfield 47, 3) := by decide +kernel
theorem dX6_town_86 : decode cX6_town 86 = .ok (.invokevirtual 89, 3) := by decide +kernel
theorem dX6_town_89 : decode cX6_town 89 = .ok (.aload_n 0, 1) := by decide +kernel
theorem dX6_town_90 : decode cX6_town 90 = .ok (.getfield 50, 3) := by decide +kernel
theorem dX6_town_93 : decode cX6_town 93 = .ok (.invokevirtual 89, 3) := by decide +kernel
theorem dX6_town_96 : decode cX6_town 96 = .ok (.iload_n 1, 1) := by decide +kernel
theorem dX6_town_97 : decode cX6_town 97 = .ok (.ireturn, 1) := by decide +kernel
theorem dX6_doLine_0 : decode cX6_doLine 0 = .ok (.iload_n 1, 1) := by decide +kernel
theorem dX6_doLine_1 : decode cX6_doLine 1 = .ok (.tableswitch 84 4 7 #[48, 60, 72, 31], 31) := by decide +kernel
theorem dX6_doLine_32 : decode cX6_doLine 32 = .ok (.aload_n 0, 1) := by decide +kernel
theorem dX6_doLine_33 : decode cX6_doLine 33 = .ok (.getfield 40, 3) := by decide +kernel
theorem dX6_doLine_36 : decode cX6_doLine 36 = .ok (.invokevirtual 92, 3) := by decide +kernel
theorem dX6_doLine_39 : decode cX6_doLine 39 = .ok (.aload_n 0, 1) := by decide +kernel
theorem dX6_doLine_40 : decode cX6_doLine 40 = .ok (.getfield 26, 3) := by decide +kernel
theorem dX6_doLine_43 : decode cX6_doLine 43 = .ok (.invokevirtual 95, 3) := by decide +kernel
theorem dX6_doLine_46 : decode cX6_doLine 46 = .ok (.goto 48, 3) := by decide +kernel
theorem dX6_doLine_49 : decode cX6_doLine 49 = .ok (.aload_n 0, 1) := by decide +kernel
theorem dX6_doLine_50 : decode cX6_doLine 50 = .ok (.getfield 26, 3) := by decide +kernel
theorem dX6_doLine_53 : decode cX6_doLine 53 = .ok (.iload_n 2, 1) := by decide +kernel
theorem dX6_doLine_54 : decode cX6_doLine 54 = .ok (.iload_n 3, 1) := by decide +kernel
theorem dX6_doLine_55 : decode cX6_doLine 55 = .ok (.invokevirtual 97, 3) := by decide +kernel
theorem dX6_doLine_58 : decode cX6_doLine 58 = .ok (.goto 36, 3) := by decide +kernel
theorem dX6_doLine_61 : decode cX6_doLine 61 = .ok (.aload_n 0, 1) := by decide +kernel
theorem dX6_doLine_62 : decode cX6_doLine 62 = .ok (.getfield 26, 3) := by decide +kernel
theorem dX6_doLine_65 : decode cX6_doLine 65 = .ok (.iload_n 2, 1) := by decide +kernel
theorem dX6_doLine_66 : decode cX6_doLine 66 = .ok (.iload_n 3, 1) := by decide +kernel
theorem dX6_doLine_67 : decode cX6_doLine 67 = .ok (.invokevirtual 101, 3) := by decide +kernel
theorem dX6_doLine_70 : decode cX6_doLine 70 = .ok (.goto 24, 3) := by decide +kernel
theorem dX6_doLine_73 : decode cX6_doLine 73 = .ok (.aload_n 0, 1) := by decide +kernel
theorem dX6_doLine_74 : decode cX6_doLine 74 = .ok (.getfield 40, 3) := by decide +kernel
theorem dX6_doLine_77 : decode cX6_doLine 77 = .ok (.iload_n 2, 1) := by decide +kernel
theorem dX6_doLine_78 : decode cX6_doLine 78 = .ok (.iload_n 3, 1) := by decide +kernel
theorem dX6_doLine_79 : decode cX6_doLine 79 = .ok (.invokevirtual 104, 3) := by decide +kernel
theorem dX6_doLine_82 : decode cX6_doLine 82 = .ok (.goto 12, 3) := by decide +kernel
theorem dX6_doLine_85 : decode cX6_doLine 85 = .ok (.aload_n 0, 1) := by decide +kernel
theorem dX6_doLine_86 : decode cX6_doLine 86 = .ok (.getfield 40, 3) := by decide +kernel
theorem dX6_doLine_89 : decode cX6_doLine 89 = .ok (.iload_n 2, 1) := by decide +kernel
theorem dX6_doLine_90 : decode cX6_doLine 90 = .ok (.iload_n 1, 1) := by decide +kernel
theorem dX6_doLine_91 : decode cX6_doLine 91 = .ok (.invokevirtual 107, 3) := by decide +kernel
theorem dX6_doLine_94 : decode cX6_doLine 94 = .ok (.return_, 1) := by decide +kernel
theorem dX6_beside_0 : decode cX6_beside 0 = .ok (.iload_n 1, 1) := by decide +kernel
theorem dX6_beside_1 : decode cX6_beside 1 = .ok (.iload_n 2, 1) := by decide +kernel
theorem dX6_beside_2 : decode cX6_beside 2 = .ok (.invokestatic 110, 3) := by decide +kernel
theorem dX6_beside_5 : decode cX6_beside 5 = .ok (.ireturn, 1) := by decide +kernel
theorem dX6_side_0 : decode cX6_side 0 = .ok (.iload_n 1, 1) := by decide +kernel
theorem dX6_side_1 : decode cX6_side 1 = .ok (.invokestatic 116, 3) := by decide +kernel
theorem dX6_side_4 : decode cX6_side 4 = .ok (.ifCond .eq 10, 3) := by decide +kernel
theorem dX6_side_7 : decode cX6_side 7 = .ok (.iload_n 2, 1) := by decide +kernel
theorem dX6_side_8 : decode cX6_side 8 = .ok (.invokestatic 116, 3) := by decide +kernel
theorem dX6_side_11 : decode cX6_side 11 = .ok (.ifCond .ne 6, 3) := by decide +kernel
theorem dX6_side_14 : decode cX6_side 14 = .ok (.bipush (-2), 2) := by decide +kernel
theorem dX6_side_16 : decode cX6_side 16 = .ok (.ireturn, 1) := by decide +kernel
theorem dX6_side_17 : decode cX6_side 17 = .ok (.iload_n 1, 1) := by decide +kernel
theorem dX6_side_18 : decode cX6_side 18 = .ok (.iload_n 2, 1) := by decide +kernel
theorem dX6_side_19 : decode cX6_side 19 = .ok (.invokestatic 119, 3) := by decide +kernel
theorem dX6_side_22 : decode cX6_side 22 = .ok (.ireturn, 1) := by decide +kernel
theorem dX6_far_0 : decode cX6_far 0 = .ok (.iload_n 1, 1) := by decide +kernel
theorem dX6_far_1 : decode cX6_far 1 = .ok (.invokestatic 116, 3) := by decide +kernel
theorem dX6_far_4 : decode cX6_far 4 = .ok (.ifCond .eq 10, 3) := by decide +kernel
theorem dX6_far_7 : decode cX6_far 7 = .ok (.iload_n 2, 1) := by decide +kernel
theorem dX6_far_8 : decode cX6_far 8 = .ok (.invokestatic 116, 3) := by decide +kernel
theorem dX6_far_11 : decode cX6_far 11 = .ok (.ifCond .ne 6, 3) := by decide +kernel
theorem dX6_far_14 : decode cX6_far 14 = .ok (.bipush (-2), 2) := by decide +kernel
theorem dX6_far_16 : decode cX6_far 16 = .ok (.ireturn, 1) := by decide +kernel
theorem dX6_far_17 : decode cX6_far 17 = .ok (.iload_n 1, 1) := by decide +kernel
theorem dX6_far_18 : decode cX6_far 18 = .ok (.iload_n 2, 1) := by decide +kernel
theorem dX6_far_19 : decode cX6_far 19 = .ok (.invokestatic 122, 3) := by decide +kernel
theorem dX6_far_22 : decode cX6_far 22 = .ok (.ireturn, 1) := by decide +kernel
theorem dX6_other_0 : decode cX6_other 0 = .ok (.iload_n 1, 1) := by decide +kernel
theorem dX6_other_1 : decode cX6_other 1 = .ok (.invokestatic 116, 3) := by decide +kernel
theorem dX6_other_4 : decode cX6_other 4 = .ok (.ifCond .ne 6, 3) := by decide +kernel
theorem dX6_other_7 : decode cX6_other 7 = .ok (.bipush (-2), 2) := by decide +kernel
theorem dX6_other_9 : decode cX6_other 9 = .ok (.ireturn, 1) := by decide +kernel
theorem dX6_other_10 : decode cX6_other 10 = .ok (.iload_n 1, 1) := by decide +kernel
theorem dX6_other_11 : decode cX6_other 11 = .ok (.invokestatic 125, 3) := by decide +kernel
theorem dX6_other_14 : decode cX6_other 14 = .ok (.ireturn, 1) := by decide +kernel
theorem dX6_goes_0 : decode cX6_goes 0 = .ok (.iload_n 1, 1) := by decide +kernel
theorem dX6_goes_1 : decode cX6_goes 1 = .ok (.invokestatic 116, 3) := by decide +kernel
theorem dX6_goes_4 : decode cX6_goes 4 = .ok (.ifCond .eq 17, 3) := by decide +kernel
theorem dX6_goes_7 : decode cX6_goes 7 = .ok (.iload_n 2, 1) := by decide +kernel
theorem dX6_goes_8 : decode cX6_goes 8 = .ok (.invokestatic 128, 3) := by decide +kernel
theorem dX6_goes_11 : decode cX6_goes 11 = .ok (.ifCond .eq 10, 3) := by decide +kernel
theorem dX6_goes_14 : decode cX6_goes 14 = .ok (.iload_n 3, 1) := by decide +kernel
theorem dX6_goes_15 : decode cX6_goes 15 = .ok (.invokestatic 116, 3) := by decide +kernel
theorem dX6_goes_18 : decode cX6_goes 18 = .ok (.ifCond .ne 6, 3) := by decide +kernel
theorem dX6_goes_21 : decode cX6_goes 21 = .ok (.bipush (-2), 2) := by decide +kernel
theorem dX6_goes_23 : decode cX6_goes 23 = .ok (.ireturn, 1) := by decide +kernel
theorem dX6_goes_24 : decode cX6_goes 24 = .ok (.aload_n 0, 1) := by decide +kernel
theorem dX6_goes_25 : decode cX6_goes 25 = .ok (.getfield 19, 3) := by decide +kernel
theorem dX6_goes_28 : decode cX6_goes 28 = .ok (.iload_n 1, 1) := by decide +kernel
theorem dX6_goes_29 : decode cX6_goes 29 = .ok (.iload_n 2, 1) := by decide +kernel
theorem dX6_goes_30 : decode cX6_goes 30 = .ok (.invokestatic 131, 3) := by decide +kernel
theorem dX6_goes_33 : decode cX6_goes 33 = .ok (.iload_n 3, 1) := by decide +kernel
theorem dX6_goes_34 : decode cX6_goes 34 = .ok (.invokevirtual 134, 3) := by decide +kernel
theorem dX6_goes_37 : decode cX6_goes 37 = .ok (.ireturn, 1) := by decide +kernel
theorem dX6_field_0 : decode cX6_field 0 = .ok (.iload_n 1, 1) := by decide +kernel
theorem dX6_field_1 : decode cX6_field 1 = .ok (.invokestatic 116, 3) := by decide +kernel
theorem dX6_field_4 : decode cX6_field 4 = .ok (.ifCond .ne 6, 3) := by decide +kernel
theorem dX6_field_7 : decode cX6_field 7 = .ok (.bipush (-2), 2) := by decide +kernel
theorem dX6_field_9 : decode cX6_field 9 = .ok (.ireturn, 1) := by decide +kernel
theorem dX6_field_10 : decode cX6_field 10 = .ok (.iload_n 2, 1) := by decide +kernel
theorem dX6_field_11 : decode cX6_field 11 = .ok (.tableswitch 62 0 3 #[29, 38, 47, 53], 29) := by decide +kernel
theorem dX6_field_40 : decode cX6_field 40 = .ok (.aload_n 0, 1) := by decide +kernel
theorem dX6_field_41 : decode cX6_field 41 = .ok (.getfield 44, 3) := by decide +kernel
theorem dX6_field_44 : decode cX6_field 44 = .ok (.iload_n 1, 1) := by decide +kernel
theorem dX6_field_45 : decode cX6_field 45 = .ok (.invokevirtual 137, 3) := by decide +kernel
theorem dX6_field_48 : decode cX6_field 48 = .ok (.ireturn, 1) := by decide +kernel
theorem dX6_field_49 : decode cX6_field 49 = .ok (.aload_n 0, 1) := by decide +kernel
theorem dX6_field_50 : decode cX6_field 50 = .ok (.getfield 26, 3) := by decide +kernel
theorem dX6_field_53 : decode cX6_field 53 = .ok (.iload_n 1, 1) := by decide +kernel
theorem dX6_field_54 : decode cX6_field 54 = .ok (.invokevirtual 140, 3) := by decide +kernel
theorem dX6_field_57 : decode cX6_field 57 = .ok (.ireturn, 1) := by decide +kernel
theorem dX6_field_58 : decode cX6_field 58 = .ok (.aload_n 0, 1) := by decide +kernel
theorem dX6_field_59 : decode cX6_field 59 = .ok (.iload_n 1, 1) := by decide +kernel
theorem dX6_field_60 : decode cX6_field 60 = .ok (.invokevirtual 143, 3) := by decide +kernel
theorem dX6_field_63 : decode cX6_field 63 = .ok (.ireturn, 1) := by decide +kernel
theorem dX6_field_64 : decode cX6_field 64 = .ok (.aload_n 0, 1) := by decide +kernel
theorem dX6_field_65 : decode cX6_field 65 = .ok (.getfield 26, 3) := by decide +kernel
theorem dX6_field_68 : decode cX6_field 68 = .ok (.iload_n 1, 1) := by decide +kernel
theorem dX6_field_69 : decode cX6_field 69 = .ok (.invokevirtual 146, 3) := by decide +kernel
theorem dX6_field_72 : decode cX6_field 72 = .ok (.ireturn, 1) := by decide +kernel
theorem dX6_field_73 : decode cX6_field 73 = .ok (.bipush (-3), 2) := by decide +kernel
theorem dX6_field_75 : decode cX6_field 75 = .ok (.ireturn, 1) := by decide +kernel
theorem dX6_as_0 : decode cX6_as 0 = .ok (.iload_n 1, 1) := by decide +kernel
theorem dX6_as_1 : decode cX6_as 1 = .ok (.invokestatic 116, 3) := by decide +kernel
theorem dX6_as_4 : decode cX6_as 4 = .ok (.ifCond .ne 6, 3) := by decide +kernel
theorem dX6_as_7 : decode cX6_as 7 = .ok (.bipush (-2), 2) := by decide +kernel
theorem dX6_as_9 : decode cX6_as 9 = .ok (.ireturn, 1) := by decide +kernel
theorem dX6_as_10 : decode cX6_as 10 = .ok (.iload_n 2, 1) := by decide +kernel
theorem dX6_as_11 : decode cX6_as 11 = .ok (.ifCond .lt 8, 3) := by decide +kernel
theorem dX6_as_14 : decode cX6_as 14 = .ok (.iload_n 2, 1) := by decide +kernel
theorem dX6_as_15 : decode cX6_as 15 = .ok (.iconst 4, 1) := by decide +kernel
theorem dX6_as_16 : decode cX6_as 16 = .ok (.if_icmp .le 6, 3) := by decide +kernel
theorem dX6_as_19 : decode cX6_as 19 = .ok (.bipush (-3), 2) := by decide +kernel
theorem dX6_as_21 : decode cX6_as 21 = .ok (.ireturn, 1) := by decide +kernel
theorem dX6_as_22 : decode cX6_as 22 = .ok (.aload_n 0, 1) := by decide +kernel
theorem dX6_as_23 : decode cX6_as 23 = .ok (.getfield 44, 3) := by decide +kernel
theorem dX6_as_26 : decode cX6_as 26 = .ok (.iload_n 1, 1) := by decide +kernel
theorem dX6_as_27 : decode cX6_as 27 = .ok (.invokevirtual 137, 3) := by decide +kernel
theorem dX6_as_30 : decode cX6_as 30 = .ok (.iload_n 2, 1) := by decide +kernel
theorem dX6_as_31 : decode cX6_as 31 = .ok (.invokestatic 149, 3) := by decide +kernel
theorem dX6_as_34 : decode cX6_as 34 = .ok (.ifCond .eq 11, 3) := by decide +kernel
theorem dX6_as_37 : decode cX6_as 37 = .ok (.aload_n 0, 1) := by decide +kernel
theorem dX6_as_38 : decode cX6_as 38 = .ok (.iload_n 1, 1) := by decide +kernel
theorem dX6_as_39 : decode cX6_as 39 = .ok (.invokevirtual 143, 3) := by decide +kernel
theorem dX6_as_42 : decode cX6_as 42 = .ok (.goto 5, 3) := by decide +kernel
theorem dX6_as_45 : decode cX6_as 45 = .ok (.bipush (-4), 2) := by decide +kernel
theorem dX6_as_47 : decode cX6_as 47 = .ok (.ireturn, 1) := by decide +kernel
theorem dX6_isSuch_0 : decode cX6_isSuch 0 = .ok (.iload_n 1, 1) := by decide +kernel
theorem dX6_isSuch_1 : decode cX6_isSuch 1 = .ok (.tableswitch 86 0 4 #[35, 37, 53, 64, 75], 35) := by decide +kernel
theorem dX6_isSuch_36 : decode cX6_isSuch 36 = .ok (.iconst 1, 1) := by decide +kernel
theorem dX6_isSuch_37 : decode cX6_isSuch 37 = .ok (.ireturn, 1) := by decide +kernel
theorem dX6_isSuch_38 : decode cX6_isSuch 38 = .ok (.iload_n 0, 1) := by decide +kernel
theorem dX6_isSuch_39 : decode cX6_isSuch 39 = .ok (.iconst 1, 1) := by decide +kernel
theorem dX6_isSuch_40 : decode cX6_isSuch 40 = .ok (.if_icmp .eq 8, 3) := by decide +kernel
theorem dX6_isSuch_43 : decode cX6_isSuch 43 = .ok (.iload_n 0, 1) := by decide +kernel
theorem dX6_isSuch_44 : decode cX6_isSuch 44 = .ok (.iconst 2, 1) := by decide +kernel
theorem dX6_isSuch_45 : decode cX6_isSuch 45 = .ok (.if_icmp .ne 7, 3) := by decide +kernel
theorem dX6_isSuch_48 : decode cX6_isSuch 48 = .ok (.iconst 1, 1) := by decide +kernel
theorem dX6_isSuch_49 : decode cX6_isSuch 49 = .ok (.goto 4, 3) := by decide +kernel
theorem dX6_isSuch_52 : decode cX6_isSuch 52 = .ok (.iconst 0, 1) := by decide +kernel
theorem dX6_isSuch_53 : decode cX6_isSuch 53 = .ok (.ireturn, 1) := by decide +kernel
theorem dX6_isSuch_54 : decode cX6_isSuch 54 = .ok (.iload_n 0, 1) := by decide +kernel
theorem dX6_isSuch_55 : decode cX6_isSuch 55 = .ok (.iconst 1, 1) := by decide +kernel
theorem dX6_isSuch_56 : decode cX6_isSuch 56 = .ok (.if_icmp .ne 7, 3) := by decide +kernel
theorem dX6_isSuch_59 : decode cX6_isSuch 59 = .ok (.iconst 1, 1) := by decide +kernel
theorem dX6_isSuch_60 : decode cX6_isSuch 60 = .ok (.goto 4, 3) := by decide +kernel
theorem dX6_isSuch_63 : decode cX6_isSuch 63 = .ok (.iconst 0, 1) := by decide +kernel
theorem dX6_isSuch_64 : decode cX6_isSuch 64 = .ok (.ireturn, 1) := by decide +kernel
theorem dX6_isSuch_65 : decode cX6_isSuch 65 = .ok (.iload_n 0, 1) := by decide +kernel
theorem dX6_isSuch_66 : decode cX6_isSuch 66 = .ok (.iconst 2, 1) := by decide +kernel
theorem dX6_isSuch_67 : decode cX6_isSuch 67 = .ok (.if_icmp .ne 7, 3) := by decide +kernel
theorem dX6_isSuch_70 : decode cX6_isSuch 70 = .ok (.iconst 1, 1) := by decide +kernel
theorem dX6_isSuch_71 : decode cX6_isSuch 71 = .ok (.goto 4, 3) := by decide +kernel
theorem dX6_isSuch_74 : decode cX6_isSuch 74 = .ok (.iconst 0, 1) := by decide +kernel
theorem dX6_isSuch_75 : decode cX6_isSuch 75 = .ok (.ireturn, 1) := by decide +kernel
theorem dX6_isSuch_76 : decode cX6_isSuch 76 = .ok (.iload_n 0, 1) := by decide +kernel
theorem dX6_isSuch_77 : decode cX6_isSuch 77 = .ok (.iconst 3, 1) := by decide +kernel
theorem dX6_isSuch_78 : decode cX6_isSuch 78 = .ok (.if_icmp .ne 7, 3) := by decide +kernel
theorem dX6_isSuch_81 : decode cX6_isSuch 81 = .ok (.iconst 1, 1) := by decide +kernel
theorem dX6_isSuch_82 : decode cX6_isSuch 82 = .ok (.goto 4, 3) := by decide +kernel
theorem dX6_isSuch_85 : decode cX6_isSuch 85 = .ok (.iconst 0, 1) := by decide +kernel
theorem dX6_isSuch_86 : decode cX6_isSuch 86 = .ok (.ireturn, 1) := by decide +kernel
theorem dX6_isSuch_87 : decode cX6_isSuch 87 = .ok (.iconst 0, 1) := by decide +kernel
theorem dX6_isSuch_88 : decode cX6_isSuch 88 = .ok (.ireturn, 1) := by decide +kernel
theorem dX6_taxOf_0 : decode cX6_taxOf 0 = .ok (.aload_n 0, 1) := by decide +kernel
theorem dX6_taxOf_1 : decode cX6_taxOf 1 = .ok (.getfield 44, 3) := by decide +kernel
theorem dX6_taxOf_4 : decode cX6_taxOf 4 = .ok (.iload_n 1, 1) := by decide +kernel
theorem dX6_taxOf_5 : decode cX6_taxOf 5 = .ok (.invokevirtual 137, 3) := by decide +kernel
theorem dX6_taxOf_8 : decode cX6_taxOf 8 = .ok (.tableswitch 52 1 3 #[28, 37, 50], 28) := by decide +kernel
theorem dX6_taxOf_36 : decode cX6_taxOf 36 = .ok (.iconst 2, 1) := by decide +kernel
theorem dX6_taxOf_37 : decode cX6_taxOf 37 = .ok (.aload_n 0, 1) := by decide +kernel
theorem dX6_taxOf_38 : decode cX6_taxOf 38 = .ok (.iload_n 1, 1) := by decide +kernel
theorem dX6_taxOf_39 : decode cX6_taxOf 39 = .ok (.iconst 3, 1) := by decide +kernel
theorem dX6_taxOf_40 : decode cX6_taxOf 40 = .ok (.invokevirtual 153, 3) := by decide +kernel
theorem dX6_taxOf_43 : decode cX6_taxOf 43 = .ok (.iadd, 1) := by decide +kernel
theorem dX6_taxOf_44 : decode cX6_taxOf 44 = .ok (.ireturn, 1) := by decide +kernel
theorem dX6_taxOf_45 : decode cX6_taxOf 45 = .ok (.iconst 0, 1) := by decide +kernel
theorem dX6_taxOf_46 : decode cX6_taxOf 46 = .ok (.iconst 3, 1) := by decide +kernel
theorem dX6_taxOf_47 : decode cX6_taxOf 47 = .ok (.aload_n 0, 1) := by decide +kernel
theorem dX6_taxOf_48 : decode cX6_taxOf 48 = .ok (.iload_n 1, 1) := by decide +kernel
theorem dX6_taxOf_49 : decode cX6_taxOf 49 = .ok (.iconst 1, 1) := by decide +kernel
theorem dX6_taxOf_50 : decode cX6_taxOf 50 = .ok (.invokevirtual 153, 3) := by decide +kernel
theorem dX6_taxOf_53 : decode cX6_taxOf 53 = .ok (.isub, 1) := by decide +kernel
theorem dX6_taxOf_54 : decode cX6_taxOf 54 = .ok (.invokestatic 156, 3) := by decide +kernel
theorem dX6_taxOf_57 : decode cX6_taxOf 57 = .ok (.ireturn, 1) := by decide +kernel
theorem dX6_taxOf_58 : decode cX6_taxOf 58 = .ok (.iconst 1, 1) := by decide +kernel
theorem dX6_taxOf_59 : decode cX6_taxOf 59 = .ok (.ireturn, 1) := by decide +kernel
theorem dX6_taxOf_60 : decode cX6_taxOf 60 = .ok (.iconst 0, 1) := by decide +kernel
theorem dX6_taxOf_61 : decode cX6_taxOf 61 = .ok (.ireturn, 1) := by decide +kernel
theorem dX6_openOfKind_0 : decode cX6_openOfKind 0 = .ok (.aload_n 0, 1) := by decide +kernel
theorem dX6_openOfKind_1 : decode cX6_openOfKind 1 = .ok (.getfield 26, 3) := by decide +kernel
theorem dX6_openOfKind_4 : decode cX6_openOfKind 4 = .ok (.iload_n 1, 1) := by decide +kernel
theorem dX6_openOfKind_5 : decode cX6_openOfKind 5 = .ok (.invokevirtual 146, 3) := by decide +kernel
theorem dX6_openOfKind_8 : decode cX6_openOfKind 8 = .ok (.aload_n 0, 1) := by decide +kernel
theorem dX6_openOfKind_9 : decode cX6_openOfKind 9 = .ok (.getfield 44, 3) := by decide +kernel
theorem dX6_openOfKind_12 : decode cX6_openOfKind 12 = .ok (.iload_n 2, 1) := by decide +kernel
theorem dX6_openOfKind_13 : decode cX6_openOfKind 13 = .ok (.invokevirtual 161, 3) := by decide +kernel
theorem dX6_openOfKind_16 : decode cX6_openOfKind 16 = .ok (.iand, 1) := by decide +kernel
theorem dX6_openOfKind_17 : decode cX6_openOfKind 17 = .ok (.invokestatic 164, 3) := by decide +kernel
theorem dX6_openOfKind_20 : decode cX6_openOfKind 20 = .ok (.ireturn, 1) := by decide +kernel
theorem dX6_rotate_0 : decode cX6_rotate 0 = .ok (.iload_n 1, 1) := by decide +kernel
theorem dX6_rotate_1 : decode cX6_rotate 1 = .ok (.invokestatic 116, 3) := by decide +kernel
theorem dX6_rotate_4 : decode cX6_rotate 4 = .ok (.ifCond .eq 10, 3) := by decide +kernel
theorem dX6_rotate_7 : decode cX6_rotate 7 = .ok (.iload_n 2, 1) := by decide +kernel
theorem dX6_rotate_8 : decode cX6_rotate 8 = .ok (.invokestatic 128, 3) := by decide +kernel
theorem dX6_rotate_11 : decode cX6_rotate 11 = .ok (.ifCond .ne 6, 3) := by decide +kernel
theorem dX6_rotate_14 : decode cX6_rotate 14 = .ok (.bipush (-2), 2) := by decide +kernel
theorem dX6_rotate_16 : decode cX6_rotate 16 = .ok (.ireturn, 1) := by decide +kernel
theorem dX6_rotate_17 : decode cX6_rotate 17 = .ok (.aload_n 0, 1) := by decide +kernel
theorem dX6_rotate_18 : decode cX6_rotate 18 = .ok (.getfield 44, 3) := by decide +kernel
theorem dX6_rotate_21 : decode cX6_rotate 21 = .ok (.aload_n 0, 1) := by decide +kernel
theorem dX6_rotate_22 : decode cX6_rotate 22 = .ok (.getfield 19, 3) := by decide +kernel
theorem dX6_rotate_25 : decode cX6_rotate 25 = .ok (.iload_n 1, 1) := by decide +kernel
theorem dX6_rotate_26 : decode cX6_rotate 26 = .ok (.iload_n 2, 1) := by decide +kernel
theorem dX6_rotate_27 : decode cX6_rotate 27 = .ok (.invokestatic 131, 3) := by decide +kernel
theorem dX6_rotate_30 : decode cX6_rotate 30 = .ok (.invokevirtual 169, 3) := by decide +kernel
theorem dX6_rotate_33 : decode cX6_rotate 33 = .ok (.ireturn, 1) := by decide +kernel
theorem dX6_step_0 : decode cX6_step 0 = .ok (.iload_n 1, 1) := by decide +kernel
theorem dX6_step_1 : decode cX6_step 1 = .ok (.invokestatic 128, 3) := by decide +kernel
theorem dX6_step_4 : decode cX6_step 4 = .ok (.ifCond .ne 6, 3) := by decide +kernel
theorem dX6_step_7 : decode cX6_step 7 = .ok (.bipush (-3), 2) := by decide +kernel
theorem dX6_step_9 : decode cX6_step 9 = .ok (.ireturn, 1) := by decide +kernel
theorem dX6_step_10 : decode cX6_step 10 = .ok (.aload_n 0, 1) := by decide +kernel
theorem dX6_step_11 : decode cX6_step 11 = .ok (.getfield 44, 3) := by decide +kernel
theorem dX6_step_14 : decode cX6_step 14 = .ok (.invokevirtual 173, 3) := by decide +kernel
theorem dX6_step_17 : decode cX6_step 17 = .ok (.istore_n 2, 1) := by decide +kernel
theorem dX6_step_18 : decode cX6_step 18 = .ok (.aload_n 0, 1) := by decide +kernel
theorem dX6_step_19 : decode cX6_step 19 = .ok (.getfield 26, 3) := by decide +kernel
theorem dX6_step_22 : decode cX6_step 22 = .ok (.iload_n 2, 1) := by decide +kernel
theorem dX6_step_23 : decode cX6_step 23 = .ok (.aload_n 0, 1) := by decide +kernel
theorem dX6_step_24 : decode cX6_step 24 = .ok (.getfield 44, 3) := by decide +kernel
theorem dX6_step_27 : decode cX6_step 27 = .ok (.invokevirtual 176, 3) := by decide +kernel
theorem dX6_step_30 : decode cX6_step 30 = .ok (.iload_n 1, 1) := by decide +kernel
theorem dX6_step_31 : decode cX6_step 31 = .ok (.invokestatic 179, 3) := by decide +kernel
theorem dX6_step_34 : decode cX6_step 34 = .ok (.invokevirtual 182, 3) := by decide +kernel
theorem dX6_step_37 : decode cX6_step 37 = .ok (.istore_n 3, 1) := by decide +kernel
theorem dX6_step_38 : decode cX6_step 38 = .ok (.iload_n 3, 1) := by decide +kernel
theorem dX6_step_39 : decode cX6_step 39 = .ok (.iconst (-1), 1) := by decide +kernel
theorem dX6_step_40 : decode cX6_step 40 = .ok (.if_icmp .ne 6, 3) := by decide +kernel
theorem dX6_step_43 : decode cX6_step 43 = .ok (.bipush (-4), 2) := by decide +kernel
theorem dX6_step_45 : decode cX6_step 45 = .ok (.ireturn, 1) := by decide +kernel
theorem dX6_step_46 : decode cX6_step 46 = .ok (.aload_n 0, 1) := by decide +kernel
theorem dX6_step_47 : decode cX6_step 47 = .ok (.getfield 44, 3) := by decide +kernel
theorem dX6_step_50 : decode cX6_step 50 = .ok (.invokevirtual 185, 3) := by decide +kernel
theorem dX6_step_53 : decode cX6_step 53 = .ok (.sipush 9999, 3) := by decide +kernel
theorem dX6_step_56 : decode cX6_step 56 = .ok (.if_icmp .lt 6, 3) := by decide +kernel
theorem dX6_step_59 : decode cX6_step 59 = .ok (.bipush (-5), 2) := by decide +kernel
theorem dX6_step_61 : decode cX6_step 61 = .ok (.ireturn, 1) := by decide +kernel
theorem dX6_step_62 : decode cX6_step 62 = .ok (.aload_n 0, 1) := by decide +kernel
theorem dX6_step_63 : decode cX6_step 63 = .ok (.getfield 44, 3) := by decide +kernel
theorem dX6_step_66 : decode cX6_step 66 = .ok (.iload_n 3, 1) := by decide +kernel
theorem dX6_step_67 : decode cX6_step 67 = .ok (.iload_n 3, 1) := by decide +kernel
theorem dX6_step_68 : decode cX6_step 68 = .ok (.iload_n 2, 1) := by decide +kernel
theorem dX6_step_69 : decode cX6_step 69 = .ok (.invokestatic 119, 3) := by decide +kernel
theorem dX6_step_72 : decode cX6_step 72 = .ok (.invokevirtual 188, 3) := by decide +kernel
theorem dX6_step_75 : decode cX6_step 75 = .ok (.iload_n 3, 1) := by decide +kernel
theorem dX6_step_76 : decode cX6_step 76 = .ok (.ireturn, 1) := by decide +kernel
theorem dX6_walker_0 : decode cX6_walker 0 = .ok (.iload_n 1, 1) := by decide +kernel
theorem dX6_walker_1 : decode cX6_walker 1 = .ok (.tableswitch 51 0 2 #[27, 35, 43], 27) := by decide +kernel
theorem dX6_walker_28 : decode cX6_walker 28 = .ok (.aload_n 0, 1) := by decide +kernel
theorem dX6_walker_29 : decode cX6_walker 29 = .ok (.getfield 44, 3) := by decide +kernel
theorem dX6_walker_32 : decode cX6_walker 32 = .ok (.invokevirtual 173, 3) := by decide +kernel
theorem dX6_walker_35 : decode cX6_walker 35 = .ok (.ireturn, 1) := by decide +kernel
theorem dX6_walker_36 : decode cX6_walker 36 = .ok (.aload_n 0, 1) := by decide +kernel
theorem dX6_walker_37 : decode cX6_walker 37 = .ok (.getfield 44, 3) := by decide +kernel
theorem dX6_walker_40 : decode cX6_walker 40 = .ok (.invokevirtual 176, 3) := by decide +kernel
theorem dX6_walker_43 : decode cX6_walker 43 = .ok (.ireturn, 1) := by decide +kernel
theorem dX6_walker_44 : decode cX6_walker 44 = .ok (.aload_n 0, 1) := by decide +kernel
theorem dX6_walker_45 : decode cX6_walker 45 = .ok (.getfield 44, 3) := by decide +kernel
theorem dX6_walker_48 : decode cX6_walker 48 = .ok (.invokevirtual 185, 3) := by decide +kernel
theorem dX6_walker_51 : decode cX6_walker 51 = .ok (.ireturn, 1) := by decide +kernel
theorem dX6_walker_52 : decode cX6_walker 52 = .ok (.bipush (-3), 2) := by decide +kernel
theorem dX6_walker_54 : decode cX6_walker 54 = .ok (.ireturn, 1) := by decide +kernel
theorem dX6_keep_0 : decode cX6_keep 0 = .ok (.iload_n 1, 1) := by decide +kernel
theorem dX6_keep_1 : decode cX6_keep 1 = .ok (.ifCond .eq 11, 3) := by decide +kernel
theorem dX6_keep_4 : decode cX6_keep 4 = .ok (.iload_n 1, 1) := by decide +kernel
theorem dX6_keep_5 : decode cX6_keep 5 = .ok (.iconst 1, 1) := by decide +kernel
theorem dX6_keep_6 : decode cX6_keep 6 = .ok (.if_icmp .eq 6, 3) := by decide +kernel
theorem dX6_keep_9 : decode cX6_keep 9 = .ok (.bipush (-2), 2) := by decide +kernel
theorem dX6_keep_11 : decode cX6_keep 11 = .ok (.ireturn, 1) := by decide +kernel
theorem dX6_keep_12 : decode cX6_keep 12 = .ok (.aload_n 0, 1) := by decide +kernel
theorem dX6_keep_13 : decode cX6_keep 13 = .ok (.iload_n 1, 1) := by decide +kernel
theorem dX6_keep_14 : decode cX6_keep 14 = .ok (.invokevirtual 191, 3) := by decide +kernel
theorem dX6_keep_17 : decode cX6_keep 17 = .ok (.aload_n 0, 1) := by decide +kernel
theorem dX6_keep_18 : decode cX6_keep 18 = .ok (.getfield 44, 3) := by decide +kernel
theorem dX6_keep_21 : decode cX6_keep 21 = .ok (.invokevirtual 85, 3) := by decide +kernel
theorem dX6_keep_24 : decode cX6_keep 24 = .ok (.aload_n 0, 1) := by decide +kernel
theorem dX6_keep_25 : decode cX6_keep 25 = .ok (.getfield 44, 3) := by decide +kernel
theorem dX6_keep_28 : decode cX6_keep 28 = .ok (.invokevirtual 185, 3) := by decide +kernel
theorem dX6_keep_31 : decode cX6_keep 31 = .ok (.ireturn, 1) := by decide +kernel
theorem dX6_back_0 : decode cX6_back 0 = .ok (.iload_n 1, 1) := by decide +kernel
theorem dX6_back_1 : decode cX6_back 1 = .ok (.ifCond .eq 11, 3) := by decide +kernel
theorem dX6_back_4 : decode cX6_back 4 = .ok (.iload_n 1, 1) := by decide +kernel
theorem dX6_back_5 : decode cX6_back 5 = .ok (.iconst 1, 1) := by decide +kernel
theorem dX6_back_6 : decode cX6_back 6 = .ok (.if_icmp .eq 6, 3) := by decide +kernel
theorem dX6_back_9 : decode cX6_back 9 = .ok (.bipush (-2), 2) := by decide +kernel
theorem dX6_back_11 : decode cX6_back 11 = .ok (.ireturn, 1) := by decide +kernel
theorem dX6_back_12 : decode cX6_back 12 = .ok (.aload_n 0, 1) := by decide +kernel
theorem dX6_back_13 : decode cX6_back 13 = .ok (.iload_n 1, 1) := by decide +kernel
theorem dX6_back_14 : decode cX6_back 14 = .ok (.invokevirtual 191, 3) := by decide +kernel
theorem dX6_back_17 : decode cX6_back 17 = .ok (.invokevirtual 195, 3) := by decide +kernel
theorem dX6_back_20 : decode cX6_back 20 = .ok (.ifCond .ne 6, 3) := by decide +kernel
theorem dX6_back_23 : decode cX6_back 23 = .ok (.bipush (-4), 2) := by decide +kernel
theorem dX6_back_25 : decode cX6_back 25 = .ok (.ireturn, 1) := by decide +kernel
theorem dX6_back_26 : decode cX6_back 26 = .ok (.aload_n 0, 1) := by decide +kernel
theorem dX6_back_27 : decode cX6_back 27 = .ok (.getfield 44, 3) := by decide +kernel
theorem dX6_back_30 : decode cX6_back 30 = .ok (.aload_n 0, 1) := by decide +kernel
theorem dX6_back_31 : decode cX6_back 31 = .ok (.iload_n 1, 1) := by decide +kernel
theorem dX6_back_32 : decode cX6_back 32 = .ok (.invokevirtual 191, 3) := by decide +kernel
theorem dX6_back_35 : decode cX6_back 35 = .ok (.invokevirtual 85, 3) := by decide +kernel
theorem dX6_back_38 : decode cX6_back 38 = .ok (.aload_n 0, 1) := by decide +kernel
theorem dX6_back_39 : decode cX6_back 39 = .ok (.getfield 44, 3) := by decide +kernel
theorem dX6_back_42 : decode cX6_back 42 = .ok (.invokevirtual 185, 3) := by decide +kernel
theorem dX6_back_45 : decode cX6_back 45 = .ok (.ireturn, 1) := by decide +kernel
theorem dX6_keptAt_0 : decode cX6_keptAt 0 = .ok (.iload_n 1, 1) := by decide +kernel
theorem dX6_keptAt_1 : decode cX6_keptAt 1 = .ok (.ifCond .ne 10, 3) := by decide +kernel
theorem dX6_keptAt_4 : decode cX6_keptAt 4 = .ok (.aload_n 0, 1) := by decide +kernel
theorem dX6_keptAt_5 : decode cX6_keptAt 5 = .ok (.getfield 47, 3) := by decide +kernel
theorem dX6_keptAt_8 : decode cX6_keptAt 8 = .ok (.goto 7, 3) := by decide +kernel
theorem dX6_keptAt_11 : decode cX6_keptAt 11 = .ok (.aload_n 0, 1) := by decide +kernel
theorem dX6_keptAt_12 : decode cX6_keptAt 12 = .ok (.getfield 50, 3) := by decide +kernel
theorem dX6_keptAt_15 : decode cX6_keptAt 15 = .ok (.areturn, 1) := by decide +kernel
theorem dX6_home_0 : decode cX6_home 0 = .ok (.iload_n 1, 1) := by decide +kernel
theorem dX6_home_1 : decode cX6_home 1 = .ok (.invokestatic 128, 3) := by decide +kernel
theorem dX6_home_4 : decode cX6_home 4 = .ok (.ifCond .ne 6, 3) := by decide +kernel
theorem dX6_home_7 : decode cX6_home 7 = .ok (.bipush (-3), 2) := by decide +kernel
theorem dX6_home_9 : decode cX6_home 9 = .ok (.ireturn, 1) := by decide +kernel
theorem dX6_home_10 : decode cX6_home 10 = .ok (.aload_n 0, 1) := by decide +kernel
theorem dX6_home_11 : decode cX6_home 11 = .ok (.getfield 44, 3) := by decide +kernel
theorem dX6_home_14 : decode cX6_home 14 = .ok (.invokevirtual 173, 3) := by decide +kernel
theorem dX6_home_17 : decode cX6_home 17 = .ok (.istore_n 2, 1) := by decide +kernel
theorem dX6_home_18 : decode cX6_home 18 = .ok (.aload_n 0, 1) := by decide +kernel
theorem dX6_home_19 : decode cX6_home 19 = .ok (.getfield 44, 3) := by decide +kernel
theorem dX6_home_22 : decode cX6_home 22 = .ok (.invokevirtual 176, 3) := by decide +kernel
theorem dX6_home_25 : decode cX6_home 25 = .ok (.istore_n 3, 1) := by decide +kernel
theorem dX6_home_26 : decode cX6_home 26 = .ok (.iconst 1, 1) := by decide +kernel
theorem dX6_home_27 : decode cX6_home 27 = .ok (.istore 4, 2) := by decide +kernel
theorem dX6_home_29 : decode cX6_home 29 = .ok (.iload 4, 2) := by decide +kernel
theorem dX6_home_31 : decode cX6_home 31 = .ok (.bipush 60, 2) := by decide +kernel
theorem dX6_home_33 : decode cX6_home 33 = .ok (.if_icmp .gt 67, 3) := by decide +kernel
theorem dX6_home_36 : decode cX6_home 36 = .ok (.aload_n 0, 1) := by decide +kernel
theorem dX6_home_37 : decode cX6_home 37 = .ok (.getfield 26, 3) := by decide +kernel
theorem dX6_home_40 : decode cX6_home 40 = .ok (.iload_n 2, 1) := by decide +kernel
theorem dX6_home_41 : decode cX6_home 41 = .ok (.iload_n 3, 1) := by decide +kernel
theorem dX6_home_42 : decode cX6_home 42 = .ok (.iload_n 1, 1) := by decide +kernel
theorem dX6_home_43 : decode cX6_home 43 = .ok (.invokestatic 179, 3) := by decide +kernel
theorem dX6_home_46 : decode cX6_home 46 = .ok (.invokevirtual 182, 3) := by decide +kernel
theorem dX6_home_49 : decode cX6_home 49 = .ok (.istore 5, 2) := by decide +kernel
theorem dX6_home_51 : decode cX6_home 51 = .ok (.iload 5, 2) := by decide +kernel
theorem dX6_home_53 : decode cX6_home 53 = .ok (.iconst (-1), 1) := by decide +kernel
theorem dX6_home_54 : decode cX6_home 54 = .ok (.if_icmp .ne 5, 3) := by decide +kernel
theorem dX6_home_57 : decode cX6_home 57 = .ok (.iconst (-1), 1) := by decide +kernel
theorem dX6_home_58 : decode cX6_home 58 = .ok (.ireturn, 1) := by decide +kernel
theorem dX6_home_59 : decode cX6_home 59 = .ok (.iload 5, 2) := by decide +kernel
theorem dX6_home_61 : decode cX6_home 61 = .ok (.iload_n 2, 1) := by decide +kernel
theorem dX6_home_62 : decode cX6_home 62 = .ok (.invokestatic 119, 3) := by decide +kernel
theorem dX6_home_65 : decode cX6_home 65 = .ok (.istore_n 3, 1) := by decide +kernel
theorem dX6_home_66 : decode cX6_home 66 = .ok (.iload 5, 2) := by decide +kernel
theorem dX6_home_68 : decode cX6_home 68 = .ok (.istore_n 2, 1) := by decide +kernel
theorem dX6_home_69 : decode cX6_home 69 = .ok (.iload_n 2, 1) := by decide +kernel
theorem dX6_home_70 : decode cX6_home 70 = .ok (.aload_n 0, 1) := by decide +kernel
theorem dX6_home_71 : decode cX6_home 71 = .ok (.getfield 44, 3) := by decide +kernel
theorem dX6_home_74 : decode cX6_home 74 = .ok (.invokevirtual 173, 3) := by decide +kernel
theorem dX6_home_77 : decode cX6_home 77 = .ok (.if_icmp .ne 17, 3) := by decide +kernel
theorem dX6_home_80 : decode cX6_home 80 = .ok (.iload_n 3, 1) := by decide +kernel
theorem dX6_home_81 : decode cX6_home 81 = .ok (.aload_n 0, 1) := by decide +kernel
theorem dX6_home_82 : decode cX6_home 82 = .ok (.getfield 44, 3) := by decide +kernel
theorem dX6_home_85 : decode cX6_home 85 = .ok (.invokevirtual 176, 3) := by decide +kernel
theorem dX6_home_88 : decode cX6_home 88 = .ok (.if_icmp .ne 6, 3) := by decide +kernel
theorem dX6_home_91 : decode cX6_home 91 = .ok (.iload 4, 2) := by decide +kernel
theorem dX6_home_93 : decode cX6_home 93 = .ok (.ireturn, 1) := by decide +kernel
theorem dX6_home_94 : decode cX6_home 94 = .ok (.iinc 4 1, 3) := by decide +kernel
theorem dX6_home_97 : decode cX6_home 97 = .ok (.goto (-68), 3) := by decide +kernel
theorem dX6_home_100 : decode cX6_home 100 = .ok (.iconst (-1), 1) := by decide +kernel
theorem dX6_home_101 : decode cX6_home 101 = .ok (.ireturn, 1) := by decide +kernel
theorem dX6_alike_0 : decode cX6_alike 0 = .ok (.aload_n 0, 1) := by decide +kernel
theorem dX6_alike_1 : decode cX6_alike 1 = .ok (.getfield 19, 3) := by decide +kernel
theorem dX6_alike_4 : decode cX6_alike 4 = .ok (.aload_n 0, 1) := by decide +kernel
theorem dX6_alike_5 : decode cX6_alike 5 = .ok (.getfield 44, 3) := by decide +kernel
theorem dX6_alike_8 : decode cX6_alike 8 = .ok (.aload_n 0, 1) := by decide +kernel
theorem dX6_alike_9 : decode cX6_alike 9 = .ok (.getfield 44, 3) := by decide +kernel
theorem dX6_alike_12 : decode cX6_alike 12 = .ok (.invokevirtual 199, 3) := by decide +kernel
theorem dX6_alike_15 : decode cX6_alike 15 = .ok (.ireturn, 1) := by decide +kernel
theorem dX6_like_0 : decode cX6_like 0 = .ok (.iload_n 1, 1) := by decide +kernel
theorem dX6_like_1 : decode cX6_like 1 = .ok (.ifCond .eq 11, 3) := by decide +kernel
theorem dX6_like_4 : decode cX6_like 4 = .ok (.iload_n 1, 1) := by decide +kernel
theorem dX6_like_5 : decode cX6_like 5 = .ok (.iconst 1, 1) := by decide +kernel
theorem dX6_like_6 : decode cX6_like 6 = .ok (.if_icmp .eq 6, 3) := by decide +kernel
theorem dX6_like_9 : decode cX6_like 9 = .ok (.bipush (-2), 2) := by decide +kernel
theorem dX6_like_11 : decode cX6_like 11 = .ok (.ireturn, 1) := by decide +kernel
theorem dX6_like_12 : decode cX6_like 12 = .ok (.aload_n 0, 1) := by decide +kernel
theorem dX6_like_13 : decode cX6_like 13 = .ok (.iload_n 1, 1) := by decide +kernel
theorem dX6_like_14 : decode cX6_like 14 = .ok (.invokevirtual 191, 3) := by decide +kernel
theorem dX6_like_17 : decode cX6_like 17 = .ok (.invokevirtual 195, 3) := by decide +kernel
theorem dX6_like_20 : decode cX6_like 20 = .ok (.ifCond .ne 6, 3) := by decide +kernel
theorem dX6_like_23 : decode cX6_like 23 = .ok (.bipush (-4), 2) := by decide +kernel
theorem dX6_like_25 : decode cX6_like 25 = .ok (.ireturn, 1) := by decide +kernel
theorem dX6_like_26 : decode cX6_like 26 = .ok (.aload_n 0, 1) := by decide +kernel
theorem dX6_like_27 : decode cX6_like 27 = .ok (.getfield 19, 3) := by decide +kernel
theorem dX6_like_30 : decode cX6_like 30 = .ok (.aload_n 0, 1) := by decide +kernel
theorem dX6_like_31 : decode cX6_like 31 = .ok (.iload_n 1, 1) := by decide +kernel
theorem dX6_like_32 : decode cX6_like 32 = .ok (.invokevirtual 191, 3) := by decide +kernel
theorem dX6_like_35 : decode cX6_like 35 = .ok (.aload_n 0, 1) := by decide +kernel
theorem dX6_like_36 : decode cX6_like 36 = .ok (.getfield 44, 3) := by decide +kernel
theorem dX6_like_39 : decode cX6_like 39 = .ok (.invokevirtual 199, 3) := by decide +kernel
theorem dX6_like_42 : decode cX6_like 42 = .ok (.ireturn, 1) := by decide +kernel
theorem dX6_fixed_0 : decode cX6_fixed 0 = .ok (.iload_n 1, 1) := by decide +kernel
theorem dX6_fixed_1 : decode cX6_fixed 1 = .ok (.invokestatic 116, 3) := by decide +kernel
theorem dX6_fixed_4 : decode cX6_fixed 4 = .ok (.ifCond .eq 10, 3) := by decide +kernel
theorem dX6_fixed_7 : decode cX6_fixed 7 = .ok (.iload_n 2, 1) := by decide +kernel
theorem dX6_fixed_8 : decode cX6_fixed 8 = .ok (.invokestatic 128, 3) := by decide +kernel
theorem dX6_fixed_11 : decode cX6_fixed 11 = .ok (.ifCond .ne 7, 3) := by decide +kernel
theorem dX6_fixed_14 : decode cX6_fixed 14 = .ok (.ldc2_w 203, 3) := by decide +kernel
theorem dX6_fixed_17 : decode cX6_fixed 17 = .ok (.lreturn, 1) := by decide +kernel
theorem dX6_fixed_18 : decode cX6_fixed 18 = .ok (.iload_n 3, 1) := by decide +kernel
theorem dX6_fixed_19 : decode cX6_fixed 19 = .ok (.iconst 1, 1) := by decide +kernel
theorem dX6_fixed_20 : decode cX6_fixed 20 = .ok (.if_icmp .lt 9, 3) := by decide +kernel
theorem dX6_fixed_23 : decode cX6_fixed 23 = .ok (.iload_n 3, 1) := by decide +kernel
theorem dX6_fixed_24 : decode cX6_fixed 24 = .ok (.bipush 8, 2) := by decide +kernel
theorem dX6_fixed_26 : decode cX6_fixed 26 = .ok (.if_icmp .le 7, 3) := by decide +kernel
theorem dX6_fixed_29 : decode cX6_fixed 29 = .ok (.ldc2_w 205, 3) := by decide +kernel
theorem dX6_fixed_32 : decode cX6_fixed 32 = .ok (.lreturn, 1) := by decide +kernel
theorem dX6_fixed_33 : decode cX6_fixed 33 = .ok (.aload_n 0, 1) := by decide +kernel
theorem dX6_fixed_34 : decode cX6_fixed 34 = .ok (.getfield 19, 3) := by decide +kernel
theorem dX6_fixed_37 : decode cX6_fixed 37 = .ok (.iload_n 1, 1) := by decide +kernel
theorem dX6_fixed_38 : decode cX6_fixed 38 = .ok (.iload_n 2, 1) := by decide +kernel
theorem dX6_fixed_39 : decode cX6_fixed 39 = .ok (.invokestatic 131, 3) := by decide +kernel
theorem dX6_fixed_42 : decode cX6_fixed 42 = .ok (.iload_n 3, 1) := by decide +kernel
theorem dX6_fixed_43 : decode cX6_fixed 43 = .ok (.invokevirtual 207, 3) := by decide +kernel
theorem dX6_fixed_46 : decode cX6_fixed 46 = .ok (.lreturn, 1) := by decide +kernel
theorem dX6_unlike_0 : decode cX6_unlike 0 = .ok (.iload_n 1, 1) := by decide +kernel
theorem dX6_unlike_1 : decode cX6_unlike 1 = .ok (.iconst 1, 1) := by decide +kernel
theorem dX6_unlike_2 : decode cX6_unlike 2 = .ok (.if_icmp .lt 9, 3) := by decide +kernel
theorem dX6_unlike_5 : decode cX6_unlike 5 = .ok (.iload_n 1, 1) := by decide +kernel
theorem dX6_unlike_6 : decode cX6_unlike 6 = .ok (.bipush 8, 2) := by decide +kernel
theorem dX6_unlike_8 : decode cX6_unlike 8 = .ok (.if_icmp .le 7, 3) := by decide +kernel
theorem dX6_unlike_11 : decode cX6_unlike 11 = .ok (.ldc2_w 205, 3) := by decide +kernel
theorem dX6_unlike_14 : decode cX6_unlike 14 = .ok (.lreturn, 1) := by decide +kernel
theorem dX6_unlike_15 : decode cX6_unlike 15 = .ok (.aload_n 0, 1) := by decide +kernel
theorem dX6_unlike_16 : decode cX6_unlike 16 = .ok (.getfield 19, 3) := by decide +kernel
theorem dX6_unlike_19 : decode cX6_unlike 19 = .ok (.iload_n 1, 1) := by decide +kernel
theorem dX6_unlike_20 : decode cX6_unlike 20 = .ok (.invokevirtual 211, 3) := by decide +kernel
theorem dX6_unlike_23 : decode cX6_unlike 23 = .ok (.lreturn, 1) := by decide +kernel
theorem dX6_wardens_0 : decode cX6_wardens 0 = .ok (.iload_n 1, 1) := by decide +kernel
theorem dX6_wardens_1 : decode cX6_wardens 1 = .ok (.tableswitch 51 0 2 #[27, 35, 43], 27) := by decide +kernel
theorem dX6_wardens_28 : decode cX6_wardens 28 = .ok (.aload_n 0, 1) := by decide +kernel
theorem dX6_wardens_29 : decode cX6_wardens 29 = .ok (.getfield 26, 3) := by decide +kernel
theorem dX6_wardens_32 : decode cX6_wardens 32 = .ok (.invokevirtual 215, 3) := by decide +kernel
theorem dX6_wardens_35 : decode cX6_wardens 35 = .ok (.ireturn, 1) := by decide +kernel
theorem dX6_wardens_36 : decode cX6_wardens 36 = .ok (.aload_n 0, 1) := by decide +kernel
theorem dX6_wardens_37 : decode cX6_wardens 37 = .ok (.getfield 26, 3) := by decide +kernel
theorem dX6_wardens_40 : decode cX6_wardens 40 = .ok (.invokevirtual 218, 3) := by decide +kernel
theorem dX6_wardens_43 : decode cX6_wardens 43 = .ok (.ireturn, 1) := by decide +kernel
theorem dX6_wardens_44 : decode cX6_wardens 44 = .ok (.aload_n 0, 1) := by decide +kernel
theorem dX6_wardens_45 : decode cX6_wardens 45 = .ok (.getfield 26, 3) := by decide +kernel
theorem dX6_wardens_48 : decode cX6_wardens 48 = .ok (.invokevirtual 221, 3) := by decide +kernel
theorem dX6_wardens_51 : decode cX6_wardens 51 = .ok (.ireturn, 1) := by decide +kernel
theorem dX6_wardens_52 : decode cX6_wardens 52 = .ok (.bipush (-3), 2) := by decide +kernel
theorem dX6_wardens_54 : decode cX6_wardens 54 = .ok (.ireturn, 1) := by decide +kernel
theorem dX6_inside_0 : decode cX6_inside 0 = .ok (.iload_n 1, 1) := by decide +kernel
theorem dX6_inside_1 : decode cX6_inside 1 = .ok (.invokestatic 116, 3) := by decide +kernel
theorem dX6_inside_4 : decode cX6_inside 4 = .ok (.ifCond .ne 6, 3) := by decide +kernel
theorem dX6_inside_7 : decode cX6_inside 7 = .ok (.bipush (-2), 2) := by decide +kernel
theorem dX6_inside_9 : decode cX6_inside 9 = .ok (.ireturn, 1) := by decide +kernel
theorem dX6_inside_10 : decode cX6_inside 10 = .ok (.aload_n 0, 1) := by decide +kernel
theorem dX6_inside_11 : decode cX6_inside 11 = .ok (.getfield 26, 3) := by decide +kernel
theorem dX6_inside_14 : decode cX6_inside 14 = .ok (.iload_n 1, 1) := by decide +kernel
theorem dX6_inside_15 : decode cX6_inside 15 = .ok (.invokevirtual 224, 3) := by decide +kernel
theorem dX6_inside_18 : decode cX6_inside 18 = .ok (.ireturn, 1) := by decide +kernel
theorem dX6_rounds_0 : decode cX6_rounds 0 = .ok (.iload_n 1, 1) := by decide +kernel
theorem dX6_rounds_1 : decode cX6_rounds 1 = .ok (.iconst (-1), 1) := by decide +kernel
theorem dX6_rounds_2 : decode cX6_rounds 2 = .ok (.if_icmp .ne 11, 3) := by decide +kernel
theorem dX6_rounds_5 : decode cX6_rounds 5 = .ok (.aload_n 0, 1) := by decide +kernel
theorem dX6_rounds_6 : decode cX6_rounds 6 = .ok (.getfield 26, 3) := by decide +kernel
theorem dX6_rounds_9 : decode cX6_rounds 9 = .ok (.invokevirtual 227, 3) := by decide +kernel
theorem dX6_rounds_12 : decode cX6_rounds 12 = .ok (.ireturn, 1) := by decide +kernel
theorem dX6_rounds_13 : decode cX6_rounds 13 = .ok (.iload_n 1, 1) := by decide +kernel
theorem dX6_rounds_14 : decode cX6_rounds 14 = .ok (.invokestatic 116, 3) := by decide +kernel
theorem dX6_rounds_17 : decode cX6_rounds 17 = .ok (.ifCond .ne 6, 3) := by decide +kernel
theorem dX6_rounds_20 : decode cX6_rounds 20 = .ok (.bipush (-3), 2) := by decide +kernel
theorem dX6_rounds_22 : decode cX6_rounds 22 = .ok (.ireturn, 1) := by decide +kernel
theorem dX6_rounds_23 : decode cX6_rounds 23 = .ok (.aload_n 0, 1) := by decide +kernel
theorem dX6_rounds_24 : decode cX6_rounds 24 = .ok (.getfield 26, 3) := by decide +kernel
theorem dX6_rounds_27 : decode cX6_rounds 27 = .ok (.iload_n 1, 1) := by decide +kernel
theorem dX6_rounds_28 : decode cX6_rounds 28 = .ok (.invokevirtual 230, 3) := by decide +kernel
theorem dX6_rounds_31 : decode cX6_rounds 31 = .ok (.ireturn, 1) := by decide +kernel
theorem dX6_walks_0 : decode cX6_walks 0 = .ok (.iload_n 1, 1) := by decide +kernel
theorem dX6_walks_1 : decode cX6_walks 1 = .ok (.invokestatic 116, 3) := by decide +kernel
theorem dX6_walks_4 : decode cX6_walks 4 = .ok (.ifCond .eq 10, 3) := by decide +kernel
theorem dX6_walks_7 : decode cX6_walks 7 = .ok (.iload_n 2, 1) := by decide +kernel
theorem dX6_walks_8 : decode cX6_walks 8 = .ok (.invokestatic 116, 3) := by decide +kernel
theorem dX6_walks_11 : decode cX6_walks 11 = .ok (.ifCond .ne 7, 3) := by decide +kernel
theorem dX6_walks_14 : decode cX6_walks 14 = .ok (.ldc2_w 203, 3) := by decide +kernel
theorem dX6_walks_17 : decode cX6_walks 17 = .ok (.lreturn, 1) := by decide +kernel
theorem dX6_walks_18 : decode cX6_walks 18 = .ok (.iload_n 3, 1) := by decide +kernel
theorem dX6_walks_19 : decode cX6_walks 19 = .ok (.ifCond .lt 9, 3) := by decide +kernel
theorem dX6_walks_22 : decode cX6_walks 22 = .ok (.iload_n 3, 1) := by decide +kernel
theorem dX6_walks_23 : decode cX6_walks 23 = .ok (.bipush 20, 2) := by decide +kernel
theorem dX6_walks_25 : decode cX6_walks 25 = .ok (.if_icmp .le 7, 3) := by decide +kernel
theorem dX6_walks_28 : decode cX6_walks 28 = .ok (.ldc2_w 205, 3) := by decide +kernel
theorem dX6_walks_31 : decode cX6_walks 31 = .ok (.lreturn, 1) := by decide +kernel
theorem dX6_walks_32 : decode cX6_walks 32 = .ok (.aload_n 0, 1) := by decide +kernel
theorem dX6_walks_33 : decode cX6_walks 33 = .ok (.getfield 33, 3) := by decide +kernel
theorem dX6_walks_36 : decode cX6_walks 36 = .ok (.aload_n 0, 1) := by decide +kernel
theorem dX6_walks_37 : decode cX6_walks 37 = .ok (.getfield 26, 3) := by decide +kernel
theorem dX6_walks_40 : decode cX6_walks 40 = .ok (.iload_n 1, 1) := by decide +kernel
theorem dX6_walks_41 : decode cX6_walks 41 = .ok (.iload_n 2, 1) := by decide +kernel
theorem dX6_walks_42 : decode cX6_walks 42 = .ok (.iload_n 3, 1) := by decide +kernel
theorem dX6_walks_43 : decode cX6_walks 43 = .ok (.invokevirtual 233, 3) := by decide +kernel
theorem dX6_walks_46 : decode cX6_walks 46 = .ok (.lreturn, 1) := by decide +kernel
theorem dX6_odds_0 : decode cX6_odds 0 = .ok (.iload_n 1, 1) := by decide +kernel
theorem dX6_odds_1 : decode cX6_odds 1 = .ok (.invokestatic 116, 3) := by decide +kernel
theorem dX6_odds_4 : decode cX6_odds 4 = .ok (.ifCond .eq 10, 3) := by decide +kernel
theorem dX6_odds_7 : decode cX6_odds 7 = .ok (.iload_n 2, 1) := by decide +kernel
theorem dX6_odds_8 : decode cX6_odds 8 = .ok (.invokestatic 116, 3) := by decide +kernel
theorem dX6_odds_11 : decode cX6_odds 11 = .ok (.ifCond .ne 7, 3) := by decide +kernel
theorem dX6_odds_14 : decode cX6_odds 14 = .ok (.ldc2_w 203, 3) := by decide +kernel
theorem dX6_odds_17 : decode cX6_odds 17 = .ok (.lreturn, 1) := by decide +kernel
theorem dX6_odds_18 : decode cX6_odds 18 = .ok (.iload_n 3, 1) := by decide +kernel
theorem dX6_odds_19 : decode cX6_odds 19 = .ok (.ifCond .lt 20, 3) := by decide +kernel
theorem dX6_odds_22 : decode cX6_odds 22 = .ok (.iload_n 3, 1) := by decide +kernel
theorem dX6_odds_23 : decode cX6_odds 23 = .ok (.bipush 8, 2) := by decide +kernel
theorem dX6_odds_25 : decode cX6_odds 25 = .ok (.if_icmp .gt 14, 3) := by decide +kernel
theorem dX6_odds_28 : decode cX6_odds 28 = .ok (.iload 4, 2) := by decide +kernel
theorem dX6_odds_30 : decode cX6_odds 30 = .ok (.ifCond .lt 9, 3) := by decide +kernel
theorem dX6_odds_33 : decode cX6_odds 33 = .ok (.iload 4, 2) := by decide +kernel
theorem dX6_odds_35 : decode cX6_odds 35 = .ok (.iconst 1, 1) := by decide +kernel
theorem dX6_odds_36 : decode cX6_odds 36 = .ok (.if_icmp .le 7, 3) := by decide +kernel
theorem dX6_odds_39 : decode cX6_odds 39 = .ok (.ldc2_w 205, 3) := by decide +kernel
theorem dX6_odds_42 : decode cX6_odds 42 = .ok (.lreturn, 1) := by decide +kernel
theorem dX6_odds_43 : decode cX6_odds 43 = .ok (.aload_n 0, 1) := by decide +kernel
theorem dX6_odds_44 : decode cX6_odds 44 = .ok (.getfield 33, 3) := by decide +kernel
theorem dX6_odds_47 : decode cX6_odds 47 = .ok (.aload_n 0, 1) := by decide +kernel
theorem dX6_odds_48 : decode cX6_odds 48 = .ok (.getfield 26, 3) := by decide +kernel
theorem dX6_odds_51 : decode cX6_odds 51 = .ok (.iload_n 1, 1) := by decide +kernel
theorem dX6_odds_52 : decode cX6_odds 52 = .ok (.iload_n 2, 1) := by decide +kernel
theorem dX6_odds_53 : decode cX6_odds 53 = .ok (.iload_n 3, 1) := by decide +kernel
theorem dX6_odds_54 : decode cX6_odds 54 = .ok (.iload 4, 2) := by decide +kernel
theorem dX6_odds_56 : decode cX6_odds 56 = .ok (.invokevirtual 237, 3) := by decide +kernel
theorem dX6_odds_59 : decode cX6_odds 59 = .ok (.lreturn, 1) := by decide +kernel
theorem dX6_count_0 : decode cX6_count 0 = .ok (.iload_n 1, 1) := by decide +kernel
theorem dX6_count_1 : decode cX6_count 1 = .ok (.tableswitch 88 0 7 #[47, 47, 47, 47, 59, 67, 72, 80], 47) := by decide +kernel
theorem dX6_count_48 : decode cX6_count 48 = .ok (.aload_n 0, 1) := by decide +kernel
theorem dX6_count_49 : decode cX6_count 49 = .ok (.getfield 44, 3) := by decide +kernel
theorem dX6_count_52 : decode cX6_count 52 = .ok (.iload_n 1, 1) := by decide +kernel
theorem dX6_count_53 : decode cX6_count 53 = .ok (.invokevirtual 161, 3) := by decide +kernel
theorem dX6_count_56 : decode cX6_count 56 = .ok (.invokestatic 164, 3) := by decide +kernel
theorem dX6_count_59 : decode cX6_count 59 = .ok (.ireturn, 1) := by decide +kernel
theorem dX6_count_60 : decode cX6_count 60 = .ok (.aload_n 0, 1) := by decide +kernel
theorem dX6_count_61 : decode cX6_count 61 = .ok (.getfield 26, 3) := by decide +kernel
theorem dX6_count_64 : decode cX6_count 64 = .ok (.invokevirtual 241, 3) := by decide +kernel
theorem dX6_count_67 : decode cX6_count 67 = .ok (.ireturn, 1) := by decide +kernel
theorem dX6_count_68 : decode cX6_count 68 = .ok (.aload_n 0, 1) := by decide +kernel
theorem dX6_count_69 : decode cX6_count 69 = .ok (.invokevirtual 244, 3) := by decide +kernel
theorem dX6_count_72 : decode cX6_count 72 = .ok (.ireturn, 1) := by decide +kernel
theorem dX6_count_73 : decode cX6_count 73 = .ok (.aload_n 0, 1) := by decide +kernel
theorem dX6_count_74 : decode cX6_count 74 = .ok (.getfield 26, 3) := by decide +kernel
theorem dX6_count_77 : decode cX6_count 77 = .ok (.invokevirtual 247, 3) := by decide +kernel
theorem dX6_count_80 : decode cX6_count 80 = .ok (.ireturn, 1) := by decide +kernel
theorem dX6_count_81 : decode cX6_count 81 = .ok (.aload_n 0, 1) := by decide +kernel
theorem dX6_count_82 : decode cX6_count 82 = .ok (.getfield 12, 3) := by decide +kernel
theorem dX6_count_85 : decode cX6_count 85 = .ok (.invokevirtual 250, 3) := by decide +kernel
theorem dX6_count_88 : decode cX6_count 88 = .ok (.ireturn, 1) := by decide +kernel
theorem dX6_count_89 : decode cX6_count 89 = .ok (.bipush (-3), 2) := by decide +kernel
theorem dX6_count_91 : decode cX6_count 91 = .ok (.ireturn, 1) := by decide +kernel
theorem dX6_taxOfAll_0 : decode cX6_taxOfAll 0 = .ok (.iconst 0, 1) := by decide +kernel
theorem dX6_taxOfAll_1 : decode cX6_taxOfAll 1 = .ok (.istore_n 1, 1) := by decide +kernel
theorem dX6_taxOfAll_2 : decode cX6_taxOfAll 2 = .ok (.iconst 0, 1) := by decide +kernel
theorem dX6_taxOfAll_3 : decode cX6_taxOfAll 3 = .ok (.istore_n 2, 1) := by decide +kernel
theorem dX6_taxOfAll_4 : decode cX6_taxOfAll 4 = .ok (.iload_n 2, 1) := by decide +kernel
theorem dX6_taxOfAll_5 : decode cX6_taxOfAll 5 = .ok (.bipush 12, 2) := by decide +kernel
theorem dX6_taxOfAll_7 : decode cX6_taxOfAll 7 = .ok (.if_icmp .ge 17, 3) := by decide +kernel
theorem dX6_taxOfAll_10 : decode cX6_taxOfAll 10 = .ok (.iload_n 1, 1) := by decide +kernel
theorem dX6_taxOfAll_11 : decode cX6_taxOfAll 11 = .ok (.aload_n 0, 1) := by decide +kernel
theorem dX6_taxOfAll_12 : decode cX6_taxOfAll 12 = .ok (.iload_n 2, 1) := by decide +kernel
theorem dX6_taxOfAll_13 : decode cX6_taxOfAll 13 = .ok (.invokevirtual 143, 3) := by decide +kernel
theorem dX6_taxOfAll_16 : decode cX6_taxOfAll 16 = .ok (.iadd, 1) := by decide +kernel
theorem dX6_taxOfAll_17 : decode cX6_taxOfAll 17 = .ok (.istore_n 1, 1) := by decide +kernel
theorem dX6_taxOfAll_18 : decode cX6_taxOfAll 18 = .ok (.iinc 2 1, 3) := by decide +kernel
theorem dX6_taxOfAll_21 : decode cX6_taxOfAll 21 = .ok (.goto (-17), 3) := by decide +kernel
theorem dX6_taxOfAll_24 : decode cX6_taxOfAll 24 = .ok (.iload_n 1, 1) := by decide +kernel
theorem dX6_taxOfAll_25 : decode cX6_taxOfAll 25 = .ok (.ireturn, 1) := by decide +kernel
theorem dX7_init_0 : decode cX7_init 0 = .ok (.aload_n 0, 1) := by decide +kernel
theorem dX7_init_1 : decode cX7_init 1 = .ok (.invokespecial 1, 3) := by decide +kernel
theorem dX7_init_4 : decode cX7_init 4 = .ok (.aload_n 0, 1) := by decide +kernel
theorem dX7_init_5 : decode cX7_init 5 = .ok (.bipush 60, 2) := by decide +kernel
theorem dX7_init_7 : decode cX7_init 7 = .ok (.newarray .int, 2) := by decide +kernel
theorem dX7_init_9 : decode cX7_init 9 = .ok (.putfield 7, 3) := by decide +kernel
theorem dX7_init_12 : decode cX7_init 12 = .ok (.aload_n 0, 1) := by decide +kernel
theorem dX7_init_13 : decode cX7_init 13 = .ok (.bipush 60, 2) := by decide +kernel
theorem dX7_init_15 : decode cX7_init 15 = .ok (.newarray .boolean, 2) := by decide +kernel
theorem dX7_init_17 : decode cX7_init 17 = .ok (.putfield 13, 3) := by decide +kernel
theorem dX7_init_20 : decode cX7_init 20 = .ok (.aload_n 0, 1) := by decide +kernel
theorem dX7_init_21 : decode cX7_init 21 = .ok (.bipush 12, 2) := by decide +kernel
theorem dX7_init_23 : decode cX7_init 23 = .ok (.newarray .int, 2) := by decide +kernel
theorem dX7_init_25 : decode cX7_init 25 = .ok (.putfield 17, 3) := by decide +kernel
theorem dX7_init_28 : decode cX7_init 28 = .ok (.aload_n 0, 1) := by decide +kernel
theorem dX7_init_29 : decode cX7_init 29 = .ok (.bipush 12, 2) := by decide +kernel
theorem dX7_init_31 : decode cX7_init 31 = .ok (.newarray .int, 2) := by decide +kernel
theorem dX7_init_33 : decode cX7_init 33 = .ok (.putfield 20, 3) := by decide +kernel
theorem dX7_init_36 : decode cX7_init 36 = .ok (.aload_n 0, 1) := by decide +kernel
theorem dX7_init_37 : decode cX7_init 37 = .ok (.sipush 200, 3) := by decide +kernel
theorem dX7_init_40 : decode cX7_init 40 = .ok (.newarray .int, 2) := by decide +kernel
theorem dX7_init_42 : decode cX7_init 42 = .ok (.putfield 23, 3) := by decide +kernel
theorem dX7_init_45 : decode cX7_init 45 = .ok (.aload_n 0, 1) := by decide +kernel
theorem dX7_init_46 : decode cX7_init 46 = .ok (.bipush 36, 2) := by decide +kernel
theorem dX7_init_48 : decode cX7_init 48 = .ok (.newarray .int, 2) := by decide +kernel
theorem dX7_init_50 : decode cX7_init 50 = .ok (.putfield 26, 3) := by decide +kernel
theorem dX7_init_53 : decode cX7_init 53 = .ok (.aload_n 0, 1) := by decide +kernel
theorem dX7_init_54 : decode cX7_init 54 = .ok (.bipush 30, 2) := by decide +kernel
theorem dX7_init_56 : decode cX7_init 56 = .ok (.newarray .int, 2) := by decide +kernel
theorem dX7_init_58 : decode cX7_init 58 = .ok (.putfield 29, 3) := by decide +kernel
theorem dX7_init_61 : decode cX7_init 61 = .ok (.aload_n 0, 1) := by decide +kernel
theorem dX7_init_62 : decode cX7_init 62 = .ok (.iconst 2, 1) := by decide +kernel
theorem dX7_init_63 : decode cX7_init 63 = .ok (.newarray .boolean, 2) := by decide +kernel
theorem dX7_init_65 : decode cX7_init 65 = .ok (.putfield 32, 3) := by decide +kernel
theorem dX7_init_68 : decode cX7_init 68 = .ok (.aload_n 0, 1) := by decide +kernel
theorem dX7_init_69 : decode cX7_init 69 = .ok (.bipush 12, 2) := by decide +kernel
theorem dX7_init_71 : decode cX7_init 71 = .ok (.newarray .int, 2) := by decide +kernel
theorem dX7_init_73 : decode cX7_init 73 = .ok (.putfield 35, 3) := by decide +kernel
theorem dX7_init_76 : decode cX7_init 76 = .ok (.aload_n 0, 1) := by decide +kernel
theorem dX7_init_77 : decode cX7_init 77 = .ok (.bipush 12, 2) := by decide +kernel
theorem dX7_init_79 : decode cX7_init 79 = .ok (.newarray .int, 2) := by decide +kernel
theorem dX7_init_81 : decode cX7_init 81 = .ok (.putfield 38, 3) := by decide +kernel
theorem dX7_init_84 : decode cX7_init 84 = .ok (.aload_n 0, 1) := by decide +kernel
theorem dX7_init_85 : decode cX7_init 85 = .ok (.bipush 12, 2) := by decide +kernel
theorem dX7_init_87 : decode cX7_init 87 = .ok (.newarray .int, 2) := by decide +kernel
theorem dX7_init_89 : decode cX7_init 89 = .ok (.putfield 41, 3) := by decide +kernel
theorem dX7_init_92 : decode cX7_init 92 = .ok (.aload_n 0, 1) := by decide +kernel
theorem dX7_init_93 : decode cX7_init 93 = .ok (.bipush 12, 2) := by decide +kernel
theorem dX7_init_95 : decode cX7_init 95 = .ok (.newarray .long, 2) := by decide +kernel
theorem dX7_init_97 : decode cX7_init 97 = .ok (.putfield 44, 3) := by decide +kernel
theorem dX7_init_100 : decode cX7_init 100 = .ok (.aload_n 0, 1) := by decide +kernel
theorem dX7_init_101 : decode cX7_init 101 = .ok (.bipush 12, 2) := by decide +kernel
theorem dX7_init_103 : decode cX7_init 103 = .ok (.newarray .long, 2) := by decide +kernel
theorem dX7_init_105 : decode cX7_init 105 = .ok (.putfield 48, 3) := by decide +kernel
theorem dX7_init_108 : decode cX7_init 108 = .ok (.aload_n 0, 1) := by decide +kernel
theorem dX7_init_109 : decode cX7_init 109 = .ok (.bipush 12, 2) := by decide +kernel
theorem dX7_init_111 : decode cX7_init 111 = .ok (.newarray .int, 2) := by decide +kernel
theorem dX7_init_113 : decode cX7_init 113 = .ok (.putfield 51, 3) := by decide +kernel
theorem dX7_init_116 : decode cX7_init 116 = .ok (.aload_n 0, 1) := by decide +kernel
theorem dX7_init_117 : decode cX7_init 117 = .ok (.iconst 0, 1) := by decide +kernel
theorem dX7_init_118 : decode cX7_init 118 = .ok (.ldc 54, 2) := by decide +kernel
theorem dX7_init_120 : decode cX7_init 120 = .ok (.invokevirtual 55, 3) := by decide +kernel
theorem dX7_init_123 : decode cX7_init 123 = .ok (.aload_n 0, 1) := by decide +kernel
theorem dX7_init_124 : decode cX7_init 124 = .ok (.iconst 1, 1) := by decide +kernel
theorem dX7_init_125 : decode cX7_init 125 = .ok (.sipush 23138, 3) := by decide +kernel
theorem dX7_init_128 : decode cX7_init 128 = .ok (.invokevirtual 55, 3) := by decide +kernel
theorem dX7_init_131 : decode cX7_init 131 = .ok (.aload_n 0, 1) := by decide +kernel
theorem dX7_init_132 : decode cX7_init 132 = .ok (.iconst 2, 1) := by decide +kernel
theorem dX7_init_133 : decode cX7_init 133 = .ok (.sipush 5747, 3) := by decide +kernel
theorem dX7_init_136 : decode cX7_init 136 = .ok (.invokevirtual 55, 3) := by decide +kernel
theorem dX7_init_139 : decode cX7_init 139 = .ok (.aload_n 0, 1) := by decide +kernel
theorem dX7_init_140 : decode cX7_init 140 = .ok (.iconst 3, 1) := by decide +kernel
theorem dX7_init_141 : decode cX7_init 141 = .ok (.sipush 10116, 3) := by decide +kernel
theorem dX7_init_144 : decode cX7_init 144 = .ok (.invokevirtual 55, 3) := by decide +kernel
theorem dX7_init_147 : decode cX7_init 147 = .ok (.aload_n 0, 1) := by decide +kernel
theorem dX7_init_148 : decode cX7_init 148 = .ok (.iconst 4, 1) := by decide +kernel
theorem dX7_init_149 : decode cX7_init 149 = .ok (.sipush 14485, 3) := by decide +kernel
theorem dX7_init_152 : decode cX7_init 152 = .ok (.invokevirtual 55, 3) := by decide +kernel
theorem dX7_init_155 : decode cX7_init 155 = .ok (.aload_n 0, 1) := by decide +kernel
theorem dX7_init_156 : decode cX7_init 156 = .ok (.iconst 5, 1) := by decide +kernel
theorem dX7_init_157 : decode cX7_init 157 = .ok (.sipush 18849, 3) := by decide +kernel
theorem dX7_init_160 : decode cX7_init 160 = .ok (.invokevirtual 55, 3) := by decide +kernel
theorem dX7_init_163 : decode cX7_init 163 = .ok (.aload_n 0, 1) := by decide +kernel
theorem dX7_init_164 : decode cX7_init 164 = .ok (.bipush 6, 2) := by decide +kernel
theorem dX7_init_166 : decode cX7_init 166 = .ok (.ldc 59, 2) := by decide +kernel
theorem dX7_init_168 : decode cX7_init 168 = .ok (.invokevirtual 55, 3) := by decide +kernel
theorem dX7_init_171 : decode cX7_init 171 = .ok (.aload_n 0, 1) := by decide +kernel
theorem dX7_init_172 : decode cX7_init 172 = .ok (.bipush 7, 2) := by decide +kernel
theorem dX7_init_174 : decode cX7_init 174 = .ok (.ldc 60, 2) := by decide +kernel
theorem dX7_init_176 : decode cX7_init 176 = .ok (.invokevirtual 55, 3) := by decide +kernel
theorem dX7_init_179 : decode cX7_init 179 = .ok (.aload_n 0, 1) := by decide +kernel
theorem dX7_init_180 : decode cX7_init 180 = .ok (.bipush 8, 2) := by decide +kernel
theorem dX7_init_182 : decode cX7_init 182 = .ok (.ldc 61, 2) := by decide +kernel
theorem dX7_init_184 : decode cX7_init 184 = .ok (.invokevirtual 55, 3) := by decide +kernel
theorem dX7_init_187 : decode cX7_init 187 = .ok (.aload_n 0, 1) := by decide +kernel
theorem dX7_init_188 : decode cX7_init 188 = .ok (.bipush 9, 2) := by decide +kernel
theorem dX7_init_190 : decode cX7_init 190 = .ok (.ldc 62, 2) := by decide +kernel
theorem dX7_init_192 : decode cX7_init 192 = .ok (.invokevirtual 55, 3) := by decide +kernel
theorem dX7_init_195 : decode cX7_init 195 = .ok (.aload_n 0, 1) := by decide +kernel
theorem dX7_init_196 : decode cX7_init 196 = .ok (.bipush 10, 2) := by decide +kernel
theorem dX7_init_198 : decode cX7_init 198 = .ok (.ldc 63, 2) := by decide +kernel
theorem dX7_init_200 : decode cX7_init 200 = .ok (.invokevirtual 55, 3) := by decide +kernel
theorem dX7_init_203 : decode cX7_init 203 = .ok (.aload_n 0, 1) := by decide +kernel
theorem dX7_init_204 : decode cX7_init 204 = .ok (.bipush 11, 2) := by decide +kernel
theorem dX7_init_206 : decode cX7_init 206 = .ok (.ldc 64, 2) := by decide +kernel
theorem dX7_init_208 : decode cX7_init 208 = .ok (.invokevirtual 55, 3) := by decide +kernel
theorem dX7_init_211 : decode cX7_init 211 = .ok (.return_, 1) := by decide +kernel
theorem dX7_lay_0 : decode cX7_lay 0 = .ok (.iconst 0, 1) := by decide +kernel
theorem dX7_lay_1 : decode cX7_lay 1 = .ok (.istore_n 3, 1) := by decide +kernel
theorem dX7_lay_2 : decode cX7_lay 2 = .ok (.iload_n 3, 1) := by decide +kernel
theorem dX7_lay_3 : decode cX7_lay 3 = .ok (.iconst 5, 1) := by decide +kernel
theorem dX7_lay_4 : decode cX7_lay 4 = .ok (.if_icmp .ge 29, 3) := by decide +kernel
theorem dX7_lay_7 : decode cX7_lay 7 = .ok (.aload_n 0, 1) := by decide +kernel
theorem dX7_lay_8 : decode cX7_lay 8 = .ok (.getfield 7, 3) := by decide +kernel
theorem dX7_lay_11 : decode cX7_lay 11 = .ok (.iconst 5, 1) := by decide +kernel
theorem dX7_lay_12 : decode cX7_lay 12 = .ok (.iload_n 1, 1) := by decide +kernel
theorem dX7_lay_13 : decode cX7_lay 13 = .ok (.imul, 1) := by decide +kernel
theorem dX7_lay_14 : decode cX7_lay 14 = .ok (.iload_n 3, 1) := by decide +kernel
theorem dX7_lay_15 : decode cX7_lay 15 = .ok (.iadd, 1) := by decide +kernel
theorem dX7_lay_16 : decode cX7_lay 16 = .ok (.iload_n 2, 1) := by decide +kernel
theorem dX7_lay_17 : decode cX7_lay 17 = .ok (.iconst 4, 1) := by decide +kernel
theorem dX7_lay_18 : decode cX7_lay 18 = .ok (.iconst 4, 1) := by decide +kernel
theorem dX7_lay_19 : decode cX7_lay 19 = .ok (.iload_n 3, 1) := by decide +kernel
theorem dX7_lay_20 : decode cX7_lay 20 = .ok (.isub, 1) := by decide +kernel
theorem dX7_lay_21 : decode cX7_lay 21 = .ok (.imul, 1) := by decide +kernel
theorem dX7_lay_22 : decode cX7_lay 22 = .ok (.ishr, 1) := by decide +kernel
theorem dX7_lay_23 : decode cX7_lay 23 = .ok (.bipush 15, 2) := by decide +kernel
theorem dX7_lay_25 : decode cX7_lay 25 = .ok (.iand, 1) := by decide +kernel
theorem dX7_lay_26 : decode cX7_lay 26 = .ok (.iastore, 1) := by decide +kernel
theorem dX7_lay_27 : decode cX7_lay 27 = .ok (.iinc 3 1, 3) := by decide +kernel
theorem dX7_lay_30 : decode cX7_lay 30 = .ok (.goto (-28), 3) := by decide +kernel
theorem dX7_lay_33 : decode cX7_lay 33 = .ok (.return_, 1) := by decide +kernel
theorem dX7_in_0 : decode cX7_in 0 = .ok (.iload_n 0, 1) := by decide +kernel
theorem dX7_in_1 : decode cX7_in 1 = .ok (.iload_n 1, 1) := by decide +kernel
theorem dX7_in_2 : decode cX7_in 2 = .ok (.if_icmp .lt 12, 3) := by decide +kernel
theorem dX7_in_5 : decode cX7_in 5 = .ok (.iload_n 0, 1) := by decide +kernel
theorem dX7_in_6 : decode cX7_in 6 = .ok (.iload_n 2, 1) := by decide +kernel
theorem dX7_in_7 : decode cX7_in 7 = .ok (.if_icmp .gt 7, 3) := by decide +kernel
theorem dX7_in_10 : decode cX7_in 10 = .ok (.iconst 1, 1) := by decide +kernel
theorem dX7_in_11 : decode cX7_in 11 = .ok (.goto 4, 3) := by decide +kernel
theorem dX7_in_14 : decode cX7_in 14 = .ok (.iconst 0, 1) := by decide +kernel
theorem dX7_in_15 : decode cX7_in 15 = .ok (.ireturn, 1) := by decide +kernel
theorem dX7_has_0 : decode cX7_has 0 = .ok (.iload_n 0, 1) := by decide +kernel
theorem dX7_has_1 : decode cX7_has 1 = .ok (.iload_n 1, 1) := by decide +kernel
theorem dX7_has_2 : decode cX7_has 2 = .ok (.ishr, 1) := by decide +kernel
theorem dX7_has_3 : decode cX7_has 3 = .ok (.iconst 1, 1) := by decide +kernel
theorem dX7_has_4 : decode cX7_has 4 = .ok (.iand, 1) := by decide +kernel
theorem dX7_has_5 : decode cX7_has 5 = .ok (.iconst 1, 1) := by decide +kernel
theorem dX7_has_6 : decode cX7_has 6 = .ok (.if_icmp .ne 7, 3) := by decide +kernel
theorem dX7_has_9 : decode cX7_has 9 = .ok (.iconst 1, 1) := by decide +kernel
theorem dX7_has_10 : decode cX7_has 10 = .ok (.goto 4, 3) := by decide +kernel
theorem dX7_has_13 : decode cX7_has 13 = .ok (.iconst 0, 1) := by decide +kernel
theorem dX7_has_14 : decode cX7_has 14 = .ok (.ireturn, 1) := by decide +kernel
theorem dX7_isField_0 : decode cX7_isField 0 = .ok (.iload_n 0, 1) := by decide +kernel
theorem dX7_isField_1 : decode cX7_isField 1 = .ok (.iconst 0, 1) := by decide +kernel
theorem dX7_isField_2 : decode cX7_isField 2 = .ok (.bipush 11, 2) := by decide +kernel
theorem dX7_isField_4 : decode cX7_isField 4 = .ok (.invokestatic 65, 3) := by decide +kernel
theorem dX7_isField_7 : decode cX7_isField 7 = .ok (.ireturn, 1) := by decide +kernel
theorem dX7_isSide_0 : decode cX7_isSide 0 = .ok (.iload_n 0, 1) := by decide +kernel
theorem dX7_isSide_1 : decode cX7_isSide 1 = .ok (.iconst 0, 1) := by decide +kernel
theorem dX7_isSide_2 : decode cX7_isSide 2 = .ok (.iconst 4, 1) := by decide +kernel
theorem dX7_isSide_3 : decode cX7_isSide 3 = .ok (.invokestatic 65, 3) := by decide +kernel
theorem dX7_isSide_6 : decode cX7_isSide 6 = .ok (.ireturn, 1) := by decide +kernel
theorem dX7_sideOf_0 : decode cX7_sideOf 0 = .ok (.iconst 0, 1) := by decide +kernel
theorem dX7_sideOf_1 : decode cX7_sideOf 1 = .ok (.istore_n 3, 1) := by decide +kernel
theorem dX7_sideOf_2 : decode cX7_sideOf 2 = .ok (.iload_n 3, 1) := by decide +kernel
theorem dX7_sideOf_3 : decode cX7_sideOf 3 = .ok (.iconst 5, 1) := by decide +kernel
theorem dX7_sideOf_4 : decode cX7_sideOf 4 = .ok (.if_icmp .ge 25, 3) := by decide +kernel
theorem dX7_sideOf_7 : decode cX7_sideOf 7 = .ok (.aload_n 0, 1) := by decide +kernel
theorem dX7_sideOf_8 : decode cX7_sideOf 8 = .ok (.getfield 7, 3) := by decide +kernel
theorem dX7_sideOf_11 : decode cX7_sideOf 11 = .ok (.iconst 5, 1) := by decide +kernel
theorem dX7_sideOf_12 : decode cX7_sideOf 12 = .ok (.iload_n 1, 1) := by decide +kernel
theorem dX7_sideOf_13 : decode cX7_sideOf 13 = .ok (.imul, 1) := by decide +kernel
theorem dX7_sideOf_14 : decode cX7_sideOf 14 = .ok (.iload_n 3, 1) := by decide +kernel
theorem dX7_sideOf_15 : decode cX7_sideOf 15 = .ok (.iadd, 1) := by decide +kernel
theorem dX7_sideOf_16 : decode cX7_sideOf 16 = .ok (.iaload, 1) := by decide +kernel
theorem dX7_sideOf_17 : decode cX7_sideOf 17 = .ok (.iload_n 2, 1) := by decide +kernel
theorem dX7_sideOf_18 : decode cX7_sideOf 18 = .ok (.if_icmp .ne 5, 3) := by decide +kernel
theorem dX7_sideOf_21 : decode cX7_sideOf 21 = .ok (.iload_n 3, 1) := by decide +kernel
theorem dX7_sideOf_22 : decode cX7_sideOf 22 = .ok (.ireturn, 1) := by decide +kernel
theorem dX7_sideOf_23 : decode cX7_sideOf 23 = .ok (.iinc 3 1, 3) := by decide +kernel
theorem dX7_sideOf_26 : decode cX7_sideOf 26 = .ok (.goto (-24), 3) := by decide +kernel
theorem dX7_sideOf_29 : decode cX7_sideOf 29 = .ok (.iconst (-1), 1) := by decide +kernel
theorem dX7_sideOf_30 : decode cX7_sideOf 30 = .ok (.ireturn, 1) := by decide +kernel
theorem dX7_write_0 : decode cX7_write 0 = .ok (.iload_n 3, 1) := by decide +kernel
theorem dX7_write_1 : decode cX7_write 1 = .ok (.iconst 1, 1) := by decide +kernel
theorem dX7_write_2 : decode cX7_write 2 = .ok (.bipush 8, 2) := by decide +kernel
theorem dX7_write_4 : decode cX7_write 4 = .ok (.invokestatic 65, 3) := by decide +kernel
theorem dX7_write_7 : decode cX7_write 7 = .ok (.ifCond .ne 6, 3) := by decide +kernel
theorem dX7_write_10 : decode cX7_write 10 = .ok (.bipush (-3), 2) := by decide +kernel
theorem dX7_write_12 : decode cX7_write 12 = .ok (.ireturn, 1) := by decide +kernel
theorem dX7_write_13 : decode cX7_write 13 = .ok (.aload_n 0, 1) := by decide +kernel
theorem dX7_write_14 : decode cX7_write 14 = .ok (.getfield 69, 3) := by decide +kernel
theorem dX7_write_17 : decode cX7_write 17 = .ok (.iload_n 3, 1) := by decide +kernel
theorem dX7_write_18 : decode cX7_write 18 = .ok (.iadd, 1) := by decide +kernel
theorem dX7_write_19 : decode cX7_write 19 = .ok (.sipush 200, 3) := by decide +kernel
theorem dX7_write_22 : decode cX7_write 22 = .ok (.if_icmp .le 6, 3) := by decide +kernel
theorem dX7_write_25 : decode cX7_write 25 = .ok (.bipush (-5), 2) := by decide +kernel
theorem dX7_write_27 : decode cX7_write 27 = .ok (.ireturn, 1) := by decide +kernel
theorem dX7_write_28 : decode cX7_write 28 = .ok (.iconst 0, 1) := by decide +kernel
theorem dX7_write_29 : decode cX7_write 29 = .ok (.istore 4, 2) := by decide +kernel
theorem dX7_write_31 : decode cX7_write 31 = .ok (.iload 4, 2) := by decide +kernel
theorem dX7_write_33 : decode cX7_write 33 = .ok (.iload_n 3, 1) := by decide +kernel
theorem dX7_write_34 : decode cX7_write 34 = .ok (.if_icmp .ge 33, 3) := by decide +kernel
theorem dX7_write_37 : decode cX7_write 37 = .ok (.aload_n 0, 1) := by decide +kernel
theorem dX7_write_38 : decode cX7_write 38 = .ok (.getfield 23, 3) := by decide +kernel
theorem dX7_write_41 : decode cX7_write 41 = .ok (.aload_n 0, 1) := by decide +kernel
theorem dX7_write_42 : decode cX7_write 42 = .ok (.getfield 69, 3) := by decide +kernel
theorem dX7_write_45 : decode cX7_write 45 = .ok (.iload 4, 2) := by decide +kernel
theorem dX7_write_47 : decode cX7_write 47 = .ok (.iadd, 1) := by decide +kernel
theorem dX7_write_48 : decode cX7_write 48 = .ok (.lload_n 1, 1) := by decide +kernel
theorem dX7_write_49 : decode cX7_write 49 = .ok (.bipush 8, 2) := by decide +kernel
theorem dX7_write_51 : decode cX7_write 51 = .ok (.iload 4, 2) := by decide +kernel
theorem dX7_write_53 : decode cX7_write 53 = .ok (.imul, 1) := by decide +kernel
theorem dX7_write_54 : decode cX7_write 54 = .ok (.lshr, 1) := by decide +kernel
theorem dX7_write_55 : decode cX7_write 55 = .ok (.ldc2_w 73, 3) := by decide +kernel
theorem dX7_write_58 : decode cX7_write 58 = .ok (.land, 1) := by decide +kernel
theorem dX7_write_59 : decode cX7_write 59 = .ok (.l2i, 1) := by decide +kernel
theorem dX7_write_60 : decode cX7_write 60 = .ok (.iastore, 1) := by decide +kernel
theorem dX7_write_61 : decode cX7_write 61 = .ok (.iinc 4 1, 3) := by decide +kernel
theorem dX7_write_64 : decode cX7_write 64 = .ok (.goto (-33), 3) := by decide +kernel
theorem dX7_write_67 : decode cX7_write 67 = .ok (.aload_n 0, 1) := by decide +kernel
theorem dX7_write_68 : decode cX7_write 68 = .ok (.dup, 1) := by decide +kernel
theorem dX7_write_69 : decode cX7_write 69 = .ok (.getfield 69, 3) := by decide +kernel
theorem dX7_write_72 : decode cX7_write 72 = .ok (.iload_n 3, 1) := by decide +kernel
theorem dX7_write_73 : decode cX7_write 73 = .ok (.iadd, 1) := by decide +kernel
theorem dX7_write_74 : decode cX7_write 74 = .ok (.putfield 69, 3) := by decide +kernel
theorem dX7_write_77 : decode cX7_write 77 = .ok (.aload_n 0, 1) := by decide +kernel
theorem dX7_write_78 : decode cX7_write 78 = .ok (.getfield 69, 3) := by decide +kernel
theorem dX7_write_81 : decode cX7_write 81 = .ok (.ireturn, 1) := by decide +kernel
theorem dX7_erase_0 : decode cX7_erase 0 = .ok (.aload_n 0, 1) := by decide +kernel
theorem dX7_erase_1 : decode cX7_erase 1 = .ok (.getfield 69, 3) := by decide +kernel
theorem dX7_erase_4 : decode cX7_erase 4 = .ok (.istore_n 1, 1) := by decide +kernel
theorem dX7_erase_5 : decode cX7_erase 5 = .ok (.aload_n 0, 1) := by decide +kernel
theorem dX7_erase_6 : decode cX7_erase 6 = .ok (.iconst 0, 1) := by decide +kernel
theorem dX7_erase_7 : decode cX7_erase 7 = .ok (.putfield 69, 3) := by decide +kernel
theorem dX7_erase_10 : decode cX7_erase 10 = .ok (.iload_n 1, 1) := by decide +kernel
theorem dX7_erase_11 : decode cX7_erase 11 = .ok (.ireturn, 1) := by decide +kernel
theorem dX7_nextToken_0 : decode cX7_nextToken 0 = .ok (.aload_n 0, 1) := by decide +kernel
theorem dX7_nextToken_1 : decode cX7_nextToken 1 = .ok (.getfield 75, 3) := by decide +kernel
theorem dX7_nextToken_4 : decode cX7_nextToken 4 = .ok (.aload_n 0, 1) := by decide +kernel
theorem dX7_nextToken_5 : decode cX7_nextToken 5 = .ok (.getfield 69, 3) := by decide +kernel
theorem dX7_nextToken_8 : decode cX7_nextToken 8 = .ok (.if_icmp .ge 30, 3) := by decide +kernel
theorem dX7_nextToken_11 : decode cX7_nextToken 11 = .ok (.aload_n 0, 1) := by decide +kernel
theorem dX7_nextToken_12 : decode cX7_nextToken 12 = .ok (.getfield 23, 3) := by decide +kernel
theorem dX7_nextToken_15 : decode cX7_nextToken 15 = .ok (.aload_n 0, 1) := by decide +kernel
theorem dX7_nextToken_16 : decode cX7_nextToken 16 = .ok (.getfield 75, 3) := by decide +kernel
theorem dX7_nextToken_19 : decode cX7_nextToken 19 = .ok (.iaload, 1) := by decide +kernel
theorem dX7_nextToken_20 : decode cX7_nextToken 20 = .ok (.bipush 32, 2) := by decide +kernel
theorem dX7_nextToken_22 : decode cX7_nextToken 22 = .ok (.if_icmp .ne 16, 3) := by decide +kernel
theorem dX7_nextToken_25 : decode cX7_nextToken 25 = .ok (.aload_n 0, 1) := by decide +kernel
theorem dX7_nextToken_26 : decode cX7_nextToken 26 = .ok (.dup, 1) := by decide +kernel
theorem dX7_nextToken_27 : decode cX7_nextToken 27 = .ok (.getfield 75, 3) := by decide +kernel
theorem dX7_nextToken_30 : decode cX7_nextToken 30 = .ok (.iconst 1, 1) := by decide +kernel
theorem dX7_nextToken_31 : decode cX7_nextToken 31 = .ok (.iadd, 1) := by decide +kernel
theorem dX7_nextToken_32 : decode cX7_nextToken 32 = .ok (.putfield 75, 3) := by decide +kernel
theorem dX7_nextToken_35 : decode cX7_nextToken 35 = .ok (.goto (-35), 3) := by decide +kernel
theorem dX7_nextToken_38 : decode cX7_nextToken 38 = .ok (.aload_n 0, 1) := by decide +kernel
theorem dX7_nextToken_39 : decode cX7_nextToken 39 = .ok (.aload_n 0, 1) := by decide +kernel
theorem dX7_nextToken_40 : decode cX7_nextToken 40 = .ok (.getfield 75, 3) := by decide +kernel
theorem dX7_nextToken_43 : decode cX7_nextToken 43 = .ok (.putfield 78, 3) := by decide +kernel
theorem dX7_nextToken_46 : decode cX7_nextToken 46 = .ok (.aload_n 0, 1) := by decide +kernel
theorem dX7_nextToken_47 : decode cX7_nextToken 47 = .ok (.iconst 0, 1) := by decide +kernel
theorem dX7_nextToken_48 : decode cX7_nextToken 48 = .ok (.putfield 81, 3) := by decide +kernel
theorem dX7_nextToken_51 : decode cX7_nextToken 51 = .ok (.aload_n 0, 1) := by decide +kernel
theorem dX7_nextToken_52 : decode cX7_nextToken 52 = .ok (.iconst 0, 1) := by decide +kernel
theorem dX7_nextToken_53 : decode cX7_nextToken 53 = .ok (.putfield 84, 3) := by decide +kernel
theorem dX7_nextToken_56 : decode cX7_nextToken 56 = .ok (.aload_n 0, 1) := by decide +kernel
theorem dX7_nextToken_57 : decode cX7_nextToken 57 = .ok (.getfield 75, 3) := by decide +kernel
theorem dX7_nextToken_60 : decode cX7_nextToken 60 = .ok (.aload_n 0, 1) := by decide +kernel
theorem dX7_nextToken_61 : decode cX7_nextToken 61 = .ok (.getfield 69, 3) := by decide +kernel
theorem dX7_nextToken_64 : decode cX7_nextToken 64 = .ok (.if_icmp .ne 13, 3) := by decide +kernel
theorem dX7_nextToken_67 : decode cX7_nextToken 67 = .ok (.aload_n 0, 1) := by decide +kernel
theorem dX7_nextToken_68 : decode cX7_nextToken 68 = .ok (.ldc2_w 87, 3) := by decide +kernel
theorem dX7_nextToken_71 : decode cX7_nextToken 71 = .ok (.putfield 89, 3) := by decide +kernel
theorem dX7_nextToken_74 : decode cX7_nextToken 74 = .ok (.goto 320, 3) := by decide +kernel
theorem dX7_nextToken_77 : decode cX7_nextToken 77 = .ok (.aload_n 0, 1) := by decide +kernel
theorem dX7_nextToken_78 : decode cX7_nextToken 78 = .ok (.getfield 23, 3) := by decide +kernel
theorem dX7_nextToken_81 : decode cX7_nextToken 81 = .ok (.aload_n 0, 1) := by decide +kernel
theorem dX7_nextToken_82 : decode cX7_nextToken 82 = .ok (.getfield 75, 3) := by decide +kernel
theorem dX7_nextToken_85 : decode cX7_nextToken 85 = .ok (.iaload, 1) := by decide +kernel
theorem dX7_nextToken_86 : decode cX7_nextToken 86 = .ok (.bipush 97, 2) := by decide +kernel
theorem dX7_nextToken_88 : decode cX7_nextToken 88 = .ok (.bipush 122, 2) := by decide +kernel
theorem dX7_nextToken_90 : decode cX7_nextToken 90 = .ok (.invokestatic 65, 3) := by decide +kernel
theorem dX7_nextToken_93 : decode cX7_nextToken 93 = .ok (.ifCond .eq 129, 3) := by decide +kernel
theorem dX7_nextToken_96 : decode cX7_nextToken 96 = .ok (.aload_n 0, 1) := by decide +kernel
theorem dX7_nextToken_97 : decode cX7_nextToken 97 = .ok (.lconst 0, 1) := by decide +kernel
theorem dX7_nextToken_98 : decode cX7_nextToken 98 = .ok (.putfield 89, 3) := by decide +kernel
theorem dX7_nextToken_101 : decode cX7_nextToken 101 = .ok (.aload_n 0, 1) := by decide +kernel
theorem dX7_nextToken_102 : decode cX7_nextToken 102 = .ok (.getfield 75, 3) := by decide +kernel
theorem dX7_nextToken_105 : decode cX7_nextToken 105 = .ok (.aload_n 0, 1) := by decide +kernel
theorem dX7_nextToken_106 : decode cX7_nextToken 106 = .ok (.getfield 69, 3) := by decide +kernel
theorem dX7_nextToken_109 : decode cX7_nextToken 109 = .ok (.if_icmp .ge 82, 3) := by decide +kernel
theorem dX7_nextToken_112 : decode cX7_nextToken 112 = .ok (.aload_n 0, 1) := by decide +kernel
theorem dX7_nextToken_113 : decode cX7_nextToken 113 = .ok (.getfield 23, 3) := by decide +kernel
theorem dX7_nextToken_116 : decode cX7_nextToken 116 = .ok (.aload_n 0, 1) := by decide +kernel
theorem dX7_nextToken_117 : decode cX7_nextToken 117 = .ok (.getfield 75, 3) := by decide +kernel
theorem dX7_nextToken_120 : decode cX7_nextToken 120 = .ok (.iaload, 1) := by decide +kernel
theorem dX7_nextToken_121 : decode cX7_nextToken 121 = .ok (.bipush 97, 2) := by decide +kernel
theorem dX7_nextToken_123 : decode cX7_nextToken 123 = .ok (.bipush 122, 2) := by decide +kernel
theorem dX7_nextToken_125 : decode cX7_nextToken 125 = .ok (.invokestatic 65, 3) := by decide +kernel
theorem dX7_nextToken_128 : decode cX7_nextToken 128 = .ok (.ifCond .eq 63, 3) := by decide +kernel
theorem dX7_nextToken_131 : decode cX7_nextToken 131 = .ok (.aload_n 0, 1) := by decide +kernel
theorem dX7_nextToken_132 : decode cX7_nextToken 132 = .ok (.aload_n 0, 1) := by decide +kernel
theorem dX7_nextToken_133 : decode cX7_nextToken 133 = .ok (.getfield 75, 3) := by decide +kernel
theorem dX7_nextToken_136 : decode cX7_nextToken 136 = .ok (.aload_n 0, 1) := by decide +kernel
theorem dX7_nextToken_137 : decode cX7_nextToken 137 = .ok (.getfield 78, 3) := by decide +kernel
theorem dX7_nextToken_140 : decode cX7_nextToken 140 = .ok (.isub, 1) := by decide +kernel
theorem dX7_nextToken_141 : decode cX7_nextToken 141 = .ok (.bipush 9, 2) := by decide +kernel
theorem dX7_nextToken_143 : decode cX7_nextToken 143 = .ok (.if_icmp .ge 29, 3) := by decide +kernel
theorem dX7_nextToken_146 : decode cX7_nextToken 146 = .ok (.ldc2_w 93, 3) := by decide +kernel
theorem dX7_nextToken_149 : decode cX7_nextToken 149 = .ok (.aload_n 0, 1) := by decide +kernel
theorem dX7_nextToken_150 : decode cX7_nextToken 150 = .ok (.getfield 89, 3) := by decide +kernel
theorem dX7_nextToken_153 : decode cX7_nextToken 153 = .ok (.lmul, 1) := by decide +kernel
theorem dX7_nextToken_154 : decode cX7_nextToken 154 = .ok (.aload_n 0, 1) := by decide +kernel
theorem dX7_nextToken_155 : decode cX7_nextToken 155 = .ok (.getfield 23, 3) := by decide +kernel
theorem dX7_nextToken_158 : decode cX7_nextToken 158 = .ok (.aload_n 0, 1) := by decide +kernel
theorem dX7_nextToken_159 : decode cX7_nextToken 159 = .ok (.getfield 75, 3) := by decide +kernel
theorem dX7_nextToken_162 : decode cX7_nextToken 162 = .ok (.iaload, 1) := by decide +kernel
theorem dX7_nextToken_163 : decode cX7_nextToken 163 = .ok (.i2l, 1) := by decide +kernel
theorem dX7_nextToken_164 : decode cX7_nextToken 164 = .ok (.ladd, 1) := by decide +kernel
theorem dX7_nextToken_165 : decode cX7_nextToken 165 = .ok (.ldc2_w 95, 3) := by decide +kernel
theorem dX7_nextToken_168 : decode cX7_nextToken 168 = .ok (.lsub, 1) := by decide +kernel
theorem dX7_nextToken_169 : decode cX7_nextToken 169 = .ok (.goto 6, 3) := by decide +kernel
theorem dX7_nextToken_172 : decode cX7_nextToken 172 = .ok (.ldc2_w 97, 3) := by decide +kernel
theorem dX7_nextToken_175 : decode cX7_nextToken 175 = .ok (.putfield 89, 3) := by decide +kernel
