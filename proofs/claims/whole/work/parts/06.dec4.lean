theorem dX7_fixed_41 : decode cX7_fixed 41 = .ok (.lreturn, 1) := by decide +kernel
theorem dX7_unlike_0 : decode cX7_unlike 0 = .ok (.iload_n 1, 1) := by decide +kernel
theorem dX7_unlike_1 : decode cX7_unlike 1 = .ok (.iconst 1, 1) := by decide +kernel
theorem dX7_unlike_2 : decode cX7_unlike 2 = .ok (.bipush 8, 2) := by decide +kernel
theorem dX7_unlike_4 : decode cX7_unlike 4 = .ok (.invokestatic 65, 3) := by decide +kernel
theorem dX7_unlike_7 : decode cX7_unlike 7 = .ok (.ifCond .ne 7, 3) := by decide +kernel
theorem dX7_unlike_10 : decode cX7_unlike 10 = .ok (.ldc2_w 101, 3) := by decide +kernel
theorem dX7_unlike_13 : decode cX7_unlike 13 = .ok (.lreturn, 1) := by decide +kernel
theorem dX7_unlike_14 : decode cX7_unlike 14 = .ok (.lconst 0, 1) := by decide +kernel
theorem dX7_unlike_15 : decode cX7_unlike 15 = .ok (.lstore_n 2, 1) := by decide +kernel
theorem dX7_unlike_16 : decode cX7_unlike 16 = .ok (.iconst 0, 1) := by decide +kernel
theorem dX7_unlike_17 : decode cX7_unlike 17 = .ok (.istore 4, 2) := by decide +kernel
theorem dX7_unlike_19 : decode cX7_unlike 19 = .ok (.iload 4, 2) := by decide +kernel
theorem dX7_unlike_21 : decode cX7_unlike 21 = .ok (.bipush 60, 2) := by decide +kernel
theorem dX7_unlike_23 : decode cX7_unlike 23 = .ok (.if_icmp .ge 25, 3) := by decide +kernel
theorem dX7_unlike_26 : decode cX7_unlike 26 = .ok (.lload_n 2, 1) := by decide +kernel
theorem dX7_unlike_27 : decode cX7_unlike 27 = .ok (.aload_n 0, 1) := by decide +kernel
theorem dX7_unlike_28 : decode cX7_unlike 28 = .ok (.iload 4, 2) := by decide +kernel
theorem dX7_unlike_30 : decode cX7_unlike 30 = .ok (.iconst 5, 1) := by decide +kernel
theorem dX7_unlike_31 : decode cX7_unlike 31 = .ok (.idiv, 1) := by decide +kernel
theorem dX7_unlike_32 : decode cX7_unlike 32 = .ok (.iload 4, 2) := by decide +kernel
theorem dX7_unlike_34 : decode cX7_unlike 34 = .ok (.iconst 5, 1) := by decide +kernel
theorem dX7_unlike_35 : decode cX7_unlike 35 = .ok (.irem, 1) := by decide +kernel
theorem dX7_unlike_36 : decode cX7_unlike 36 = .ok (.iload_n 1, 1) := by decide +kernel
theorem dX7_unlike_37 : decode cX7_unlike 37 = .ok (.invokevirtual 194, 3) := by decide +kernel
theorem dX7_unlike_40 : decode cX7_unlike 40 = .ok (.ladd, 1) := by decide +kernel
theorem dX7_unlike_41 : decode cX7_unlike 41 = .ok (.lstore_n 2, 1) := by decide +kernel
theorem dX7_unlike_42 : decode cX7_unlike 42 = .ok (.iinc 4 1, 3) := by decide +kernel
theorem dX7_unlike_45 : decode cX7_unlike 45 = .ok (.goto (-26), 3) := by decide +kernel
theorem dX7_unlike_48 : decode cX7_unlike 48 = .ok (.lload_n 2, 1) := by decide +kernel
theorem dX7_unlike_49 : decode cX7_unlike 49 = .ok (.ldc2_w 198, 3) := by decide +kernel
theorem dX7_unlike_52 : decode cX7_unlike 52 = .ok (.ldiv, 1) := by decide +kernel
theorem dX7_unlike_53 : decode cX7_unlike 53 = .ok (.lreturn, 1) := by decide +kernel
theorem dX7_bits_0 : decode cX7_bits 0 = .ok (.iconst 0, 1) := by decide +kernel
theorem dX7_bits_1 : decode cX7_bits 1 = .ok (.istore_n 1, 1) := by decide +kernel
theorem dX7_bits_2 : decode cX7_bits 2 = .ok (.iconst 0, 1) := by decide +kernel
theorem dX7_bits_3 : decode cX7_bits 3 = .ok (.istore_n 2, 1) := by decide +kernel
theorem dX7_bits_4 : decode cX7_bits 4 = .ok (.iload_n 2, 1) := by decide +kernel
theorem dX7_bits_5 : decode cX7_bits 5 = .ok (.bipush 12, 2) := by decide +kernel
theorem dX7_bits_7 : decode cX7_bits 7 = .ok (.if_icmp .ge 17, 3) := by decide +kernel
theorem dX7_bits_10 : decode cX7_bits 10 = .ok (.iload_n 1, 1) := by decide +kernel
theorem dX7_bits_11 : decode cX7_bits 11 = .ok (.iload_n 0, 1) := by decide +kernel
theorem dX7_bits_12 : decode cX7_bits 12 = .ok (.iload_n 2, 1) := by decide +kernel
theorem dX7_bits_13 : decode cX7_bits 13 = .ok (.ishr, 1) := by decide +kernel
theorem dX7_bits_14 : decode cX7_bits 14 = .ok (.iconst 1, 1) := by decide +kernel
theorem dX7_bits_15 : decode cX7_bits 15 = .ok (.iand, 1) := by decide +kernel
theorem dX7_bits_16 : decode cX7_bits 16 = .ok (.iadd, 1) := by decide +kernel
theorem dX7_bits_17 : decode cX7_bits 17 = .ok (.istore_n 1, 1) := by decide +kernel
theorem dX7_bits_18 : decode cX7_bits 18 = .ok (.iinc 2 1, 3) := by decide +kernel
theorem dX7_bits_21 : decode cX7_bits 21 = .ok (.goto (-17), 3) := by decide +kernel
theorem dX7_bits_24 : decode cX7_bits 24 = .ok (.iload_n 1, 1) := by decide +kernel
theorem dX7_bits_25 : decode cX7_bits 25 = .ok (.ireturn, 1) := by decide +kernel
theorem dX7_wardens_0 : decode cX7_wardens 0 = .ok (.iload_n 1, 1) := by decide +kernel
theorem dX7_wardens_1 : decode cX7_wardens 1 = .ok (.iconst 0, 1) := by decide +kernel
theorem dX7_wardens_2 : decode cX7_wardens 2 = .ok (.iconst 2, 1) := by decide +kernel
theorem dX7_wardens_3 : decode cX7_wardens 3 = .ok (.invokestatic 65, 3) := by decide +kernel
theorem dX7_wardens_6 : decode cX7_wardens 6 = .ok (.ifCond .ne 6, 3) := by decide +kernel
theorem dX7_wardens_9 : decode cX7_wardens 9 = .ok (.bipush (-3), 2) := by decide +kernel
theorem dX7_wardens_11 : decode cX7_wardens 11 = .ok (.ireturn, 1) := by decide +kernel
theorem dX7_wardens_12 : decode cX7_wardens 12 = .ok (.iconst (-1), 1) := by decide +kernel
theorem dX7_wardens_13 : decode cX7_wardens 13 = .ok (.istore_n 2, 1) := by decide +kernel
theorem dX7_wardens_14 : decode cX7_wardens 14 = .ok (.iconst 0, 1) := by decide +kernel
theorem dX7_wardens_15 : decode cX7_wardens 15 = .ok (.istore_n 3, 1) := by decide +kernel
theorem dX7_wardens_16 : decode cX7_wardens 16 = .ok (.iconst 0, 1) := by decide +kernel
theorem dX7_wardens_17 : decode cX7_wardens 17 = .ok (.istore 4, 2) := by decide +kernel
theorem dX7_wardens_19 : decode cX7_wardens 19 = .ok (.iload 4, 2) := by decide +kernel
theorem dX7_wardens_21 : decode cX7_wardens 21 = .ok (.sipush 4096, 3) := by decide +kernel
theorem dX7_wardens_24 : decode cX7_wardens 24 = .ok (.if_icmp .ge 128, 3) := by decide +kernel
theorem dX7_wardens_27 : decode cX7_wardens 27 = .ok (.iload 4, 2) := by decide +kernel
theorem dX7_wardens_29 : decode cX7_wardens 29 = .ok (.invokestatic 200, 3) := by decide +kernel
theorem dX7_wardens_32 : decode cX7_wardens 32 = .ok (.istore 5, 2) := by decide +kernel
theorem dX7_wardens_34 : decode cX7_wardens 34 = .ok (.iload_n 2, 1) := by decide +kernel
theorem dX7_wardens_35 : decode cX7_wardens 35 = .ok (.iconst (-1), 1) := by decide +kernel
theorem dX7_wardens_36 : decode cX7_wardens 36 = .ok (.if_icmp .eq 12, 3) := by decide +kernel
theorem dX7_wardens_39 : decode cX7_wardens 39 = .ok (.iload 5, 2) := by decide +kernel
theorem dX7_wardens_41 : decode cX7_wardens 41 = .ok (.iload_n 2, 1) := by decide +kernel
theorem dX7_wardens_42 : decode cX7_wardens 42 = .ok (.invokestatic 200, 3) := by decide +kernel
theorem dX7_wardens_45 : decode cX7_wardens 45 = .ok (.if_icmp .gt 7, 3) := by decide +kernel
theorem dX7_wardens_48 : decode cX7_wardens 48 = .ok (.iconst 1, 1) := by decide +kernel
theorem dX7_wardens_49 : decode cX7_wardens 49 = .ok (.goto 4, 3) := by decide +kernel
theorem dX7_wardens_52 : decode cX7_wardens 52 = .ok (.iconst 0, 1) := by decide +kernel
theorem dX7_wardens_53 : decode cX7_wardens 53 = .ok (.istore 6, 2) := by decide +kernel
theorem dX7_wardens_55 : decode cX7_wardens 55 = .ok (.iconst 0, 1) := by decide +kernel
theorem dX7_wardens_56 : decode cX7_wardens 56 = .ok (.istore 7, 2) := by decide +kernel
theorem dX7_wardens_58 : decode cX7_wardens 58 = .ok (.iload 7, 2) := by decide +kernel
theorem dX7_wardens_60 : decode cX7_wardens 60 = .ok (.bipush 12, 2) := by decide +kernel
theorem dX7_wardens_62 : decode cX7_wardens 62 = .ok (.if_icmp .ge 33, 3) := by decide +kernel
theorem dX7_wardens_65 : decode cX7_wardens 65 = .ok (.iload 6, 2) := by decide +kernel
theorem dX7_wardens_67 : decode cX7_wardens 67 = .ok (.ifCond .eq 28, 3) := by decide +kernel
theorem dX7_wardens_70 : decode cX7_wardens 70 = .ok (.aload_n 0, 1) := by decide +kernel
theorem dX7_wardens_71 : decode cX7_wardens 71 = .ok (.iload 7, 2) := by decide +kernel
theorem dX7_wardens_73 : decode cX7_wardens 73 = .ok (.invokevirtual 184, 3) := by decide +kernel
theorem dX7_wardens_76 : decode cX7_wardens 76 = .ok (.iload 4, 2) := by decide +kernel
theorem dX7_wardens_78 : decode cX7_wardens 78 = .ok (.iand, 1) := by decide +kernel
theorem dX7_wardens_79 : decode cX7_wardens 79 = .ok (.ifCond .eq 7, 3) := by decide +kernel
theorem dX7_wardens_82 : decode cX7_wardens 82 = .ok (.iconst 1, 1) := by decide +kernel
theorem dX7_wardens_83 : decode cX7_wardens 83 = .ok (.goto 4, 3) := by decide +kernel
theorem dX7_wardens_86 : decode cX7_wardens 86 = .ok (.iconst 0, 1) := by decide +kernel
theorem dX7_wardens_87 : decode cX7_wardens 87 = .ok (.istore 6, 2) := by decide +kernel
theorem dX7_wardens_89 : decode cX7_wardens 89 = .ok (.iinc 7 1, 3) := by decide +kernel
theorem dX7_wardens_92 : decode cX7_wardens 92 = .ok (.goto (-34), 3) := by decide +kernel
theorem dX7_wardens_95 : decode cX7_wardens 95 = .ok (.iload 6, 2) := by decide +kernel
theorem dX7_wardens_97 : decode cX7_wardens 97 = .ok (.ifCond .eq 49, 3) := by decide +kernel
theorem dX7_wardens_100 : decode cX7_wardens 100 = .ok (.iload_n 2, 1) := by decide +kernel
theorem dX7_wardens_101 : decode cX7_wardens 101 = .ok (.iconst (-1), 1) := by decide +kernel
theorem dX7_wardens_102 : decode cX7_wardens 102 = .ok (.if_icmp .eq 12, 3) := by decide +kernel
theorem dX7_wardens_105 : decode cX7_wardens 105 = .ok (.iload 5, 2) := by decide +kernel
theorem dX7_wardens_107 : decode cX7_wardens 107 = .ok (.iload_n 2, 1) := by decide +kernel
theorem dX7_wardens_108 : decode cX7_wardens 108 = .ok (.invokestatic 200, 3) := by decide +kernel
theorem dX7_wardens_111 : decode cX7_wardens 111 = .ok (.if_icmp .ge 7, 3) := by decide +kernel
theorem dX7_wardens_114 : decode cX7_wardens 114 = .ok (.iconst 1, 1) := by decide +kernel
theorem dX7_wardens_115 : decode cX7_wardens 115 = .ok (.goto 4, 3) := by decide +kernel
theorem dX7_wardens_118 : decode cX7_wardens 118 = .ok (.iconst 0, 1) := by decide +kernel
theorem dX7_wardens_119 : decode cX7_wardens 119 = .ok (.istore 7, 2) := by decide +kernel
theorem dX7_wardens_121 : decode cX7_wardens 121 = .ok (.iload 7, 2) := by decide +kernel
theorem dX7_wardens_123 : decode cX7_wardens 123 = .ok (.ifCond .eq 7, 3) := by decide +kernel
theorem dX7_wardens_126 : decode cX7_wardens 126 = .ok (.iconst 1, 1) := by decide +kernel
theorem dX7_wardens_127 : decode cX7_wardens 127 = .ok (.goto 6, 3) := by decide +kernel
theorem dX7_wardens_130 : decode cX7_wardens 130 = .ok (.iload_n 3, 1) := by decide +kernel
theorem dX7_wardens_131 : decode cX7_wardens 131 = .ok (.iconst 1, 1) := by decide +kernel
theorem dX7_wardens_132 : decode cX7_wardens 132 = .ok (.iadd, 1) := by decide +kernel
theorem dX7_wardens_133 : decode cX7_wardens 133 = .ok (.istore_n 3, 1) := by decide +kernel
theorem dX7_wardens_134 : decode cX7_wardens 134 = .ok (.iload 7, 2) := by decide +kernel
theorem dX7_wardens_136 : decode cX7_wardens 136 = .ok (.ifCond .eq 8, 3) := by decide +kernel
theorem dX7_wardens_139 : decode cX7_wardens 139 = .ok (.iload 4, 2) := by decide +kernel
theorem dX7_wardens_141 : decode cX7_wardens 141 = .ok (.goto 4, 3) := by decide +kernel
theorem dX7_wardens_144 : decode cX7_wardens 144 = .ok (.iload_n 2, 1) := by decide +kernel
theorem dX7_wardens_145 : decode cX7_wardens 145 = .ok (.istore_n 2, 1) := by decide +kernel
theorem dX7_wardens_146 : decode cX7_wardens 146 = .ok (.iinc 4 1, 3) := by decide +kernel
theorem dX7_wardens_149 : decode cX7_wardens 149 = .ok (.goto (-130), 3) := by decide +kernel
theorem dX7_wardens_152 : decode cX7_wardens 152 = .ok (.iload_n 1, 1) := by decide +kernel
theorem dX7_wardens_153 : decode cX7_wardens 153 = .ok (.iconst 2, 1) := by decide +kernel
theorem dX7_wardens_154 : decode cX7_wardens 154 = .ok (.if_icmp .ne 7, 3) := by decide +kernel
theorem dX7_wardens_157 : decode cX7_wardens 157 = .ok (.iload_n 3, 1) := by decide +kernel
theorem dX7_wardens_158 : decode cX7_wardens 158 = .ok (.goto 21, 3) := by decide +kernel
theorem dX7_wardens_161 : decode cX7_wardens 161 = .ok (.iload_n 2, 1) := by decide +kernel
theorem dX7_wardens_162 : decode cX7_wardens 162 = .ok (.iconst (-1), 1) := by decide +kernel
theorem dX7_wardens_163 : decode cX7_wardens 163 = .ok (.if_icmp .eq 8, 3) := by decide +kernel
theorem dX7_wardens_166 : decode cX7_wardens 166 = .ok (.iload_n 1, 1) := by decide +kernel
theorem dX7_wardens_167 : decode cX7_wardens 167 = .ok (.iconst 1, 1) := by decide +kernel
theorem dX7_wardens_168 : decode cX7_wardens 168 = .ok (.if_icmp .ne 7, 3) := by decide +kernel
theorem dX7_wardens_171 : decode cX7_wardens 171 = .ok (.iload_n 2, 1) := by decide +kernel
theorem dX7_wardens_172 : decode cX7_wardens 172 = .ok (.goto 7, 3) := by decide +kernel
theorem dX7_wardens_175 : decode cX7_wardens 175 = .ok (.iload_n 2, 1) := by decide +kernel
theorem dX7_wardens_176 : decode cX7_wardens 176 = .ok (.invokestatic 200, 3) := by decide +kernel
theorem dX7_wardens_179 : decode cX7_wardens 179 = .ok (.ireturn, 1) := by decide +kernel
theorem dX7_insideOf_0 : decode cX7_insideOf 0 = .ok (.iconst 1, 1) := by decide +kernel
theorem dX7_insideOf_1 : decode cX7_insideOf 1 = .ok (.iload_n 1, 1) := by decide +kernel
theorem dX7_insideOf_2 : decode cX7_insideOf 2 = .ok (.ishl, 1) := by decide +kernel
theorem dX7_insideOf_3 : decode cX7_insideOf 3 = .ok (.istore_n 2, 1) := by decide +kernel
theorem dX7_insideOf_4 : decode cX7_insideOf 4 = .ok (.iconst 0, 1) := by decide +kernel
theorem dX7_insideOf_5 : decode cX7_insideOf 5 = .ok (.istore_n 3, 1) := by decide +kernel
theorem dX7_insideOf_6 : decode cX7_insideOf 6 = .ok (.iload_n 3, 1) := by decide +kernel
theorem dX7_insideOf_7 : decode cX7_insideOf 7 = .ok (.bipush 12, 2) := by decide +kernel
theorem dX7_insideOf_9 : decode cX7_insideOf 9 = .ok (.if_icmp .ge 47, 3) := by decide +kernel
theorem dX7_insideOf_12 : decode cX7_insideOf 12 = .ok (.iconst 0, 1) := by decide +kernel
theorem dX7_insideOf_13 : decode cX7_insideOf 13 = .ok (.istore 4, 2) := by decide +kernel
theorem dX7_insideOf_15 : decode cX7_insideOf 15 = .ok (.iload 4, 2) := by decide +kernel
theorem dX7_insideOf_17 : decode cX7_insideOf 17 = .ok (.bipush 12, 2) := by decide +kernel
theorem dX7_insideOf_19 : decode cX7_insideOf 19 = .ok (.if_icmp .ge 31, 3) := by decide +kernel
theorem dX7_insideOf_22 : decode cX7_insideOf 22 = .ok (.iload_n 2, 1) := by decide +kernel
theorem dX7_insideOf_23 : decode cX7_insideOf 23 = .ok (.iload_n 2, 1) := by decide +kernel
theorem dX7_insideOf_24 : decode cX7_insideOf 24 = .ok (.iload 4, 2) := by decide +kernel
theorem dX7_insideOf_26 : decode cX7_insideOf 26 = .ok (.invokestatic 175, 3) := by decide +kernel
theorem dX7_insideOf_29 : decode cX7_insideOf 29 = .ok (.ifCond .eq 12, 3) := by decide +kernel
theorem dX7_insideOf_32 : decode cX7_insideOf 32 = .ok (.aload_n 0, 1) := by decide +kernel
theorem dX7_insideOf_33 : decode cX7_insideOf 33 = .ok (.iload 4, 2) := by decide +kernel
theorem dX7_insideOf_35 : decode cX7_insideOf 35 = .ok (.invokevirtual 184, 3) := by decide +kernel
theorem dX7_insideOf_38 : decode cX7_insideOf 38 = .ok (.goto 4, 3) := by decide +kernel
theorem dX7_insideOf_41 : decode cX7_insideOf 41 = .ok (.iconst 0, 1) := by decide +kernel
theorem dX7_insideOf_42 : decode cX7_insideOf 42 = .ok (.ior, 1) := by decide +kernel
theorem dX7_insideOf_43 : decode cX7_insideOf 43 = .ok (.istore_n 2, 1) := by decide +kernel
theorem dX7_insideOf_44 : decode cX7_insideOf 44 = .ok (.iinc 4 1, 3) := by decide +kernel
theorem dX7_insideOf_47 : decode cX7_insideOf 47 = .ok (.goto (-32), 3) := by decide +kernel
theorem dX7_insideOf_50 : decode cX7_insideOf 50 = .ok (.iinc 3 1, 3) := by decide +kernel
theorem dX7_insideOf_53 : decode cX7_insideOf 53 = .ok (.goto (-47), 3) := by decide +kernel
theorem dX7_insideOf_56 : decode cX7_insideOf 56 = .ok (.iload_n 2, 1) := by decide +kernel
theorem dX7_insideOf_57 : decode cX7_insideOf 57 = .ok (.ireturn, 1) := by decide +kernel
theorem dX7_inside_0 : decode cX7_inside 0 = .ok (.iload_n 1, 1) := by decide +kernel
theorem dX7_inside_1 : decode cX7_inside 1 = .ok (.invokestatic 169, 3) := by decide +kernel
theorem dX7_inside_4 : decode cX7_inside 4 = .ok (.ifCond .eq 11, 3) := by decide +kernel
theorem dX7_inside_7 : decode cX7_inside 7 = .ok (.aload_n 0, 1) := by decide +kernel
theorem dX7_inside_8 : decode cX7_inside 8 = .ok (.iload_n 1, 1) := by decide +kernel
theorem dX7_inside_9 : decode cX7_inside 9 = .ok (.invokevirtual 203, 3) := by decide +kernel
theorem dX7_inside_12 : decode cX7_inside 12 = .ok (.goto 5, 3) := by decide +kernel
theorem dX7_inside_15 : decode cX7_inside 15 = .ok (.bipush (-2), 2) := by decide +kernel
theorem dX7_inside_17 : decode cX7_inside 17 = .ok (.ireturn, 1) := by decide +kernel
theorem dX7_layRounds_0 : decode cX7_layRounds 0 = .ok (.iconst 0, 1) := by decide +kernel
theorem dX7_layRounds_1 : decode cX7_layRounds 1 = .ok (.istore_n 1, 1) := by decide +kernel
theorem dX7_layRounds_2 : decode cX7_layRounds 2 = .ok (.iconst 1, 1) := by decide +kernel
theorem dX7_layRounds_3 : decode cX7_layRounds 3 = .ok (.istore_n 2, 1) := by decide +kernel
theorem dX7_layRounds_4 : decode cX7_layRounds 4 = .ok (.iconst 1, 1) := by decide +kernel
theorem dX7_layRounds_5 : decode cX7_layRounds 5 = .ok (.istore_n 3, 1) := by decide +kernel
theorem dX7_layRounds_6 : decode cX7_layRounds 6 = .ok (.aload_n 0, 1) := by decide +kernel
theorem dX7_layRounds_7 : decode cX7_layRounds 7 = .ok (.getfield 41, 3) := by decide +kernel
theorem dX7_layRounds_10 : decode cX7_layRounds 10 = .ok (.iconst 0, 1) := by decide +kernel
theorem dX7_layRounds_11 : decode cX7_layRounds 11 = .ok (.iconst 0, 1) := by decide +kernel
theorem dX7_layRounds_12 : decode cX7_layRounds 12 = .ok (.iastore, 1) := by decide +kernel
theorem dX7_layRounds_13 : decode cX7_layRounds 13 = .ok (.aload_n 0, 1) := by decide +kernel
theorem dX7_layRounds_14 : decode cX7_layRounds 14 = .ok (.getfield 41, 3) := by decide +kernel
theorem dX7_layRounds_17 : decode cX7_layRounds 17 = .ok (.iconst 1, 1) := by decide +kernel
theorem dX7_layRounds_18 : decode cX7_layRounds 18 = .ok (.iconst 0, 1) := by decide +kernel
theorem dX7_layRounds_19 : decode cX7_layRounds 19 = .ok (.iastore, 1) := by decide +kernel
theorem dX7_layRounds_20 : decode cX7_layRounds 20 = .ok (.iload_n 2, 1) := by decide +kernel
theorem dX7_layRounds_21 : decode cX7_layRounds 21 = .ok (.ifCond .le 210, 3) := by decide +kernel
theorem dX7_layRounds_24 : decode cX7_layRounds 24 = .ok (.aload_n 0, 1) := by decide +kernel
theorem dX7_layRounds_25 : decode cX7_layRounds 25 = .ok (.getfield 41, 3) := by decide +kernel
theorem dX7_layRounds_28 : decode cX7_layRounds 28 = .ok (.iload_n 2, 1) := by decide +kernel
theorem dX7_layRounds_29 : decode cX7_layRounds 29 = .ok (.iaload, 1) := by decide +kernel
theorem dX7_layRounds_30 : decode cX7_layRounds 30 = .ok (.iconst 1, 1) := by decide +kernel
theorem dX7_layRounds_31 : decode cX7_layRounds 31 = .ok (.iadd, 1) := by decide +kernel
theorem dX7_layRounds_32 : decode cX7_layRounds 32 = .ok (.istore 4, 2) := by decide +kernel
theorem dX7_layRounds_34 : decode cX7_layRounds 34 = .ok (.aload_n 0, 1) := by decide +kernel
theorem dX7_layRounds_35 : decode cX7_layRounds 35 = .ok (.getfield 41, 3) := by decide +kernel
theorem dX7_layRounds_38 : decode cX7_layRounds 38 = .ok (.iload_n 2, 1) := by decide +kernel
theorem dX7_layRounds_39 : decode cX7_layRounds 39 = .ok (.iaload, 1) := by decide +kernel
theorem dX7_layRounds_40 : decode cX7_layRounds 40 = .ok (.ifCond .le 16, 3) := by decide +kernel
theorem dX7_layRounds_43 : decode cX7_layRounds 43 = .ok (.iload_n 3, 1) := by decide +kernel
theorem dX7_layRounds_44 : decode cX7_layRounds 44 = .ok (.iconst 1, 1) := by decide +kernel
theorem dX7_layRounds_45 : decode cX7_layRounds 45 = .ok (.aload_n 0, 1) := by decide +kernel
theorem dX7_layRounds_46 : decode cX7_layRounds 46 = .ok (.getfield 41, 3) := by decide +kernel
theorem dX7_layRounds_49 : decode cX7_layRounds 49 = .ok (.iload_n 2, 1) := by decide +kernel
theorem dX7_layRounds_50 : decode cX7_layRounds 50 = .ok (.iaload, 1) := by decide +kernel
theorem dX7_layRounds_51 : decode cX7_layRounds 51 = .ok (.ishl, 1) := by decide +kernel
theorem dX7_layRounds_52 : decode cX7_layRounds 52 = .ok (.iconst (-1), 1) := by decide +kernel
theorem dX7_layRounds_53 : decode cX7_layRounds 53 = .ok (.ixor, 1) := by decide +kernel
theorem dX7_layRounds_54 : decode cX7_layRounds 54 = .ok (.iand, 1) := by decide +kernel
theorem dX7_layRounds_55 : decode cX7_layRounds 55 = .ok (.istore_n 3, 1) := by decide +kernel
theorem dX7_layRounds_56 : decode cX7_layRounds 56 = .ok (.iload 4, 2) := by decide +kernel
theorem dX7_layRounds_58 : decode cX7_layRounds 58 = .ok (.bipush 12, 2) := by decide +kernel
theorem dX7_layRounds_60 : decode cX7_layRounds 60 = .ok (.if_icmp .ge 38, 3) := by decide +kernel
theorem dX7_layRounds_63 : decode cX7_layRounds 63 = .ok (.iload_n 3, 1) := by decide +kernel
theorem dX7_layRounds_64 : decode cX7_layRounds 64 = .ok (.iload 4, 2) := by decide +kernel
theorem dX7_layRounds_66 : decode cX7_layRounds 66 = .ok (.invokestatic 175, 3) := by decide +kernel
theorem dX7_layRounds_69 : decode cX7_layRounds 69 = .ok (.ifCond .ne 23, 3) := by decide +kernel
theorem dX7_layRounds_72 : decode cX7_layRounds 72 = .ok (.aload_n 0, 1) := by decide +kernel
theorem dX7_layRounds_73 : decode cX7_layRounds 73 = .ok (.aload_n 0, 1) := by decide +kernel
theorem dX7_layRounds_74 : decode cX7_layRounds 74 = .ok (.getfield 41, 3) := by decide +kernel
theorem dX7_layRounds_77 : decode cX7_layRounds 77 = .ok (.iload_n 2, 1) := by decide +kernel
theorem dX7_layRounds_78 : decode cX7_layRounds 78 = .ok (.iconst 1, 1) := by decide +kernel
theorem dX7_layRounds_79 : decode cX7_layRounds 79 = .ok (.isub, 1) := by decide +kernel
theorem dX7_layRounds_80 : decode cX7_layRounds 80 = .ok (.iaload, 1) := by decide +kernel
theorem dX7_layRounds_81 : decode cX7_layRounds 81 = .ok (.invokevirtual 184, 3) := by decide +kernel
theorem dX7_layRounds_84 : decode cX7_layRounds 84 = .ok (.iload 4, 2) := by decide +kernel
theorem dX7_layRounds_86 : decode cX7_layRounds 86 = .ok (.invokestatic 175, 3) := by decide +kernel
theorem dX7_layRounds_89 : decode cX7_layRounds 89 = .ok (.ifCond .ne 9, 3) := by decide +kernel
theorem dX7_layRounds_92 : decode cX7_layRounds 92 = .ok (.iinc 4 1, 3) := by decide +kernel
theorem dX7_layRounds_95 : decode cX7_layRounds 95 = .ok (.goto (-39), 3) := by decide +kernel
theorem dX7_layRounds_98 : decode cX7_layRounds 98 = .ok (.iload 4, 2) := by decide +kernel
theorem dX7_layRounds_100 : decode cX7_layRounds 100 = .ok (.bipush 12, 2) := by decide +kernel
theorem dX7_layRounds_102 : decode cX7_layRounds 102 = .ok (.if_icmp .ne 16, 3) := by decide +kernel
theorem dX7_layRounds_105 : decode cX7_layRounds 105 = .ok (.aload_n 0, 1) := by decide +kernel
theorem dX7_layRounds_106 : decode cX7_layRounds 106 = .ok (.getfield 41, 3) := by decide +kernel
theorem dX7_layRounds_109 : decode cX7_layRounds 109 = .ok (.iload_n 2, 1) := by decide +kernel
theorem dX7_layRounds_110 : decode cX7_layRounds 110 = .ok (.iconst 0, 1) := by decide +kernel
theorem dX7_layRounds_111 : decode cX7_layRounds 111 = .ok (.iastore, 1) := by decide +kernel
theorem dX7_layRounds_112 : decode cX7_layRounds 112 = .ok (.iinc 2 (-1), 3) := by decide +kernel
theorem dX7_layRounds_115 : decode cX7_layRounds 115 = .ok (.goto 113, 3) := by decide +kernel
theorem dX7_layRounds_118 : decode cX7_layRounds 118 = .ok (.iload_n 2, 1) := by decide +kernel
theorem dX7_layRounds_119 : decode cX7_layRounds 119 = .ok (.bipush 11, 2) := by decide +kernel
theorem dX7_layRounds_121 : decode cX7_layRounds 121 = .ok (.if_icmp .ne 82, 3) := by decide +kernel
theorem dX7_layRounds_124 : decode cX7_layRounds 124 = .ok (.aload_n 0, 1) := by decide +kernel
theorem dX7_layRounds_125 : decode cX7_layRounds 125 = .ok (.getfield 41, 3) := by decide +kernel
theorem dX7_layRounds_128 : decode cX7_layRounds 128 = .ok (.iload_n 2, 1) := by decide +kernel
theorem dX7_layRounds_129 : decode cX7_layRounds 129 = .ok (.iload 4, 2) := by decide +kernel
theorem dX7_layRounds_131 : decode cX7_layRounds 131 = .ok (.iastore, 1) := by decide +kernel
theorem dX7_layRounds_132 : decode cX7_layRounds 132 = .ok (.iload_n 3, 1) := by decide +kernel
theorem dX7_layRounds_133 : decode cX7_layRounds 133 = .ok (.iconst 1, 1) := by decide +kernel
theorem dX7_layRounds_134 : decode cX7_layRounds 134 = .ok (.iload 4, 2) := by decide +kernel
theorem dX7_layRounds_136 : decode cX7_layRounds 136 = .ok (.ishl, 1) := by decide +kernel
theorem dX7_layRounds_137 : decode cX7_layRounds 137 = .ok (.ior, 1) := by decide +kernel
theorem dX7_layRounds_138 : decode cX7_layRounds 138 = .ok (.istore_n 3, 1) := by decide +kernel
theorem dX7_layRounds_139 : decode cX7_layRounds 139 = .ok (.aload_n 0, 1) := by decide +kernel
theorem dX7_layRounds_140 : decode cX7_layRounds 140 = .ok (.getfield 41, 3) := by decide +kernel
theorem dX7_layRounds_143 : decode cX7_layRounds 143 = .ok (.iconst 1, 1) := by decide +kernel
theorem dX7_layRounds_144 : decode cX7_layRounds 144 = .ok (.iaload, 1) := by decide +kernel
theorem dX7_layRounds_145 : decode cX7_layRounds 145 = .ok (.iload 4, 2) := by decide +kernel
theorem dX7_layRounds_147 : decode cX7_layRounds 147 = .ok (.if_icmp .ge 81, 3) := by decide +kernel
theorem dX7_layRounds_150 : decode cX7_layRounds 150 = .ok (.aload_n 0, 1) := by decide +kernel
theorem dX7_layRounds_151 : decode cX7_layRounds 151 = .ok (.iload 4, 2) := by decide +kernel
theorem dX7_layRounds_153 : decode cX7_layRounds 153 = .ok (.invokevirtual 184, 3) := by decide +kernel
theorem dX7_layRounds_156 : decode cX7_layRounds 156 = .ok (.iconst 0, 1) := by decide +kernel
theorem dX7_layRounds_157 : decode cX7_layRounds 157 = .ok (.invokestatic 175, 3) := by decide +kernel
theorem dX7_layRounds_160 : decode cX7_layRounds 160 = .ok (.ifCond .eq 68, 3) := by decide +kernel
theorem dX7_layRounds_163 : decode cX7_layRounds 163 = .ok (.iconst 0, 1) := by decide +kernel
theorem dX7_layRounds_164 : decode cX7_layRounds 164 = .ok (.istore 5, 2) := by decide +kernel
theorem dX7_layRounds_166 : decode cX7_layRounds 166 = .ok (.iload 5, 2) := by decide +kernel
theorem dX7_layRounds_168 : decode cX7_layRounds 168 = .ok (.bipush 12, 2) := by decide +kernel
theorem dX7_layRounds_170 : decode cX7_layRounds 170 = .ok (.if_icmp .ge 27, 3) := by decide +kernel
theorem dX7_layRounds_173 : decode cX7_layRounds 173 = .ok (.iload_n 1, 1) := by decide +kernel
theorem dX7_layRounds_174 : decode cX7_layRounds 174 = .ok (.ifCond .ne 23, 3) := by decide +kernel
theorem dX7_layRounds_177 : decode cX7_layRounds 177 = .ok (.aload_n 0, 1) := by decide +kernel
theorem dX7_layRounds_178 : decode cX7_layRounds 178 = .ok (.getfield 51, 3) := by decide +kernel
theorem dX7_layRounds_181 : decode cX7_layRounds 181 = .ok (.iload 5, 2) := by decide +kernel
theorem dX7_layRounds_183 : decode cX7_layRounds 183 = .ok (.aload_n 0, 1) := by decide +kernel
theorem dX7_layRounds_184 : decode cX7_layRounds 184 = .ok (.getfield 41, 3) := by decide +kernel
theorem dX7_layRounds_187 : decode cX7_layRounds 187 = .ok (.iload 5, 2) := by decide +kernel
theorem dX7_layRounds_189 : decode cX7_layRounds 189 = .ok (.iaload, 1) := by decide +kernel
theorem dX7_layRounds_190 : decode cX7_layRounds 190 = .ok (.iastore, 1) := by decide +kernel
theorem dX7_layRounds_191 : decode cX7_layRounds 191 = .ok (.iinc 5 1, 3) := by decide +kernel
theorem dX7_layRounds_194 : decode cX7_layRounds 194 = .ok (.goto (-28), 3) := by decide +kernel
theorem dX7_layRounds_197 : decode cX7_layRounds 197 = .ok (.iinc 1 1, 3) := by decide +kernel
theorem dX7_layRounds_200 : decode cX7_layRounds 200 = .ok (.goto 28, 3) := by decide +kernel
theorem dX7_layRounds_203 : decode cX7_layRounds 203 = .ok (.aload_n 0, 1) := by decide +kernel
theorem dX7_layRounds_204 : decode cX7_layRounds 204 = .ok (.getfield 41, 3) := by decide +kernel
theorem dX7_layRounds_207 : decode cX7_layRounds 207 = .ok (.iload_n 2, 1) := by decide +kernel
theorem dX7_layRounds_208 : decode cX7_layRounds 208 = .ok (.iload 4, 2) := by decide +kernel
theorem dX7_layRounds_210 : decode cX7_layRounds 210 = .ok (.iastore, 1) := by decide +kernel
theorem dX7_layRounds_211 : decode cX7_layRounds 211 = .ok (.iload_n 3, 1) := by decide +kernel
theorem dX7_layRounds_212 : decode cX7_layRounds 212 = .ok (.iconst 1, 1) := by decide +kernel
theorem dX7_layRounds_213 : decode cX7_layRounds 213 = .ok (.iload 4, 2) := by decide +kernel
theorem dX7_layRounds_215 : decode cX7_layRounds 215 = .ok (.ishl, 1) := by decide +kernel
theorem dX7_layRounds_216 : decode cX7_layRounds 216 = .ok (.ior, 1) := by decide +kernel
theorem dX7_layRounds_217 : decode cX7_layRounds 217 = .ok (.istore_n 3, 1) := by decide +kernel
theorem dX7_layRounds_218 : decode cX7_layRounds 218 = .ok (.iinc 2 1, 3) := by decide +kernel
theorem dX7_layRounds_221 : decode cX7_layRounds 221 = .ok (.aload_n 0, 1) := by decide +kernel
theorem dX7_layRounds_222 : decode cX7_layRounds 222 = .ok (.getfield 41, 3) := by decide +kernel
theorem dX7_layRounds_225 : decode cX7_layRounds 225 = .ok (.iload_n 2, 1) := by decide +kernel
theorem dX7_layRounds_226 : decode cX7_layRounds 226 = .ok (.iconst 0, 1) := by decide +kernel
theorem dX7_layRounds_227 : decode cX7_layRounds 227 = .ok (.iastore, 1) := by decide +kernel
theorem dX7_layRounds_228 : decode cX7_layRounds 228 = .ok (.goto (-208), 3) := by decide +kernel
theorem dX7_layRounds_231 : decode cX7_layRounds 231 = .ok (.iload_n 1, 1) := by decide +kernel
theorem dX7_layRounds_232 : decode cX7_layRounds 232 = .ok (.ireturn, 1) := by decide +kernel
theorem dX7_rounds_0 : decode cX7_rounds 0 = .ok (.iload_n 1, 1) := by decide +kernel
theorem dX7_rounds_1 : decode cX7_rounds 1 = .ok (.iconst (-1), 1) := by decide +kernel
theorem dX7_rounds_2 : decode cX7_rounds 2 = .ok (.bipush 11, 2) := by decide +kernel
theorem dX7_rounds_4 : decode cX7_rounds 4 = .ok (.invokestatic 65, 3) := by decide +kernel
theorem dX7_rounds_7 : decode cX7_rounds 7 = .ok (.ifCond .ne 6, 3) := by decide +kernel
theorem dX7_rounds_10 : decode cX7_rounds 10 = .ok (.bipush (-3), 2) := by decide +kernel
theorem dX7_rounds_12 : decode cX7_rounds 12 = .ok (.ireturn, 1) := by decide +kernel
theorem dX7_rounds_13 : decode cX7_rounds 13 = .ok (.aload_n 0, 1) := by decide +kernel
theorem dX7_rounds_14 : decode cX7_rounds 14 = .ok (.invokevirtual 206, 3) := by decide +kernel
theorem dX7_rounds_17 : decode cX7_rounds 17 = .ok (.istore_n 2, 1) := by decide +kernel
theorem dX7_rounds_18 : decode cX7_rounds 18 = .ok (.iload_n 1, 1) := by decide +kernel
theorem dX7_rounds_19 : decode cX7_rounds 19 = .ok (.iconst (-1), 1) := by decide +kernel
theorem dX7_rounds_20 : decode cX7_rounds 20 = .ok (.if_icmp .ne 7, 3) := by decide +kernel
theorem dX7_rounds_23 : decode cX7_rounds 23 = .ok (.iload_n 2, 1) := by decide +kernel
theorem dX7_rounds_24 : decode cX7_rounds 24 = .ok (.goto 17, 3) := by decide +kernel
theorem dX7_rounds_27 : decode cX7_rounds 27 = .ok (.iload_n 2, 1) := by decide +kernel
theorem dX7_rounds_28 : decode cX7_rounds 28 = .ok (.ifCond .ne 7, 3) := by decide +kernel
theorem dX7_rounds_31 : decode cX7_rounds 31 = .ok (.iconst (-1), 1) := by decide +kernel
theorem dX7_rounds_32 : decode cX7_rounds 32 = .ok (.goto 9, 3) := by decide +kernel
theorem dX7_rounds_35 : decode cX7_rounds 35 = .ok (.aload_n 0, 1) := by decide +kernel
theorem dX7_rounds_36 : decode cX7_rounds 36 = .ok (.getfield 51, 3) := by decide +kernel
theorem dX7_rounds_39 : decode cX7_rounds 39 = .ok (.iload_n 1, 1) := by decide +kernel
theorem dX7_rounds_40 : decode cX7_rounds 40 = .ok (.iaload, 1) := by decide +kernel
theorem dX7_rounds_41 : decode cX7_rounds 41 = .ok (.ireturn, 1) := by decide +kernel
theorem dX7_walks_0 : decode cX7_walks 0 = .ok (.iload_n 1, 1) := by decide +kernel
theorem dX7_walks_1 : decode cX7_walks 1 = .ok (.invokestatic 169, 3) := by decide +kernel
theorem dX7_walks_4 : decode cX7_walks 4 = .ok (.ifCond .eq 10, 3) := by decide +kernel
theorem dX7_walks_7 : decode cX7_walks 7 = .ok (.iload_n 2, 1) := by decide +kernel
theorem dX7_walks_8 : decode cX7_walks 8 = .ok (.invokestatic 169, 3) := by decide +kernel
theorem dX7_walks_11 : decode cX7_walks 11 = .ok (.ifCond .ne 7, 3) := by decide +kernel
theorem dX7_walks_14 : decode cX7_walks 14 = .ok (.ldc2_w 87, 3) := by decide +kernel
theorem dX7_walks_17 : decode cX7_walks 17 = .ok (.lreturn, 1) := by decide +kernel
theorem dX7_walks_18 : decode cX7_walks 18 = .ok (.iload_n 3, 1) := by decide +kernel
theorem dX7_walks_19 : decode cX7_walks 19 = .ok (.iconst 0, 1) := by decide +kernel
theorem dX7_walks_20 : decode cX7_walks 20 = .ok (.bipush 20, 2) := by decide +kernel
theorem dX7_walks_22 : decode cX7_walks 22 = .ok (.invokestatic 65, 3) := by decide +kernel
theorem dX7_walks_25 : decode cX7_walks 25 = .ok (.ifCond .ne 7, 3) := by decide +kernel
theorem dX7_walks_28 : decode cX7_walks 28 = .ok (.ldc2_w 101, 3) := by decide +kernel
theorem dX7_walks_31 : decode cX7_walks 31 = .ok (.lreturn, 1) := by decide +kernel
theorem dX7_walks_32 : decode cX7_walks 32 = .ok (.aload_n 0, 1) := by decide +kernel
theorem dX7_walks_33 : decode cX7_walks 33 = .ok (.iload_n 1, 1) := by decide +kernel
theorem dX7_walks_34 : decode cX7_walks 34 = .ok (.iload_n 3, 1) := by decide +kernel
theorem dX7_walks_35 : decode cX7_walks 35 = .ok (.iconst 0, 1) := by decide +kernel
theorem dX7_walks_36 : decode cX7_walks 36 = .ok (.invokevirtual 210, 3) := by decide +kernel
theorem dX7_walks_39 : decode cX7_walks 39 = .ok (.aload_n 0, 1) := by decide +kernel
theorem dX7_walks_40 : decode cX7_walks 40 = .ok (.getfield 44, 3) := by decide +kernel
theorem dX7_walks_43 : decode cX7_walks 43 = .ok (.iload_n 2, 1) := by decide +kernel
theorem dX7_walks_44 : decode cX7_walks 44 = .ok (.laload, 1) := by decide +kernel
theorem dX7_walks_45 : decode cX7_walks 45 = .ok (.lreturn, 1) := by decide +kernel
theorem dX7_spread_0 : decode cX7_spread 0 = .ok (.iconst 0, 1) := by decide +kernel
theorem dX7_spread_1 : decode cX7_spread 1 = .ok (.istore 4, 2) := by decide +kernel
theorem dX7_spread_3 : decode cX7_spread 3 = .ok (.iload 4, 2) := by decide +kernel
theorem dX7_spread_5 : decode cX7_spread 5 = .ok (.bipush 12, 2) := by decide +kernel
theorem dX7_spread_7 : decode cX7_spread 7 = .ok (.if_icmp .ge 27, 3) := by decide +kernel
theorem dX7_spread_10 : decode cX7_spread 10 = .ok (.aload_n 0, 1) := by decide +kernel
theorem dX7_spread_11 : decode cX7_spread 11 = .ok (.getfield 44, 3) := by decide +kernel
theorem dX7_spread_14 : decode cX7_spread 14 = .ok (.iload 4, 2) := by decide +kernel
theorem dX7_spread_16 : decode cX7_spread 16 = .ok (.iload 4, 2) := by decide +kernel
theorem dX7_spread_18 : decode cX7_spread 18 = .ok (.iload_n 1, 1) := by decide +kernel
theorem dX7_spread_19 : decode cX7_spread 19 = .ok (.if_icmp .ne 7, 3) := by decide +kernel
theorem dX7_spread_22 : decode cX7_spread 22 = .ok (.lconst 1, 1) := by decide +kernel
theorem dX7_spread_23 : decode cX7_spread 23 = .ok (.goto 4, 3) := by decide +kernel
theorem dX7_spread_26 : decode cX7_spread 26 = .ok (.lconst 0, 1) := by decide +kernel
theorem dX7_spread_27 : decode cX7_spread 27 = .ok (.lastore, 1) := by decide +kernel
theorem dX7_spread_28 : decode cX7_spread 28 = .ok (.iinc 4 1, 3) := by decide +kernel
theorem dX7_spread_31 : decode cX7_spread 31 = .ok (.goto (-28), 3) := by decide +kernel
theorem dX7_spread_34 : decode cX7_spread 34 = .ok (.iconst 0, 1) := by decide +kernel
theorem dX7_spread_35 : decode cX7_spread 35 = .ok (.istore 4, 2) := by decide +kernel
theorem dX7_spread_37 : decode cX7_spread 37 = .ok (.iload 4, 2) := by decide +kernel
theorem dX7_spread_39 : decode cX7_spread 39 = .ok (.iload_n 2, 1) := by decide +kernel
theorem dX7_spread_40 : decode cX7_spread 40 = .ok (.if_icmp .ge 193, 3) := by decide +kernel
theorem dX7_spread_43 : decode cX7_spread 43 = .ok (.iconst 0, 1) := by decide +kernel
theorem dX7_spread_44 : decode cX7_spread 44 = .ok (.istore 5, 2) := by decide +kernel
theorem dX7_spread_46 : decode cX7_spread 46 = .ok (.iload 5, 2) := by decide +kernel
theorem dX7_spread_48 : decode cX7_spread 48 = .ok (.bipush 12, 2) := by decide +kernel
theorem dX7_spread_50 : decode cX7_spread 50 = .ok (.if_icmp .ge 17, 3) := by decide +kernel
theorem dX7_spread_53 : decode cX7_spread 53 = .ok (.aload_n 0, 1) := by decide +kernel
theorem dX7_spread_54 : decode cX7_spread 54 = .ok (.getfield 48, 3) := by decide +kernel
theorem dX7_spread_57 : decode cX7_spread 57 = .ok (.iload 5, 2) := by decide +kernel
theorem dX7_spread_59 : decode cX7_spread 59 = .ok (.lconst 0, 1) := by decide +kernel
theorem dX7_spread_60 : decode cX7_spread 60 = .ok (.lastore, 1) := by decide +kernel
theorem dX7_spread_61 : decode cX7_spread 61 = .ok (.iinc 5 1, 3) := by decide +kernel
theorem dX7_spread_64 : decode cX7_spread 64 = .ok (.goto (-18), 3) := by decide +kernel
theorem dX7_spread_67 : decode cX7_spread 67 = .ok (.iconst 0, 1) := by decide +kernel
theorem dX7_spread_68 : decode cX7_spread 68 = .ok (.istore 5, 2) := by decide +kernel
theorem dX7_spread_70 : decode cX7_spread 70 = .ok (.iload 5, 2) := by decide +kernel
theorem dX7_spread_72 : decode cX7_spread 72 = .ok (.bipush 12, 2) := by decide +kernel
theorem dX7_spread_74 : decode cX7_spread 74 = .ok (.if_icmp .ge 123, 3) := by decide +kernel
theorem dX7_spread_77 : decode cX7_spread 77 = .ok (.aload_n 0, 1) := by decide +kernel
theorem dX7_spread_78 : decode cX7_spread 78 = .ok (.iload 5, 2) := by decide +kernel
theorem dX7_spread_80 : decode cX7_spread 80 = .ok (.invokevirtual 184, 3) := by decide +kernel
theorem dX7_spread_83 : decode cX7_spread 83 = .ok (.istore 6, 2) := by decide +kernel
theorem dX7_spread_85 : decode cX7_spread 85 = .ok (.iload 6, 2) := by decide +kernel
theorem dX7_spread_87 : decode cX7_spread 87 = .ok (.invokestatic 200, 3) := by decide +kernel
theorem dX7_spread_90 : decode cX7_spread 90 = .ok (.istore 7, 2) := by decide +kernel
theorem dX7_spread_92 : decode cX7_spread 92 = .ok (.aload_n 0, 1) := by decide +kernel
theorem dX7_spread_93 : decode cX7_spread 93 = .ok (.getfield 48, 3) := by decide +kernel
theorem dX7_spread_96 : decode cX7_spread 96 = .ok (.iload 5, 2) := by decide +kernel
theorem dX7_spread_98 : decode cX7_spread 98 = .ok (.dup2, 1) := by decide +kernel
theorem dX7_spread_99 : decode cX7_spread 99 = .ok (.laload, 1) := by decide +kernel
theorem dX7_spread_100 : decode cX7_spread 100 = .ok (.iload_n 3, 1) := by decide +kernel
theorem dX7_spread_101 : decode cX7_spread 101 = .ok (.ifCond .eq 22, 3) := by decide +kernel
theorem dX7_spread_104 : decode cX7_spread 104 = .ok (.iload 7, 2) := by decide +kernel
theorem dX7_spread_106 : decode cX7_spread 106 = .ok (.ifCond .ne 17, 3) := by decide +kernel
theorem dX7_spread_109 : decode cX7_spread 109 = .ok (.ldc2_w 198, 3) := by decide +kernel
theorem dX7_spread_112 : decode cX7_spread 112 = .ok (.aload_n 0, 1) := by decide +kernel
theorem dX7_spread_113 : decode cX7_spread 113 = .ok (.getfield 44, 3) := by decide +kernel
theorem dX7_spread_116 : decode cX7_spread 116 = .ok (.iload 5, 2) := by decide +kernel
theorem dX7_spread_118 : decode cX7_spread 118 = .ok (.laload, 1) := by decide +kernel
theorem dX7_spread_119 : decode cX7_spread 119 = .ok (.lmul, 1) := by decide +kernel
theorem dX7_spread_120 : decode cX7_spread 120 = .ok (.goto 4, 3) := by decide +kernel
theorem dX7_spread_123 : decode cX7_spread 123 = .ok (.lconst 0, 1) := by decide +kernel
theorem dX7_spread_124 : decode cX7_spread 124 = .ok (.ladd, 1) := by decide +kernel
theorem dX7_spread_125 : decode cX7_spread 125 = .ok (.lastore, 1) := by decide +kernel
theorem dX7_spread_126 : decode cX7_spread 126 = .ok (.iconst 0, 1) := by decide +kernel
theorem dX7_spread_127 : decode cX7_spread 127 = .ok (.istore 8, 2) := by decide +kernel
theorem dX7_spread_129 : decode cX7_spread 129 = .ok (.iload 8, 2) := by decide +kernel
theorem dX7_spread_131 : decode cX7_spread 131 = .ok (.bipush 12, 2) := by decide +kernel
theorem dX7_spread_133 : decode cX7_spread 133 = .ok (.if_icmp .ge 58, 3) := by decide +kernel
theorem dX7_spread_136 : decode cX7_spread 136 = .ok (.iload 6, 2) := by decide +kernel
theorem dX7_spread_138 : decode cX7_spread 138 = .ok (.iload 8, 2) := by decide +kernel
theorem dX7_spread_140 : decode cX7_spread 140 = .ok (.invokestatic 175, 3) := by decide +kernel
theorem dX7_spread_143 : decode cX7_spread 143 = .ok (.ifCond .eq 42, 3) := by decide +kernel
theorem dX7_spread_146 : decode cX7_spread 146 = .ok (.aload_n 0, 1) := by decide +kernel
theorem dX7_spread_147 : decode cX7_spread 147 = .ok (.getfield 48, 3) := by decide +kernel
theorem dX7_spread_150 : decode cX7_spread 150 = .ok (.iload 8, 2) := by decide +kernel
theorem dX7_spread_152 : decode cX7_spread 152 = .ok (.dup2, 1) := by decide +kernel
theorem dX7_spread_153 : decode cX7_spread 153 = .ok (.laload, 1) := by decide +kernel
theorem dX7_spread_154 : decode cX7_spread 154 = .ok (.iload_n 3, 1) := by decide +kernel
theorem dX7_spread_155 : decode cX7_spread 155 = .ok (.ifCond .eq 21, 3) := by decide +kernel
theorem dX7_spread_158 : decode cX7_spread 158 = .ok (.ldc2_w 198, 3) := by decide +kernel
theorem dX7_spread_161 : decode cX7_spread 161 = .ok (.iload 7, 2) := by decide +kernel
theorem dX7_spread_163 : decode cX7_spread 163 = .ok (.i2l, 1) := by decide +kernel
theorem dX7_spread_164 : decode cX7_spread 164 = .ok (.ldiv, 1) := by decide +kernel
theorem dX7_spread_165 : decode cX7_spread 165 = .ok (.aload_n 0, 1) := by decide +kernel
theorem dX7_spread_166 : decode cX7_spread 166 = .ok (.getfield 44, 3) := by decide +kernel
theorem dX7_spread_169 : decode cX7_spread 169 = .ok (.iload 5, 2) := by decide +kernel
theorem dX7_spread_171 : decode cX7_spread 171 = .ok (.laload, 1) := by decide +kernel
theorem dX7_spread_172 : decode cX7_spread 172 = .ok (.lmul, 1) := by decide +kernel
theorem dX7_spread_173 : decode cX7_spread 173 = .ok (.goto 10, 3) := by decide +kernel
theorem dX7_spread_176 : decode cX7_spread 176 = .ok (.aload_n 0, 1) := by decide +kernel
theorem dX7_spread_177 : decode cX7_spread 177 = .ok (.getfield 44, 3) := by decide +kernel
theorem dX7_spread_180 : decode cX7_spread 180 = .ok (.iload 5, 2) := by decide +kernel
theorem dX7_spread_182 : decode cX7_spread 182 = .ok (.laload, 1) := by decide +kernel
theorem dX7_spread_183 : decode cX7_spread 183 = .ok (.ladd, 1) := by decide +kernel
theorem dX7_spread_184 : decode cX7_spread 184 = .ok (.lastore, 1) := by decide +kernel
theorem dX7_spread_185 : decode cX7_spread 185 = .ok (.iinc 8 1, 3) := by decide +kernel
theorem dX7_spread_188 : decode cX7_spread 188 = .ok (.goto (-59), 3) := by decide +kernel
theorem dX7_spread_191 : decode cX7_spread 191 = .ok (.iinc 5 1, 3) := by decide +kernel
theorem dX7_spread_194 : decode cX7_spread 194 = .ok (.goto (-124), 3) := by decide +kernel
theorem dX7_spread_197 : decode cX7_spread 197 = .ok (.iconst 0, 1) := by decide +kernel
theorem dX7_spread_198 : decode cX7_spread 198 = .ok (.istore 5, 2) := by decide +kernel
theorem dX7_spread_200 : decode cX7_spread 200 = .ok (.iload 5, 2) := by decide +kernel
theorem dX7_spread_202 : decode cX7_spread 202 = .ok (.bipush 12, 2) := by decide +kernel
theorem dX7_spread_204 : decode cX7_spread 204 = .ok (.if_icmp .ge 23, 3) := by decide +kernel
theorem dX7_spread_207 : decode cX7_spread 207 = .ok (.aload_n 0, 1) := by decide +kernel
theorem dX7_spread_208 : decode cX7_spread 208 = .ok (.getfield 44, 3) := by decide +kernel
theorem dX7_spread_211 : decode cX7_spread 211 = .ok (.iload 5, 2) := by decide +kernel
theorem dX7_spread_213 : decode cX7_spread 213 = .ok (.aload_n 0, 1) := by decide +kernel
theorem dX7_spread_214 : decode cX7_spread 214 = .ok (.getfield 48, 3) := by decide +kernel
theorem dX7_spread_217 : decode cX7_spread 217 = .ok (.iload 5, 2) := by decide +kernel
theorem dX7_spread_219 : decode cX7_spread 219 = .ok (.laload, 1) := by decide +kernel
theorem dX7_spread_220 : decode cX7_spread 220 = .ok (.lastore, 1) := by decide +kernel
theorem dX7_spread_221 : decode cX7_spread 221 = .ok (.iinc 5 1, 3) := by decide +kernel
theorem dX7_spread_224 : decode cX7_spread 224 = .ok (.goto (-24), 3) := by decide +kernel
theorem dX7_spread_227 : decode cX7_spread 227 = .ok (.iinc 4 1, 3) := by decide +kernel
theorem dX7_spread_230 : decode cX7_spread 230 = .ok (.goto (-193), 3) := by decide +kernel
theorem dX7_spread_233 : decode cX7_spread 233 = .ok (.return_, 1) := by decide +kernel
theorem dX7_odds_0 : decode cX7_odds 0 = .ok (.iload_n 1, 1) := by decide +kernel
theorem dX7_odds_1 : decode cX7_odds 1 = .ok (.invokestatic 169, 3) := by decide +kernel
theorem dX7_odds_4 : decode cX7_odds 4 = .ok (.ifCond .eq 10, 3) := by decide +kernel
theorem dX7_odds_7 : decode cX7_odds 7 = .ok (.iload_n 2, 1) := by decide +kernel
theorem dX7_odds_8 : decode cX7_odds 8 = .ok (.invokestatic 169, 3) := by decide +kernel
theorem dX7_odds_11 : decode cX7_odds 11 = .ok (.ifCond .ne 7, 3) := by decide +kernel
theorem dX7_odds_14 : decode cX7_odds 14 = .ok (.ldc2_w 87, 3) := by decide +kernel
theorem dX7_odds_17 : decode cX7_odds 17 = .ok (.lreturn, 1) := by decide +kernel
theorem dX7_odds_18 : decode cX7_odds 18 = .ok (.iload_n 3, 1) := by decide +kernel
theorem dX7_odds_19 : decode cX7_odds 19 = .ok (.iconst 0, 1) := by decide +kernel
theorem dX7_odds_20 : decode cX7_odds 20 = .ok (.bipush 8, 2) := by decide +kernel
theorem dX7_odds_22 : decode cX7_odds 22 = .ok (.invokestatic 65, 3) := by decide +kernel
theorem dX7_odds_25 : decode cX7_odds 25 = .ok (.ifCond .eq 13, 3) := by decide +kernel
theorem dX7_odds_28 : decode cX7_odds 28 = .ok (.iload 4, 2) := by decide +kernel
theorem dX7_odds_30 : decode cX7_odds 30 = .ok (.iconst 0, 1) := by decide +kernel
theorem dX7_odds_31 : decode cX7_odds 31 = .ok (.iconst 1, 1) := by decide +kernel
theorem dX7_odds_32 : decode cX7_odds 32 = .ok (.invokestatic 65, 3) := by decide +kernel
theorem dX7_odds_35 : decode cX7_odds 35 = .ok (.ifCond .ne 7, 3) := by decide +kernel
theorem dX7_odds_38 : decode cX7_odds 38 = .ok (.ldc2_w 101, 3) := by decide +kernel
theorem dX7_odds_41 : decode cX7_odds 41 = .ok (.lreturn, 1) := by decide +kernel
theorem dX7_odds_42 : decode cX7_odds 42 = .ok (.aload_n 0, 1) := by decide +kernel
theorem dX7_odds_43 : decode cX7_odds 43 = .ok (.iload_n 1, 1) := by decide +kernel
theorem dX7_odds_44 : decode cX7_odds 44 = .ok (.iload_n 3, 1) := by decide +kernel
theorem dX7_odds_45 : decode cX7_odds 45 = .ok (.iconst 1, 1) := by decide +kernel
theorem dX7_odds_46 : decode cX7_odds 46 = .ok (.invokevirtual 210, 3) := by decide +kernel
theorem dX7_odds_49 : decode cX7_odds 49 = .ok (.lconst 1, 1) := by decide +kernel
theorem dX7_odds_50 : decode cX7_odds 50 = .ok (.lstore 5, 2) := by decide +kernel
theorem dX7_odds_52 : decode cX7_odds 52 = .ok (.iconst 0, 1) := by decide +kernel
theorem dX7_odds_53 : decode cX7_odds 53 = .ok (.istore 7, 2) := by decide +kernel
theorem dX7_odds_55 : decode cX7_odds 55 = .ok (.iload 7, 2) := by decide +kernel
theorem dX7_odds_57 : decode cX7_odds 57 = .ok (.iload_n 3, 1) := by decide +kernel
theorem dX7_odds_58 : decode cX7_odds 58 = .ok (.if_icmp .ge 17, 3) := by decide +kernel
theorem dX7_odds_61 : decode cX7_odds 61 = .ok (.lload 5, 2) := by decide +kernel
theorem dX7_odds_63 : decode cX7_odds 63 = .ok (.ldc2_w 198, 3) := by decide +kernel
theorem dX7_odds_66 : decode cX7_odds 66 = .ok (.lmul, 1) := by decide +kernel
theorem dX7_odds_67 : decode cX7_odds 67 = .ok (.lstore 5, 2) := by decide +kernel
theorem dX7_odds_69 : decode cX7_odds 69 = .ok (.iinc 7 1, 3) := by decide +kernel
theorem dX7_odds_72 : decode cX7_odds 72 = .ok (.goto (-17), 3) := by decide +kernel
theorem dX7_odds_75 : decode cX7_odds 75 = .ok (.aload_n 0, 1) := by decide +kernel
theorem dX7_odds_76 : decode cX7_odds 76 = .ok (.getfield 44, 3) := by decide +kernel
theorem dX7_odds_79 : decode cX7_odds 79 = .ok (.iload_n 2, 1) := by decide +kernel
theorem dX7_odds_80 : decode cX7_odds 80 = .ok (.laload, 1) := by decide +kernel
theorem dX7_odds_81 : decode cX7_odds 81 = .ok (.lstore 7, 2) := by decide +kernel
theorem dX7_odds_83 : decode cX7_odds 83 = .ok (.lload 5, 2) := by decide +kernel
theorem dX7_odds_85 : decode cX7_odds 85 = .ok (.lstore 9, 2) := by decide +kernel
theorem dX7_odds_87 : decode cX7_odds 87 = .ok (.lload 9, 2) := by decide +kernel
theorem dX7_odds_89 : decode cX7_odds 89 = .ok (.lconst 0, 1) := by decide +kernel
theorem dX7_odds_90 : decode cX7_odds 90 = .ok (.lcmp, 1) := by decide +kernel
theorem dX7_odds_91 : decode cX7_odds 91 = .ok (.ifCond .le 21, 3) := by decide +kernel
theorem dX7_odds_94 : decode cX7_odds 94 = .ok (.lload 7, 2) := by decide +kernel
theorem dX7_odds_96 : decode cX7_odds 96 = .ok (.lload 9, 2) := by decide +kernel
theorem dX7_odds_98 : decode cX7_odds 98 = .ok (.lrem, 1) := by decide +kernel
theorem dX7_odds_99 : decode cX7_odds 99 = .ok (.lstore 11, 2) := by decide +kernel
theorem dX7_odds_101 : decode cX7_odds 101 = .ok (.lload 9, 2) := by decide +kernel
theorem dX7_odds_103 : decode cX7_odds 103 = .ok (.lstore 7, 2) := by decide +kernel
theorem dX7_odds_105 : decode cX7_odds 105 = .ok (.lload 11, 2) := by decide +kernel
theorem dX7_odds_107 : decode cX7_odds 107 = .ok (.lstore 9, 2) := by decide +kernel
theorem dX7_odds_109 : decode cX7_odds 109 = .ok (.goto (-22), 3) := by decide +kernel
theorem dX7_odds_112 : decode cX7_odds 112 = .ok (.iload 4, 2) := by decide +kernel
theorem dX7_odds_114 : decode cX7_odds 114 = .ok (.ifCond .ne 12, 3) := by decide +kernel
theorem dX7_odds_117 : decode cX7_odds 117 = .ok (.aload_n 0, 1) := by decide +kernel
theorem dX7_odds_118 : decode cX7_odds 118 = .ok (.getfield 44, 3) := by decide +kernel
theorem dX7_odds_121 : decode cX7_odds 121 = .ok (.iload_n 2, 1) := by decide +kernel
theorem dX7_odds_122 : decode cX7_odds 122 = .ok (.laload, 1) := by decide +kernel
theorem dX7_odds_123 : decode cX7_odds 123 = .ok (.goto 5, 3) := by decide +kernel
theorem dX7_odds_126 : decode cX7_odds 126 = .ok (.lload 5, 2) := by decide +kernel
theorem dX7_odds_128 : decode cX7_odds 128 = .ok (.lload 7, 2) := by decide +kernel
theorem dX7_odds_130 : decode cX7_odds 130 = .ok (.ldiv, 1) := by decide +kernel
theorem dX7_odds_131 : decode cX7_odds 131 = .ok (.lreturn, 1) := by decide +kernel
theorem dX7_count_0 : decode cX7_count 0 = .ok (.iconst 0, 1) := by decide +kernel
theorem dX7_count_1 : decode cX7_count 1 = .ok (.istore_n 2, 1) := by decide +kernel
theorem dX7_count_2 : decode cX7_count 2 = .ok (.iload_n 1, 1) := by decide +kernel
theorem dX7_count_3 : decode cX7_count 3 = .ok (.tableswitch 181 0 7 #[45, 45, 45, 45, 79, 114, 138, 176], 45) := by decide +kernel
theorem dX7_count_48 : decode cX7_count 48 = .ok (.iconst 0, 1) := by decide +kernel
theorem dX7_count_49 : decode cX7_count 49 = .ok (.istore_n 3, 1) := by decide +kernel
theorem dX7_count_50 : decode cX7_count 50 = .ok (.iload_n 3, 1) := by decide +kernel
theorem dX7_count_51 : decode cX7_count 51 = .ok (.bipush 12, 2) := by decide +kernel
theorem dX7_count_53 : decode cX7_count 53 = .ok (.if_icmp .ge 27, 3) := by decide +kernel
theorem dX7_count_56 : decode cX7_count 56 = .ok (.iload_n 2, 1) := by decide +kernel
theorem dX7_count_57 : decode cX7_count 57 = .ok (.aload_n 0, 1) := by decide +kernel
theorem dX7_count_58 : decode cX7_count 58 = .ok (.getfield 20, 3) := by decide +kernel
theorem dX7_count_61 : decode cX7_count 61 = .ok (.iload_n 3, 1) := by decide +kernel
theorem dX7_count_62 : decode cX7_count 62 = .ok (.iaload, 1) := by decide +kernel
theorem dX7_count_63 : decode cX7_count 63 = .ok (.iload_n 1, 1) := by decide +kernel
theorem dX7_count_64 : decode cX7_count 64 = .ok (.if_icmp .ne 7, 3) := by decide +kernel
theorem dX7_count_67 : decode cX7_count 67 = .ok (.iconst 1, 1) := by decide +kernel
theorem dX7_count_68 : decode cX7_count 68 = .ok (.goto 4, 3) := by decide +kernel
theorem dX7_count_71 : decode cX7_count 71 = .ok (.iconst 0, 1) := by decide +kernel
theorem dX7_count_72 : decode cX7_count 72 = .ok (.iadd, 1) := by decide +kernel
theorem dX7_count_73 : decode cX7_count 73 = .ok (.istore_n 2, 1) := by decide +kernel
theorem dX7_count_74 : decode cX7_count 74 = .ok (.iinc 3 1, 3) := by decide +kernel
theorem dX7_count_77 : decode cX7_count 77 = .ok (.goto (-27), 3) := by decide +kernel
theorem dX7_count_80 : decode cX7_count 80 = .ok (.iload_n 2, 1) := by decide +kernel
theorem dX7_count_81 : decode cX7_count 81 = .ok (.ireturn, 1) := by decide +kernel
theorem dX7_count_82 : decode cX7_count 82 = .ok (.iconst 0, 1) := by decide +kernel
theorem dX7_count_83 : decode cX7_count 83 = .ok (.istore_n 3, 1) := by decide +kernel
theorem dX7_count_84 : decode cX7_count 84 = .ok (.iload_n 3, 1) := by decide +kernel
theorem dX7_count_85 : decode cX7_count 85 = .ok (.bipush 60, 2) := by decide +kernel
theorem dX7_count_87 : decode cX7_count 87 = .ok (.if_icmp .ge 26, 3) := by decide +kernel
theorem dX7_count_90 : decode cX7_count 90 = .ok (.iload_n 2, 1) := by decide +kernel
theorem dX7_count_91 : decode cX7_count 91 = .ok (.aload_n 0, 1) := by decide +kernel
theorem dX7_count_92 : decode cX7_count 92 = .ok (.getfield 13, 3) := by decide +kernel
theorem dX7_count_95 : decode cX7_count 95 = .ok (.iload_n 3, 1) := by decide +kernel
theorem dX7_count_96 : decode cX7_count 96 = .ok (.baload, 1) := by decide +kernel
theorem dX7_count_97 : decode cX7_count 97 = .ok (.ifCond .eq 7, 3) := by decide +kernel
theorem dX7_count_100 : decode cX7_count 100 = .ok (.iconst 1, 1) := by decide +kernel
theorem dX7_count_101 : decode cX7_count 101 = .ok (.goto 4, 3) := by decide +kernel
theorem dX7_count_104 : decode cX7_count 104 = .ok (.iconst 0, 1) := by decide +kernel
theorem dX7_count_105 : decode cX7_count 105 = .ok (.iadd, 1) := by decide +kernel
theorem dX7_count_106 : decode cX7_count 106 = .ok (.istore_n 2, 1) := by decide +kernel
theorem dX7_count_107 : decode cX7_count 107 = .ok (.iinc 3 1, 3) := by decide +kernel
theorem dX7_count_110 : decode cX7_count 110 = .ok (.goto (-26), 3) := by decide +kernel
theorem dX7_count_113 : decode cX7_count 113 = .ok (.iload_n 2, 1) := by decide +kernel
theorem dX7_count_114 : decode cX7_count 114 = .ok (.iconst 2, 1) := by decide +kernel
theorem dX7_count_115 : decode cX7_count 115 = .ok (.idiv, 1) := by decide +kernel
theorem dX7_count_116 : decode cX7_count 116 = .ok (.ireturn, 1) := by decide +kernel
theorem dX7_count_117 : decode cX7_count 117 = .ok (.iconst 0, 1) := by decide +kernel
theorem dX7_count_118 : decode cX7_count 118 = .ok (.istore_n 3, 1) := by decide +kernel
theorem dX7_count_119 : decode cX7_count 119 = .ok (.iload_n 3, 1) := by decide +kernel
theorem dX7_count_120 : decode cX7_count 120 = .ok (.bipush 12, 2) := by decide +kernel
theorem dX7_count_122 : decode cX7_count 122 = .ok (.if_icmp .ge 17, 3) := by decide +kernel
theorem dX7_count_125 : decode cX7_count 125 = .ok (.iload_n 2, 1) := by decide +kernel
theorem dX7_count_126 : decode cX7_count 126 = .ok (.aload_n 0, 1) := by decide +kernel
theorem dX7_count_127 : decode cX7_count 127 = .ok (.iload_n 3, 1) := by decide +kernel
theorem dX7_count_128 : decode cX7_count 128 = .ok (.invokevirtual 191, 3) := by decide +kernel
theorem dX7_count_131 : decode cX7_count 131 = .ok (.iadd, 1) := by decide +kernel
theorem dX7_count_132 : decode cX7_count 132 = .ok (.istore_n 2, 1) := by decide +kernel
theorem dX7_count_133 : decode cX7_count 133 = .ok (.iinc 3 1, 3) := by decide +kernel
theorem dX7_count_136 : decode cX7_count 136 = .ok (.goto (-17), 3) := by decide +kernel
theorem dX7_count_139 : decode cX7_count 139 = .ok (.iload_n 2, 1) := by decide +kernel
theorem dX7_count_140 : decode cX7_count 140 = .ok (.ireturn, 1) := by decide +kernel
theorem dX7_count_141 : decode cX7_count 141 = .ok (.iconst 0, 1) := by decide +kernel
theorem dX7_count_142 : decode cX7_count 142 = .ok (.istore_n 3, 1) := by decide +kernel
theorem dX7_count_143 : decode cX7_count 143 = .ok (.iload_n 3, 1) := by decide +kernel
theorem dX7_count_144 : decode cX7_count 144 = .ok (.bipush 12, 2) := by decide +kernel
theorem dX7_count_146 : decode cX7_count 146 = .ok (.if_icmp .ge 31, 3) := by decide +kernel
theorem dX7_count_149 : decode cX7_count 149 = .ok (.iload_n 2, 1) := by decide +kernel
theorem dX7_count_150 : decode cX7_count 150 = .ok (.aload_n 0, 1) := by decide +kernel
theorem dX7_count_151 : decode cX7_count 151 = .ok (.iload_n 3, 1) := by decide +kernel
theorem dX7_count_152 : decode cX7_count 152 = .ok (.invokevirtual 203, 3) := by decide +kernel
theorem dX7_count_155 : decode cX7_count 155 = .ok (.iconst 1, 1) := by decide +kernel
theorem dX7_count_156 : decode cX7_count 156 = .ok (.iload_n 3, 1) := by decide +kernel
theorem dX7_count_157 : decode cX7_count 157 = .ok (.ishl, 1) := by decide +kernel
theorem dX7_count_158 : decode cX7_count 158 = .ok (.iconst 1, 1) := by decide +kernel
theorem dX7_count_159 : decode cX7_count 159 = .ok (.isub, 1) := by decide +kernel
theorem dX7_count_160 : decode cX7_count 160 = .ok (.iand, 1) := by decide +kernel
theorem dX7_count_161 : decode cX7_count 161 = .ok (.ifCond .ne 7, 3) := by decide +kernel
theorem dX7_count_164 : decode cX7_count 164 = .ok (.iconst 1, 1) := by decide +kernel
theorem dX7_count_165 : decode cX7_count 165 = .ok (.goto 4, 3) := by decide +kernel
theorem dX7_count_168 : decode cX7_count 168 = .ok (.iconst 0, 1) := by decide +kernel
theorem dX7_count_169 : decode cX7_count 169 = .ok (.iadd, 1) := by decide +kernel
theorem dX7_count_170 : decode cX7_count 170 = .ok (.istore_n 2, 1) := by decide +kernel
theorem dX7_count_171 : decode cX7_count 171 = .ok (.iinc 3 1, 3) := by decide +kernel
theorem dX7_count_174 : decode cX7_count 174 = .ok (.goto (-31), 3) := by decide +kernel
theorem dX7_count_177 : decode cX7_count 177 = .ok (.iload_n 2, 1) := by decide +kernel
theorem dX7_count_178 : decode cX7_count 178 = .ok (.ireturn, 1) := by decide +kernel
theorem dX7_count_179 : decode cX7_count 179 = .ok (.aload_n 0, 1) := by decide +kernel
theorem dX7_count_180 : decode cX7_count 180 = .ok (.getfield 69, 3) := by decide +kernel
theorem dX7_count_183 : decode cX7_count 183 = .ok (.ireturn, 1) := by decide +kernel
theorem dX7_count_184 : decode cX7_count 184 = .ok (.bipush (-3), 2) := by decide +kernel
theorem dX7_count_186 : decode cX7_count 186 = .ok (.ireturn, 1) := by decide +kernel
theorem dJ6_bitCount_0f7a4_0 : decode cJ6_bitCount_0f7a4 0 = .ok (.iload_n 0, 1) := by decide +kernel
theorem dJ6_bitCount_0f7a4_1 : decode cJ6_bitCount_0f7a4 1 = .ok (.iload_n 0, 1) := by decide +kernel
theorem dJ6_bitCount_0f7a4_2 : decode cJ6_bitCount_0f7a4 2 = .ok (.iconst 1, 1) := by decide +kernel
theorem dJ6_bitCount_0f7a4_3 : decode cJ6_bitCount_0f7a4 3 = .ok (.iushr, 1) := by decide +kernel
theorem dJ6_bitCount_0f7a4_4 : decode cJ6_bitCount_0f7a4 4 = .ok (.ldc_w 265, 3) := by decide +kernel
theorem dJ6_bitCount_0f7a4_7 : decode cJ6_bitCount_0f7a4 7 = .ok (.iand, 1) := by decide +kernel
theorem dJ6_bitCount_0f7a4_8 : decode cJ6_bitCount_0f7a4 8 = .ok (.isub, 1) := by decide +kernel
theorem dJ6_bitCount_0f7a4_9 : decode cJ6_bitCount_0f7a4 9 = .ok (.istore_n 0, 1) := by decide +kernel
theorem dJ6_bitCount_0f7a4_10 : decode cJ6_bitCount_0f7a4 10 = .ok (.iload_n 0, 1) := by decide +kernel
theorem dJ6_bitCount_0f7a4_11 : decode cJ6_bitCount_0f7a4 11 = .ok (.ldc_w 266, 3) := by decide +kernel
theorem dJ6_bitCount_0f7a4_14 : decode cJ6_bitCount_0f7a4 14 = .ok (.iand, 1) := by decide +kernel
theorem dJ6_bitCount_0f7a4_15 : decode cJ6_bitCount_0f7a4 15 = .ok (.iload_n 0, 1) := by decide +kernel
theorem dJ6_bitCount_0f7a4_16 : decode cJ6_bitCount_0f7a4 16 = .ok (.iconst 2, 1) := by decide +kernel
theorem dJ6_bitCount_0f7a4_17 : decode cJ6_bitCount_0f7a4 17 = .ok (.iushr, 1) := by decide +kernel
theorem dJ6_bitCount_0f7a4_18 : decode cJ6_bitCount_0f7a4 18 = .ok (.ldc_w 266, 3) := by decide +kernel
theorem dJ6_bitCount_0f7a4_21 : decode cJ6_bitCount_0f7a4 21 = .ok (.iand, 1) := by decide +kernel
theorem dJ6_bitCount_0f7a4_22 : decode cJ6_bitCount_0f7a4 22 = .ok (.iadd, 1) := by decide +kernel
theorem dJ6_bitCount_0f7a4_23 : decode cJ6_bitCount_0f7a4 23 = .ok (.istore_n 0, 1) := by decide +kernel
theorem dJ6_bitCount_0f7a4_24 : decode cJ6_bitCount_0f7a4 24 = .ok (.iload_n 0, 1) := by decide +kernel
theorem dJ6_bitCount_0f7a4_25 : decode cJ6_bitCount_0f7a4 25 = .ok (.iload_n 0, 1) := by decide +kernel
theorem dJ6_bitCount_0f7a4_26 : decode cJ6_bitCount_0f7a4 26 = .ok (.iconst 4, 1) := by decide +kernel
theorem dJ6_bitCount_0f7a4_27 : decode cJ6_bitCount_0f7a4 27 = .ok (.iushr, 1) := by decide +kernel
theorem dJ6_bitCount_0f7a4_28 : decode cJ6_bitCount_0f7a4 28 = .ok (.iadd, 1) := by decide +kernel
theorem dJ6_bitCount_0f7a4_29 : decode cJ6_bitCount_0f7a4 29 = .ok (.ldc_w 267, 3) := by decide +kernel
theorem dJ6_bitCount_0f7a4_32 : decode cJ6_bitCount_0f7a4 32 = .ok (.iand, 1) := by decide +kernel
theorem dJ6_bitCount_0f7a4_33 : decode cJ6_bitCount_0f7a4 33 = .ok (.istore_n 0, 1) := by decide +kernel
theorem dJ6_bitCount_0f7a4_34 : decode cJ6_bitCount_0f7a4 34 = .ok (.iload_n 0, 1) := by decide +kernel
theorem dJ6_bitCount_0f7a4_35 : decode cJ6_bitCount_0f7a4 35 = .ok (.iload_n 0, 1) := by decide +kernel
theorem dJ6_bitCount_0f7a4_36 : decode cJ6_bitCount_0f7a4 36 = .ok (.bipush 8, 2) := by decide +kernel
theorem dJ6_bitCount_0f7a4_38 : decode cJ6_bitCount_0f7a4 38 = .ok (.iushr, 1) := by decide +kernel
theorem dJ6_bitCount_0f7a4_39 : decode cJ6_bitCount_0f7a4 39 = .ok (.iadd, 1) := by decide +kernel
theorem dJ6_bitCount_0f7a4_40 : decode cJ6_bitCount_0f7a4 40 = .ok (.istore_n 0, 1) := by decide +kernel
theorem dJ6_bitCount_0f7a4_41 : decode cJ6_bitCount_0f7a4 41 = .ok (.iload_n 0, 1) := by decide +kernel
theorem dJ6_bitCount_0f7a4_42 : decode cJ6_bitCount_0f7a4 42 = .ok (.iload_n 0, 1) := by decide +kernel
theorem dJ6_bitCount_0f7a4_43 : decode cJ6_bitCount_0f7a4 43 = .ok (.bipush 16, 2) := by decide +kernel
theorem dJ6_bitCount_0f7a4_45 : decode cJ6_bitCount_0f7a4 45 = .ok (.iushr, 1) := by decide +kernel
theorem dJ6_bitCount_0f7a4_46 : decode cJ6_bitCount_0f7a4 46 = .ok (.iadd, 1) := by decide +kernel
theorem dJ6_bitCount_0f7a4_47 : decode cJ6_bitCount_0f7a4 47 = .ok (.istore_n 0, 1) := by decide +kernel
theorem dJ6_bitCount_0f7a4_48 : decode cJ6_bitCount_0f7a4 48 = .ok (.iload_n 0, 1) := by decide +kernel
theorem dJ6_bitCount_0f7a4_49 : decode cJ6_bitCount_0f7a4 49 = .ok (.bipush 63, 2) := by decide +kernel
theorem dJ6_bitCount_0f7a4_51 : decode cJ6_bitCount_0f7a4 51 = .ok (.iand, 1) := by decide +kernel
theorem dJ6_bitCount_0f7a4_52 : decode cJ6_bitCount_0f7a4 52 = .ok (.ireturn, 1) := by decide +kernel
theorem dJ9_floorMod_7cf53_0 : decode cJ9_floorMod_7cf53 0 = .ok (.iload_n 0, 1) := by decide +kernel
theorem dJ9_floorMod_7cf53_1 : decode cJ9_floorMod_7cf53 1 = .ok (.iload_n 1, 1) := by decide +kernel
theorem dJ9_floorMod_7cf53_2 : decode cJ9_floorMod_7cf53 2 = .ok (.irem, 1) := by decide +kernel
theorem dJ9_floorMod_7cf53_3 : decode cJ9_floorMod_7cf53 3 = .ok (.istore_n 2, 1) := by decide +kernel
theorem dJ9_floorMod_7cf53_4 : decode cJ9_floorMod_7cf53 4 = .ok (.iload_n 0, 1) := by decide +kernel
theorem dJ9_floorMod_7cf53_5 : decode cJ9_floorMod_7cf53 5 = .ok (.iload_n 1, 1) := by decide +kernel
theorem dJ9_floorMod_7cf53_6 : decode cJ9_floorMod_7cf53 6 = .ok (.ixor, 1) := by decide +kernel
theorem dJ9_floorMod_7cf53_7 : decode cJ9_floorMod_7cf53 7 = .ok (.ifCond .ge 11, 3) := by decide +kernel
theorem dJ9_floorMod_7cf53_10 : decode cJ9_floorMod_7cf53 10 = .ok (.iload_n 2, 1) := by decide +kernel
theorem dJ9_floorMod_7cf53_11 : decode cJ9_floorMod_7cf53 11 = .ok (.ifCond .eq 7, 3) := by decide +kernel
theorem dJ9_floorMod_7cf53_14 : decode cJ9_floorMod_7cf53 14 = .ok (.iload_n 2, 1) := by decide +kernel
theorem dJ9_floorMod_7cf53_15 : decode cJ9_floorMod_7cf53 15 = .ok (.iload_n 1, 1) := by decide +kernel
theorem dJ9_floorMod_7cf53_16 : decode cJ9_floorMod_7cf53 16 = .ok (.iadd, 1) := by decide +kernel
theorem dJ9_floorMod_7cf53_17 : decode cJ9_floorMod_7cf53 17 = .ok (.ireturn, 1) := by decide +kernel
theorem dJ9_floorMod_7cf53_18 : decode cJ9_floorMod_7cf53 18 = .ok (.iload_n 2, 1) := by decide +kernel
theorem dJ9_floorMod_7cf53_19 : decode cJ9_floorMod_7cf53 19 = .ok (.ireturn, 1) := by decide +kernel
theorem dJ9_max_7cf53_0 : decode cJ9_max_7cf53 0 = .ok (.iload_n 0, 1) := by decide +kernel
theorem dJ9_max_7cf53_1 : decode cJ9_max_7cf53 1 = .ok (.iload_n 1, 1) := by decide +kernel
theorem dJ9_max_7cf53_2 : decode cJ9_max_7cf53 2 = .ok (.if_icmp .lt 7, 3) := by decide +kernel
theorem dJ9_max_7cf53_5 : decode cJ9_max_7cf53 5 = .ok (.iload_n 0, 1) := by decide +kernel
theorem dJ9_max_7cf53_6 : decode cJ9_max_7cf53 6 = .ok (.goto 4, 3) := by decide +kernel
theorem dJ9_max_7cf53_9 : decode cJ9_max_7cf53 9 = .ok (.iload_n 1, 1) := by decide +kernel
theorem dJ9_max_7cf53_10 : decode cJ9_max_7cf53 10 = .ok (.ireturn, 1) := by decide +kernel
theorem dJ0_length_8abf5_0 : decode cJ0_length_8abf5 0 = .ok (.aload_n 0, 1) := by decide +kernel
theorem dJ0_length_8abf5_1 : decode cJ0_length_8abf5 1 = .ok (.getfield 9, 3) := by decide +kernel
theorem dJ0_length_8abf5_4 : decode cJ0_length_8abf5 4 = .ok (.arraylength, 1) := by decide +kernel
theorem dJ0_length_8abf5_5 : decode cJ0_length_8abf5 5 = .ok (.aload_n 0, 1) := by decide +kernel
theorem dJ0_length_8abf5_6 : decode cJ0_length_8abf5 6 = .ok (.invokevirtual 335, 3) := by decide +kernel
theorem dJ0_length_8abf5_9 : decode cJ0_length_8abf5 9 = .ok (.ishr, 1) := by decide +kernel
theorem dJ0_length_8abf5_10 : decode cJ0_length_8abf5 10 = .ok (.ireturn, 1) := by decide +kernel
theorem dJ0_charAt_5068e_0 : decode cJ0_charAt_5068e 0 = .ok (.aload_n 0, 1) := by decide +kernel
theorem dJ0_charAt_5068e_1 : decode cJ0_charAt_5068e 1 = .ok (.invokevirtual 492, 3) := by decide +kernel
theorem dJ0_charAt_5068e_4 : decode cJ0_charAt_5068e 4 = .ok (.ifCond .eq 12, 3) := by decide +kernel
theorem dJ0_charAt_5068e_7 : decode cJ0_charAt_5068e 7 = .ok (.aload_n 0, 1) := by decide +kernel
theorem dJ0_charAt_5068e_8 : decode cJ0_charAt_5068e 8 = .ok (.getfield 9, 3) := by decide +kernel
theorem dJ0_charAt_5068e_11 : decode cJ0_charAt_5068e 11 = .ok (.iload_n 1, 1) := by decide +kernel
theorem dJ0_charAt_5068e_12 : decode cJ0_charAt_5068e 12 = .ok (.invokestatic 495, 3) := by decide +kernel
theorem dJ0_charAt_5068e_15 : decode cJ0_charAt_5068e 15 = .ok (.ireturn, 1) := by decide +kernel
theorem dJ0_charAt_5068e_16 : decode cJ0_charAt_5068e 16 = .ok (.aload_n 0, 1) := by decide +kernel
theorem dJ0_charAt_5068e_17 : decode cJ0_charAt_5068e 17 = .ok (.getfield 9, 3) := by decide +kernel
theorem dJ0_charAt_5068e_20 : decode cJ0_charAt_5068e 20 = .ok (.iload_n 1, 1) := by decide +kernel
theorem dJ0_charAt_5068e_21 : decode cJ0_charAt_5068e 21 = .ok (.invokestatic 498, 3) := by decide +kernel
theorem dJ0_charAt_5068e_24 : decode cJ0_charAt_5068e 24 = .ok (.ireturn, 1) := by decide +kernel
theorem dJ0_coder_7d493_0 : decode cJ0_coder_7d493 0 = .ok (.getstatic 38, 3) := by decide +kernel
theorem dJ0_coder_7d493_3 : decode cJ0_coder_7d493 3 = .ok (.ifCond .eq 10, 3) := by decide +kernel
theorem dJ0_coder_7d493_6 : decode cJ0_coder_7d493 6 = .ok (.aload_n 0, 1) := by decide +kernel
theorem dJ0_coder_7d493_7 : decode cJ0_coder_7d493 7 = .ok (.getfield 15, 3) := by decide +kernel
theorem dJ0_coder_7d493_10 : decode cJ0_coder_7d493 10 = .ok (.goto 4, 3) := by decide +kernel
theorem dJ0_coder_7d493_13 : decode cJ0_coder_7d493 13 = .ok (.iconst 1, 1) := by decide +kernel
theorem dJ0_coder_7d493_14 : decode cJ0_coder_7d493 14 = .ok (.ireturn, 1) := by decide +kernel
theorem dJ0_isLatin1_aae02_0 : decode cJ0_isLatin1_aae02 0 = .ok (.getstatic 38, 3) := by decide +kernel
theorem dJ0_isLatin1_aae02_3 : decode cJ0_isLatin1_aae02 3 = .ok (.ifCond .eq 14, 3) := by decide +kernel
theorem dJ0_isLatin1_aae02_6 : decode cJ0_isLatin1_aae02 6 = .ok (.aload_n 0, 1) := by decide +kernel
theorem dJ0_isLatin1_aae02_7 : decode cJ0_isLatin1_aae02 7 = .ok (.getfield 15, 3) := by decide +kernel
theorem dJ0_isLatin1_aae02_10 : decode cJ0_isLatin1_aae02 10 = .ok (.ifCond .ne 7, 3) := by decide +kernel
theorem dJ0_isLatin1_aae02_13 : decode cJ0_isLatin1_aae02 13 = .ok (.iconst 1, 1) := by decide +kernel
theorem dJ0_isLatin1_aae02_14 : decode cJ0_isLatin1_aae02 14 = .ok (.goto 4, 3) := by decide +kernel
theorem dJ0_isLatin1_aae02_17 : decode cJ0_isLatin1_aae02 17 = .ok (.iconst 0, 1) := by decide +kernel
theorem dJ0_isLatin1_aae02_18 : decode cJ0_isLatin1_aae02 18 = .ok (.ireturn, 1) := by decide +kernel
theorem dJ0_checkIndex_df160_0 : decode cJ0_checkIndex_df160 0 = .ok (.iload_n 0, 1) := by decide +kernel
theorem dJ0_checkIndex_df160_1 : decode cJ0_checkIndex_df160 1 = .ok (.iload_n 1, 1) := by decide +kernel
theorem dJ0_checkIndex_df160_2 : decode cJ0_checkIndex_df160 2 = .ok (.getstatic 1053, 3) := by decide +kernel
theorem dJ0_checkIndex_df160_5 : decode cJ0_checkIndex_df160 5 = .ok (.invokestatic 1059, 3) := by decide +kernel
theorem dJ0_checkIndex_df160_8 : decode cJ0_checkIndex_df160 8 = .ok (.pop, 1) := by decide +kernel
theorem dJ0_checkIndex_df160_9 : decode cJ0_checkIndex_df160 9 = .ok (.return_, 1) := by decide +kernel
theorem dJ1_charAt_3b067_0 : decode cJ1_charAt_3b067 0 = .ok (.iload_n 1, 1) := by decide +kernel
theorem dJ1_charAt_3b067_1 : decode cJ1_charAt_3b067 1 = .ok (.aload_n 0, 1) := by decide +kernel
theorem dJ1_charAt_3b067_2 : decode cJ1_charAt_3b067 2 = .ok (.arraylength, 1) := by decide +kernel
theorem dJ1_charAt_3b067_3 : decode cJ1_charAt_3b067 3 = .ok (.invokestatic 9, 3) := by decide +kernel
theorem dJ1_charAt_3b067_6 : decode cJ1_charAt_3b067 6 = .ok (.aload_n 0, 1) := by decide +kernel
theorem dJ1_charAt_3b067_7 : decode cJ1_charAt_3b067 7 = .ok (.iload_n 1, 1) := by decide +kernel
theorem dJ1_charAt_3b067_8 : decode cJ1_charAt_3b067 8 = .ok (.baload, 1) := by decide +kernel
theorem dJ1_charAt_3b067_9 : decode cJ1_charAt_3b067 9 = .ok (.sipush 255, 3) := by decide +kernel
theorem dJ1_charAt_3b067_12 : decode cJ1_charAt_3b067 12 = .ok (.iand, 1) := by decide +kernel
theorem dJ1_charAt_3b067_13 : decode cJ1_charAt_3b067 13 = .ok (.i2c, 1) := by decide +kernel
theorem dJ1_charAt_3b067_14 : decode cJ1_charAt_3b067 14 = .ok (.ireturn, 1) := by decide +kernel
theorem dJ2_getChar_3b067_0 : decode cJ2_getChar_3b067 0 = .ok (.getstatic 44, 3) := by decide +kernel
theorem dJ2_getChar_3b067_3 : decode cJ2_getChar_3b067 3 = .ok (.ifCond .ne 25, 3) := by decide +kernel
theorem dJ2_getChar_3b067_6 : decode cJ2_getChar_3b067 6 = .ok (.iload_n 1, 1) := by decide +kernel
theorem dJ2_getChar_3b067_7 : decode cJ2_getChar_3b067 7 = .ok (.ifCond .lt 11, 3) := by decide +kernel
theorem dJ2_getChar_3b067_10 : decode cJ2_getChar_3b067 10 = .ok (.iload_n 1, 1) := by decide +kernel
theorem dJ2_getChar_3b067_11 : decode cJ2_getChar_3b067 11 = .ok (.aload_n 0, 1) := by decide +kernel
theorem dJ2_getChar_3b067_12 : decode cJ2_getChar_3b067 12 = .ok (.invokestatic 48, 3) := by decide +kernel
theorem dJ2_getChar_3b067_15 : decode cJ2_getChar_3b067 15 = .ok (.if_icmp .lt 13, 3) := by decide +kernel
theorem dJ2_getChar_3b067_18 : decode cJ2_getChar_3b067 18 = .ok (.new 52, 3) := by decide +kernel
theorem dJ2_getChar_3b067_21 : decode cJ2_getChar_3b067 21 = .ok (.dup, 1) := by decide +kernel
theorem dJ2_getChar_3b067_22 : decode cJ2_getChar_3b067 22 = .ok (.ldc 54, 2) := by decide +kernel
theorem dJ2_getChar_3b067_24 : decode cJ2_getChar_3b067 24 = .ok (.invokespecial 56, 3) := by decide +kernel
theorem dJ2_getChar_3b067_27 : decode cJ2_getChar_3b067 27 = .ok (.athrow, 1) := by decide +kernel
theorem dJ2_getChar_3b067_28 : decode cJ2_getChar_3b067 28 = .ok (.iload_n 1, 1) := by decide +kernel
theorem dJ2_getChar_3b067_29 : decode cJ2_getChar_3b067 29 = .ok (.iconst 1, 1) := by decide +kernel
theorem dJ2_getChar_3b067_30 : decode cJ2_getChar_3b067 30 = .ok (.ishl, 1) := by decide +kernel
theorem dJ2_getChar_3b067_31 : decode cJ2_getChar_3b067 31 = .ok (.istore_n 1, 1) := by decide +kernel
theorem dJ2_getChar_3b067_32 : decode cJ2_getChar_3b067 32 = .ok (.aload_n 0, 1) := by decide +kernel
theorem dJ2_getChar_3b067_33 : decode cJ2_getChar_3b067 33 = .ok (.iload_n 1, 1) := by decide +kernel
theorem dJ2_getChar_3b067_34 : decode cJ2_getChar_3b067 34 = .ok (.iinc 1 1, 3) := by decide +kernel
theorem dJ2_getChar_3b067_37 : decode cJ2_getChar_3b067 37 = .ok (.baload, 1) := by decide +kernel
theorem dJ2_getChar_3b067_38 : decode cJ2_getChar_3b067 38 = .ok (.sipush 255, 3) := by decide +kernel
theorem dJ2_getChar_3b067_41 : decode cJ2_getChar_3b067 41 = .ok (.iand, 1) := by decide +kernel
theorem dJ2_getChar_3b067_42 : decode cJ2_getChar_3b067 42 = .ok (.getstatic 59, 3) := by decide +kernel
theorem dJ2_getChar_3b067_45 : decode cJ2_getChar_3b067 45 = .ok (.ishl, 1) := by decide +kernel
theorem dJ2_getChar_3b067_46 : decode cJ2_getChar_3b067 46 = .ok (.aload_n 0, 1) := by decide +kernel
theorem dJ2_getChar_3b067_47 : decode cJ2_getChar_3b067 47 = .ok (.iload_n 1, 1) := by decide +kernel
theorem dJ2_getChar_3b067_48 : decode cJ2_getChar_3b067 48 = .ok (.baload, 1) := by decide +kernel
theorem dJ2_getChar_3b067_49 : decode cJ2_getChar_3b067 49 = .ok (.sipush 255, 3) := by decide +kernel
theorem dJ2_getChar_3b067_52 : decode cJ2_getChar_3b067 52 = .ok (.iand, 1) := by decide +kernel
theorem dJ2_getChar_3b067_53 : decode cJ2_getChar_3b067 53 = .ok (.getstatic 63, 3) := by decide +kernel
theorem dJ2_getChar_3b067_56 : decode cJ2_getChar_3b067 56 = .ok (.ishl, 1) := by decide +kernel
theorem dJ2_getChar_3b067_57 : decode cJ2_getChar_3b067 57 = .ok (.ior, 1) := by decide +kernel
theorem dJ2_getChar_3b067_58 : decode cJ2_getChar_3b067 58 = .ok (.i2c, 1) := by decide +kernel
theorem dJ2_getChar_3b067_59 : decode cJ2_getChar_3b067 59 = .ok (.ireturn, 1) := by decide +kernel
theorem dJ2_length_9d52b_0 : decode cJ2_length_9d52b 0 = .ok (.aload_n 0, 1) := by decide +kernel
theorem dJ2_length_9d52b_1 : decode cJ2_length_9d52b 1 = .ok (.arraylength, 1) := by decide +kernel
theorem dJ2_length_9d52b_2 : decode cJ2_length_9d52b 2 = .ok (.iconst 1, 1) := by decide +kernel
theorem dJ2_length_9d52b_3 : decode cJ2_length_9d52b 3 = .ok (.ishr, 1) := by decide +kernel
theorem dJ2_length_9d52b_4 : decode cJ2_length_9d52b 4 = .ok (.ireturn, 1) := by decide +kernel
theorem dJ2_charAt_3b067_0 : decode cJ2_charAt_3b067 0 = .ok (.iload_n 1, 1) := by decide +kernel
theorem dJ2_charAt_3b067_1 : decode cJ2_charAt_3b067 1 = .ok (.aload_n 0, 1) := by decide +kernel
theorem dJ2_charAt_3b067_2 : decode cJ2_charAt_3b067 2 = .ok (.invokestatic 67, 3) := by decide +kernel
theorem dJ2_charAt_3b067_5 : decode cJ2_charAt_3b067 5 = .ok (.aload_n 0, 1) := by decide +kernel
theorem dJ2_charAt_3b067_6 : decode cJ2_charAt_3b067 6 = .ok (.iload_n 1, 1) := by decide +kernel
theorem dJ2_charAt_3b067_7 : decode cJ2_charAt_3b067 7 = .ok (.invokestatic 71, 3) := by decide +kernel
theorem dJ2_charAt_3b067_10 : decode cJ2_charAt_3b067 10 = .ok (.ireturn, 1) := by decide +kernel
theorem dJ2_checkIndex_2214a_0 : decode cJ2_checkIndex_2214a 0 = .ok (.iload_n 0, 1) := by decide +kernel
theorem dJ2_checkIndex_2214a_1 : decode cJ2_checkIndex_2214a 1 = .ok (.aload_n 1, 1) := by decide +kernel
theorem dJ2_checkIndex_2214a_2 : decode cJ2_checkIndex_2214a 2 = .ok (.invokestatic 48, 3) := by decide +kernel
theorem dJ2_checkIndex_2214a_5 : decode cJ2_checkIndex_2214a 5 = .ok (.invokestatic 414, 3) := by decide +kernel
theorem dJ2_checkIndex_2214a_8 : decode cJ2_checkIndex_2214a 8 = .ok (.return_, 1) := by decide +kernel
theorem dJ3_checkIndex_8e157_0 : decode cJ3_checkIndex_8e157 0 = .ok (.iload_n 0, 1) := by decide +kernel
theorem dJ3_checkIndex_8e157_1 : decode cJ3_checkIndex_8e157 1 = .ok (.ifCond .lt 8, 3) := by decide +kernel
theorem dJ3_checkIndex_8e157_4 : decode cJ3_checkIndex_8e157 4 = .ok (.iload_n 0, 1) := by decide +kernel
theorem dJ3_checkIndex_8e157_5 : decode cJ3_checkIndex_8e157 5 = .ok (.iload_n 1, 1) := by decide +kernel
theorem dJ3_checkIndex_8e157_6 : decode cJ3_checkIndex_8e157 6 = .ok (.if_icmp .lt 10, 3) := by decide +kernel
theorem dJ3_checkIndex_8e157_9 : decode cJ3_checkIndex_8e157 9 = .ok (.aload_n 2, 1) := by decide +kernel
theorem dJ3_checkIndex_8e157_10 : decode cJ3_checkIndex_8e157 10 = .ok (.iload_n 0, 1) := by decide +kernel
theorem dJ3_checkIndex_8e157_11 : decode cJ3_checkIndex_8e157 11 = .ok (.iload_n 1, 1) := by decide +kernel
theorem dJ3_checkIndex_8e157_12 : decode cJ3_checkIndex_8e157 12 = .ok (.invokestatic 95, 3) := by decide +kernel
theorem dJ3_checkIndex_8e157_15 : decode cJ3_checkIndex_8e157 15 = .ok (.athrow, 1) := by decide +kernel
theorem dJ3_checkIndex_8e157_16 : decode cJ3_checkIndex_8e157 16 = .ok (.iload_n 0, 1) := by decide +kernel
theorem dJ3_checkIndex_8e157_17 : decode cJ3_checkIndex_8e157 17 = .ok (.ireturn, 1) := by decide +kernel
theorem dL_law_0 : decode cL_law 0 = .ok (.new 7, 3) := by decide +kernel
theorem dL_law_3 : decode cL_law 3 = .ok (.dup, 1) := by decide +kernel
theorem dL_law_4 : decode cL_law 4 = .ok (.invokespecial 9, 3) := by decide +kernel
theorem dL_law_7 : decode cL_law 7 = .ok (.astore_n 1, 1) := by decide +kernel
theorem dL_law_8 : decode cL_law 8 = .ok (.new 10, 3) := by decide +kernel
theorem dL_law_11 : decode cL_law 11 = .ok (.dup, 1) := by decide +kernel
theorem dL_law_12 : decode cL_law 12 = .ok (.invokespecial 12, 3) := by decide +kernel
theorem dL_law_15 : decode cL_law 15 = .ok (.astore_n 2, 1) := by decide +kernel
theorem dL_law_16 : decode cL_law 16 = .ok (.iconst 0, 1) := by decide +kernel
theorem dL_law_17 : decode cL_law 17 = .ok (.istore_n 3, 1) := by decide +kernel
theorem dL_law_18 : decode cL_law 18 = .ok (.iload_n 3, 1) := by decide +kernel
theorem dL_law_19 : decode cL_law 19 = .ok (.aload_n 0, 1) := by decide +kernel
theorem dL_law_20 : decode cL_law 20 = .ok (.arraylength, 1) := by decide +kernel
theorem dL_law_21 : decode cL_law 21 = .ok (.iconst 5, 1) := by decide +kernel
theorem dL_law_22 : decode cL_law 22 = .ok (.isub, 1) := by decide +kernel
theorem dL_law_23 : decode cL_law 23 = .ok (.if_icmp .gt 914, 3) := by decide +kernel
theorem dL_law_26 : decode cL_law 26 = .ok (.aload_n 0, 1) := by decide +kernel
theorem dL_law_27 : decode cL_law 27 = .ok (.iload_n 3, 1) := by decide +kernel
theorem dL_law_28 : decode cL_law 28 = .ok (.iaload, 1) := by decide +kernel
theorem dL_law_29 : decode cL_law 29 = .ok (.bipush 31, 2) := by decide +kernel
theorem dL_law_31 : decode cL_law 31 = .ok (.iand, 1) := by decide +kernel
theorem dL_law_32 : decode cL_law 32 = .ok (.tableswitch 899 0 26 #[124, 187, 200, 213, 226, 259, 292, 325, 348, 391, 424, 457, 490, 513, 536, 559, 582, 605, 618, 641, 685, 709, 732, 755, 778, 822, 876], 124) := by decide +kernel
theorem dL_law_156 : decode cL_law 156 = .ok (.aload_n 1, 1) := by decide +kernel
theorem dL_law_157 : decode cL_law 157 = .ok (.aload_n 0, 1) := by decide +kernel
theorem dL_law_158 : decode cL_law 158 = .ok (.iload_n 3, 1) := by decide +kernel
theorem dL_law_159 : decode cL_law 159 = .ok (.iconst 1, 1) := by decide +kernel
theorem dL_law_160 : decode cL_law 160 = .ok (.iadd, 1) := by decide +kernel
theorem dL_law_161 : decode cL_law 161 = .ok (.iaload, 1) := by decide +kernel
theorem dL_law_162 : decode cL_law 162 = .ok (.i2l, 1) := by decide +kernel
theorem dL_law_163 : decode cL_law 163 = .ok (.bipush 32, 2) := by decide +kernel
theorem dL_law_165 : decode cL_law 165 = .ok (.lshl, 1) := by decide +kernel
theorem dL_law_166 : decode cL_law 166 = .ok (.aload_n 0, 1) := by decide +kernel
theorem dL_law_167 : decode cL_law 167 = .ok (.iload_n 3, 1) := by decide +kernel
theorem dL_law_168 : decode cL_law 168 = .ok (.iconst 2, 1) := by decide +kernel
theorem dL_law_169 : decode cL_law 169 = .ok (.iadd, 1) := by decide +kernel
theorem dL_law_170 : decode cL_law 170 = .ok (.iaload, 1) := by decide +kernel
theorem dL_law_171 : decode cL_law 171 = .ok (.i2l, 1) := by decide +kernel
theorem dL_law_172 : decode cL_law 172 = .ok (.ldc2_w 13, 3) := by decide +kernel
theorem dL_law_175 : decode cL_law 175 = .ok (.land, 1) := by decide +kernel
theorem dL_law_176 : decode cL_law 176 = .ok (.lor, 1) := by decide +kernel
theorem dL_law_177 : decode cL_law 177 = .ok (.aload_n 0, 1) := by decide +kernel
theorem dL_law_178 : decode cL_law 178 = .ok (.iload_n 3, 1) := by decide +kernel
theorem dL_law_179 : decode cL_law 179 = .ok (.iconst 3, 1) := by decide +kernel
theorem dL_law_180 : decode cL_law 180 = .ok (.iadd, 1) := by decide +kernel
theorem dL_law_181 : decode cL_law 181 = .ok (.iaload, 1) := by decide +kernel
theorem dL_law_182 : decode cL_law 182 = .ok (.invokevirtual 15, 3) := by decide +kernel
theorem dL_law_185 : decode cL_law 185 = .ok (.aload_n 2, 1) := by decide +kernel
theorem dL_law_186 : decode cL_law 186 = .ok (.aload_n 0, 1) := by decide +kernel
theorem dL_law_187 : decode cL_law 187 = .ok (.iload_n 3, 1) := by decide +kernel
theorem dL_law_188 : decode cL_law 188 = .ok (.iconst 1, 1) := by decide +kernel
theorem dL_law_189 : decode cL_law 189 = .ok (.iadd, 1) := by decide +kernel
theorem dL_law_190 : decode cL_law 190 = .ok (.iaload, 1) := by decide +kernel
theorem dL_law_191 : decode cL_law 191 = .ok (.i2l, 1) := by decide +kernel
theorem dL_law_192 : decode cL_law 192 = .ok (.bipush 32, 2) := by decide +kernel
theorem dL_law_194 : decode cL_law 194 = .ok (.lshl, 1) := by decide +kernel
theorem dL_law_195 : decode cL_law 195 = .ok (.aload_n 0, 1) := by decide +kernel
theorem dL_law_196 : decode cL_law 196 = .ok (.iload_n 3, 1) := by decide +kernel
theorem dL_law_197 : decode cL_law 197 = .ok (.iconst 2, 1) := by decide +kernel
theorem dL_law_198 : decode cL_law 198 = .ok (.iadd, 1) := by decide +kernel
theorem dL_law_199 : decode cL_law 199 = .ok (.iaload, 1) := by decide +kernel
theorem dL_law_200 : decode cL_law 200 = .ok (.i2l, 1) := by decide +kernel
theorem dL_law_201 : decode cL_law 201 = .ok (.ldc2_w 13, 3) := by decide +kernel
theorem dL_law_204 : decode cL_law 204 = .ok (.land, 1) := by decide +kernel
theorem dL_law_205 : decode cL_law 205 = .ok (.lor, 1) := by decide +kernel
theorem dL_law_206 : decode cL_law 206 = .ok (.aload_n 0, 1) := by decide +kernel
theorem dL_law_207 : decode cL_law 207 = .ok (.iload_n 3, 1) := by decide +kernel
theorem dL_law_208 : decode cL_law 208 = .ok (.iconst 3, 1) := by decide +kernel
theorem dL_law_209 : decode cL_law 209 = .ok (.iadd, 1) := by decide +kernel
theorem dL_law_210 : decode cL_law 210 = .ok (.iaload, 1) := by decide +kernel
theorem dL_law_211 : decode cL_law 211 = .ok (.invokevirtual 19, 3) := by decide +kernel
theorem dL_law_214 : decode cL_law 214 = .ok (.if_icmp .eq 717, 3) := by decide +kernel
theorem dL_law_217 : decode cL_law 217 = .ok (.iconst 0, 1) := by decide +kernel
theorem dL_law_218 : decode cL_law 218 = .ok (.ireturn, 1) := by decide +kernel
theorem dL_law_219 : decode cL_law 219 = .ok (.aload_n 1, 1) := by decide +kernel
theorem dL_law_220 : decode cL_law 220 = .ok (.invokevirtual 20, 3) := by decide +kernel
theorem dL_law_223 : decode cL_law 223 = .ok (.aload_n 2, 1) := by decide +kernel
theorem dL_law_224 : decode cL_law 224 = .ok (.invokevirtual 24, 3) := by decide +kernel
theorem dL_law_227 : decode cL_law 227 = .ok (.if_icmp .eq 704, 3) := by decide +kernel
theorem dL_law_230 : decode cL_law 230 = .ok (.iconst 0, 1) := by decide +kernel
theorem dL_law_231 : decode cL_law 231 = .ok (.ireturn, 1) := by decide +kernel
theorem dL_law_232 : decode cL_law 232 = .ok (.aload_n 1, 1) := by decide +kernel
theorem dL_law_233 : decode cL_law 233 = .ok (.invokevirtual 25, 3) := by decide +kernel
theorem dL_law_236 : decode cL_law 236 = .ok (.aload_n 2, 1) := by decide +kernel
theorem dL_law_237 : decode cL_law 237 = .ok (.invokevirtual 28, 3) := by decide +kernel
theorem dL_law_240 : decode cL_law 240 = .ok (.if_icmp .eq 691, 3) := by decide +kernel
theorem dL_law_243 : decode cL_law 243 = .ok (.iconst 0, 1) := by decide +kernel
theorem dL_law_244 : decode cL_law 244 = .ok (.ireturn, 1) := by decide +kernel
theorem dL_law_245 : decode cL_law 245 = .ok (.aload_n 1, 1) := by decide +kernel
theorem dL_law_246 : decode cL_law 246 = .ok (.invokevirtual 29, 3) := by decide +kernel
theorem dL_law_249 : decode cL_law 249 = .ok (.aload_n 2, 1) := by decide +kernel
theorem dL_law_250 : decode cL_law 250 = .ok (.invokevirtual 32, 3) := by decide +kernel
theorem dL_law_253 : decode cL_law 253 = .ok (.if_icmp .eq 678, 3) := by decide +kernel
theorem dL_law_256 : decode cL_law 256 = .ok (.iconst 0, 1) := by decide +kernel
theorem dL_law_257 : decode cL_law 257 = .ok (.ireturn, 1) := by decide +kernel
theorem dL_law_258 : decode cL_law 258 = .ok (.aload_n 1, 1) := by decide +kernel
theorem dL_law_259 : decode cL_law 259 = .ok (.aload_n 0, 1) := by decide +kernel
theorem dL_law_260 : decode cL_law 260 = .ok (.iload_n 3, 1) := by decide +kernel
theorem dL_law_261 : decode cL_law 261 = .ok (.iconst 1, 1) := by decide +kernel
theorem dL_law_262 : decode cL_law 262 = .ok (.iadd, 1) := by decide +kernel
theorem dL_law_263 : decode cL_law 263 = .ok (.iaload, 1) := by decide +kernel
theorem dL_law_264 : decode cL_law 264 = .ok (.aload_n 0, 1) := by decide +kernel
theorem dL_law_265 : decode cL_law 265 = .ok (.iload_n 3, 1) := by decide +kernel
theorem dL_law_266 : decode cL_law 266 = .ok (.iconst 2, 1) := by decide +kernel
theorem dL_law_267 : decode cL_law 267 = .ok (.iadd, 1) := by decide +kernel
theorem dL_law_268 : decode cL_law 268 = .ok (.iaload, 1) := by decide +kernel
theorem dL_law_269 : decode cL_law 269 = .ok (.invokevirtual 33, 3) := by decide +kernel
theorem dL_law_272 : decode cL_law 272 = .ok (.aload_n 2, 1) := by decide +kernel
theorem dL_law_273 : decode cL_law 273 = .ok (.aload_n 0, 1) := by decide +kernel
theorem dL_law_274 : decode cL_law 274 = .ok (.iload_n 3, 1) := by decide +kernel
theorem dL_law_275 : decode cL_law 275 = .ok (.iconst 1, 1) := by decide +kernel
theorem dL_law_276 : decode cL_law 276 = .ok (.iadd, 1) := by decide +kernel
theorem dL_law_277 : decode cL_law 277 = .ok (.iaload, 1) := by decide +kernel
theorem dL_law_278 : decode cL_law 278 = .ok (.aload_n 0, 1) := by decide +kernel
theorem dL_law_279 : decode cL_law 279 = .ok (.iload_n 3, 1) := by decide +kernel
theorem dL_law_280 : decode cL_law 280 = .ok (.iconst 2, 1) := by decide +kernel
theorem dL_law_281 : decode cL_law 281 = .ok (.iadd, 1) := by decide +kernel
theorem dL_law_282 : decode cL_law 282 = .ok (.iaload, 1) := by decide +kernel
theorem dL_law_283 : decode cL_law 283 = .ok (.invokevirtual 37, 3) := by decide +kernel
theorem dL_law_286 : decode cL_law 286 = .ok (.if_icmp .eq 645, 3) := by decide +kernel
theorem dL_law_289 : decode cL_law 289 = .ok (.iconst 0, 1) := by decide +kernel
theorem dL_law_290 : decode cL_law 290 = .ok (.ireturn, 1) := by decide +kernel
theorem dL_law_291 : decode cL_law 291 = .ok (.aload_n 1, 1) := by decide +kernel
theorem dL_law_292 : decode cL_law 292 = .ok (.aload_n 0, 1) := by decide +kernel
theorem dL_law_293 : decode cL_law 293 = .ok (.iload_n 3, 1) := by decide +kernel
theorem dL_law_294 : decode cL_law 294 = .ok (.iconst 1, 1) := by decide +kernel
theorem dL_law_295 : decode cL_law 295 = .ok (.iadd, 1) := by decide +kernel
theorem dL_law_296 : decode cL_law 296 = .ok (.iaload, 1) := by decide +kernel
theorem dL_law_297 : decode cL_law 297 = .ok (.aload_n 0, 1) := by decide +kernel
theorem dL_law_298 : decode cL_law 298 = .ok (.iload_n 3, 1) := by decide +kernel
theorem dL_law_299 : decode cL_law 299 = .ok (.iconst 2, 1) := by decide +kernel
theorem dL_law_300 : decode cL_law 300 = .ok (.iadd, 1) := by decide +kernel
theorem dL_law_301 : decode cL_law 301 = .ok (.iaload, 1) := by decide +kernel
theorem dL_law_302 : decode cL_law 302 = .ok (.invokevirtual 38, 3) := by decide +kernel
theorem dL_law_305 : decode cL_law 305 = .ok (.aload_n 2, 1) := by decide +kernel
theorem dL_law_306 : decode cL_law 306 = .ok (.aload_n 0, 1) := by decide +kernel
theorem dL_law_307 : decode cL_law 307 = .ok (.iload_n 3, 1) := by decide +kernel
theorem dL_law_308 : decode cL_law 308 = .ok (.iconst 1, 1) := by decide +kernel
theorem dL_law_309 : decode cL_law 309 = .ok (.iadd, 1) := by decide +kernel
theorem dL_law_310 : decode cL_law 310 = .ok (.iaload, 1) := by decide +kernel
theorem dL_law_311 : decode cL_law 311 = .ok (.aload_n 0, 1) := by decide +kernel
theorem dL_law_312 : decode cL_law 312 = .ok (.iload_n 3, 1) := by decide +kernel
theorem dL_law_313 : decode cL_law 313 = .ok (.iconst 2, 1) := by decide +kernel
theorem dL_law_314 : decode cL_law 314 = .ok (.iadd, 1) := by decide +kernel
theorem dL_law_315 : decode cL_law 315 = .ok (.iaload, 1) := by decide +kernel
theorem dL_law_316 : decode cL_law 316 = .ok (.invokevirtual 41, 3) := by decide +kernel
theorem dL_law_319 : decode cL_law 319 = .ok (.if_icmp .eq 612, 3) := by decide +kernel
theorem dL_law_322 : decode cL_law 322 = .ok (.iconst 0, 1) := by decide +kernel
theorem dL_law_323 : decode cL_law 323 = .ok (.ireturn, 1) := by decide +kernel
theorem dL_law_324 : decode cL_law 324 = .ok (.aload_n 1, 1) := by decide +kernel
theorem dL_law_325 : decode cL_law 325 = .ok (.aload_n 0, 1) := by decide +kernel
theorem dL_law_326 : decode cL_law 326 = .ok (.iload_n 3, 1) := by decide +kernel
theorem dL_law_327 : decode cL_law 327 = .ok (.iconst 1, 1) := by decide +kernel
theorem dL_law_328 : decode cL_law 328 = .ok (.iadd, 1) := by decide +kernel
theorem dL_law_329 : decode cL_law 329 = .ok (.iaload, 1) := by decide +kernel
theorem dL_law_330 : decode cL_law 330 = .ok (.aload_n 0, 1) := by decide +kernel
theorem dL_law_331 : decode cL_law 331 = .ok (.iload_n 3, 1) := by decide +kernel
theorem dL_law_332 : decode cL_law 332 = .ok (.iconst 2, 1) := by decide +kernel
theorem dL_law_333 : decode cL_law 333 = .ok (.iadd, 1) := by decide +kernel
theorem dL_law_334 : decode cL_law 334 = .ok (.iaload, 1) := by decide +kernel
theorem dL_law_335 : decode cL_law 335 = .ok (.invokevirtual 42, 3) := by decide +kernel
theorem dL_law_338 : decode cL_law 338 = .ok (.aload_n 2, 1) := by decide +kernel
theorem dL_law_339 : decode cL_law 339 = .ok (.aload_n 0, 1) := by decide +kernel
theorem dL_law_340 : decode cL_law 340 = .ok (.iload_n 3, 1) := by decide +kernel
theorem dL_law_341 : decode cL_law 341 = .ok (.iconst 1, 1) := by decide +kernel
theorem dL_law_342 : decode cL_law 342 = .ok (.iadd, 1) := by decide +kernel
theorem dL_law_343 : decode cL_law 343 = .ok (.iaload, 1) := by decide +kernel
theorem dL_law_344 : decode cL_law 344 = .ok (.aload_n 0, 1) := by decide +kernel
theorem dL_law_345 : decode cL_law 345 = .ok (.iload_n 3, 1) := by decide +kernel
theorem dL_law_346 : decode cL_law 346 = .ok (.iconst 2, 1) := by decide +kernel
theorem dL_law_347 : decode cL_law 347 = .ok (.iadd, 1) := by decide +kernel
theorem dL_law_348 : decode cL_law 348 = .ok (.iaload, 1) := by decide +kernel
theorem dL_law_349 : decode cL_law 349 = .ok (.invokevirtual 45, 3) := by decide +kernel
theorem dL_law_352 : decode cL_law 352 = .ok (.if_icmp .eq 579, 3) := by decide +kernel
theorem dL_law_355 : decode cL_law 355 = .ok (.iconst 0, 1) := by decide +kernel
theorem dL_law_356 : decode cL_law 356 = .ok (.ireturn, 1) := by decide +kernel
theorem dL_law_357 : decode cL_law 357 = .ok (.aload_n 1, 1) := by decide +kernel
theorem dL_law_358 : decode cL_law 358 = .ok (.aload_n 0, 1) := by decide +kernel
theorem dL_law_359 : decode cL_law 359 = .ok (.iload_n 3, 1) := by decide +kernel
theorem dL_law_360 : decode cL_law 360 = .ok (.iconst 1, 1) := by decide +kernel
theorem dL_law_361 : decode cL_law 361 = .ok (.iadd, 1) := by decide +kernel
theorem dL_law_362 : decode cL_law 362 = .ok (.iaload, 1) := by decide +kernel
theorem dL_law_363 : decode cL_law 363 = .ok (.invokevirtual 46, 3) := by decide +kernel
theorem dL_law_366 : decode cL_law 366 = .ok (.aload_n 2, 1) := by decide +kernel
theorem dL_law_367 : decode cL_law 367 = .ok (.aload_n 0, 1) := by decide +kernel
theorem dL_law_368 : decode cL_law 368 = .ok (.iload_n 3, 1) := by decide +kernel
theorem dL_law_369 : decode cL_law 369 = .ok (.iconst 1, 1) := by decide +kernel
theorem dL_law_370 : decode cL_law 370 = .ok (.iadd, 1) := by decide +kernel
theorem dL_law_371 : decode cL_law 371 = .ok (.iaload, 1) := by decide +kernel
theorem dL_law_372 : decode cL_law 372 = .ok (.invokevirtual 50, 3) := by decide +kernel
theorem dL_law_375 : decode cL_law 375 = .ok (.if_icmp .eq 556, 3) := by decide +kernel
theorem dL_law_378 : decode cL_law 378 = .ok (.iconst 0, 1) := by decide +kernel
theorem dL_law_379 : decode cL_law 379 = .ok (.ireturn, 1) := by decide +kernel
theorem dL_law_380 : decode cL_law 380 = .ok (.aload_n 1, 1) := by decide +kernel
theorem dL_law_381 : decode cL_law 381 = .ok (.aload_n 0, 1) := by decide +kernel
theorem dL_law_382 : decode cL_law 382 = .ok (.iload_n 3, 1) := by decide +kernel
theorem dL_law_383 : decode cL_law 383 = .ok (.iconst 1, 1) := by decide +kernel
theorem dL_law_384 : decode cL_law 384 = .ok (.iadd, 1) := by decide +kernel
theorem dL_law_385 : decode cL_law 385 = .ok (.iaload, 1) := by decide +kernel
theorem dL_law_386 : decode cL_law 386 = .ok (.aload_n 0, 1) := by decide +kernel
theorem dL_law_387 : decode cL_law 387 = .ok (.iload_n 3, 1) := by decide +kernel
theorem dL_law_388 : decode cL_law 388 = .ok (.iconst 2, 1) := by decide +kernel
theorem dL_law_389 : decode cL_law 389 = .ok (.iadd, 1) := by decide +kernel
theorem dL_law_390 : decode cL_law 390 = .ok (.iaload, 1) := by decide +kernel
theorem dL_law_391 : decode cL_law 391 = .ok (.aload_n 0, 1) := by decide +kernel
theorem dL_law_392 : decode cL_law 392 = .ok (.iload_n 3, 1) := by decide +kernel
theorem dL_law_393 : decode cL_law 393 = .ok (.iconst 3, 1) := by decide +kernel
theorem dL_law_394 : decode cL_law 394 = .ok (.iadd, 1) := by decide +kernel
theorem dL_law_395 : decode cL_law 395 = .ok (.iaload, 1) := by decide +kernel
theorem dL_law_396 : decode cL_law 396 = .ok (.invokevirtual 51, 3) := by decide +kernel
theorem dL_law_399 : decode cL_law 399 = .ok (.aload_n 2, 1) := by decide +kernel
theorem dL_law_400 : decode cL_law 400 = .ok (.aload_n 0, 1) := by decide +kernel
theorem dL_law_401 : decode cL_law 401 = .ok (.iload_n 3, 1) := by decide +kernel
theorem dL_law_402 : decode cL_law 402 = .ok (.iconst 1, 1) := by decide +kernel
theorem dL_law_403 : decode cL_law 403 = .ok (.iadd, 1) := by decide +kernel
theorem dL_law_404 : decode cL_law 404 = .ok (.iaload, 1) := by decide +kernel
theorem dL_law_405 : decode cL_law 405 = .ok (.aload_n 0, 1) := by decide +kernel
theorem dL_law_406 : decode cL_law 406 = .ok (.iload_n 3, 1) := by decide +kernel
theorem dL_law_407 : decode cL_law 407 = .ok (.iconst 2, 1) := by decide +kernel
theorem dL_law_408 : decode cL_law 408 = .ok (.iadd, 1) := by decide +kernel
theorem dL_law_409 : decode cL_law 409 = .ok (.iaload, 1) := by decide +kernel
theorem dL_law_410 : decode cL_law 410 = .ok (.aload_n 0, 1) := by decide +kernel
theorem dL_law_411 : decode cL_law 411 = .ok (.iload_n 3, 1) := by decide +kernel
theorem dL_law_412 : decode cL_law 412 = .ok (.iconst 3, 1) := by decide +kernel
theorem dL_law_413 : decode cL_law 413 = .ok (.iadd, 1) := by decide +kernel
theorem dL_law_414 : decode cL_law 414 = .ok (.iaload, 1) := by decide +kernel
theorem dL_law_415 : decode cL_law 415 = .ok (.invokevirtual 55, 3) := by decide +kernel
theorem dL_law_418 : decode cL_law 418 = .ok (.if_icmp .eq 513, 3) := by decide +kernel
theorem dL_law_421 : decode cL_law 421 = .ok (.iconst 0, 1) := by decide +kernel
theorem dL_law_422 : decode cL_law 422 = .ok (.ireturn, 1) := by decide +kernel
theorem dL_law_423 : decode cL_law 423 = .ok (.aload_n 1, 1) := by decide +kernel
theorem dL_law_424 : decode cL_law 424 = .ok (.aload_n 0, 1) := by decide +kernel
theorem dL_law_425 : decode cL_law 425 = .ok (.iload_n 3, 1) := by decide +kernel
theorem dL_law_426 : decode cL_law 426 = .ok (.iconst 1, 1) := by decide +kernel
theorem dL_law_427 : decode cL_law 427 = .ok (.iadd, 1) := by decide +kernel
theorem dL_law_428 : decode cL_law 428 = .ok (.iaload, 1) := by decide +kernel
theorem dL_law_429 : decode cL_law 429 = .ok (.aload_n 0, 1) := by decide +kernel
theorem dL_law_430 : decode cL_law 430 = .ok (.iload_n 3, 1) := by decide +kernel
theorem dL_law_431 : decode cL_law 431 = .ok (.iconst 2, 1) := by decide +kernel
theorem dL_law_432 : decode cL_law 432 = .ok (.iadd, 1) := by decide +kernel
theorem dL_law_433 : decode cL_law 433 = .ok (.iaload, 1) := by decide +kernel
theorem dL_law_434 : decode cL_law 434 = .ok (.invokevirtual 56, 3) := by decide +kernel
theorem dL_law_437 : decode cL_law 437 = .ok (.aload_n 2, 1) := by decide +kernel
theorem dL_law_438 : decode cL_law 438 = .ok (.aload_n 0, 1) := by decide +kernel
theorem dL_law_439 : decode cL_law 439 = .ok (.iload_n 3, 1) := by decide +kernel
theorem dL_law_440 : decode cL_law 440 = .ok (.iconst 1, 1) := by decide +kernel
theorem dL_law_441 : decode cL_law 441 = .ok (.iadd, 1) := by decide +kernel
theorem dL_law_442 : decode cL_law 442 = .ok (.iaload, 1) := by decide +kernel
theorem dL_law_443 : decode cL_law 443 = .ok (.aload_n 0, 1) := by decide +kernel
theorem dL_law_444 : decode cL_law 444 = .ok (.iload_n 3, 1) := by decide +kernel
theorem dL_law_445 : decode cL_law 445 = .ok (.iconst 2, 1) := by decide +kernel
theorem dL_law_446 : decode cL_law 446 = .ok (.iadd, 1) := by decide +kernel
theorem dL_law_447 : decode cL_law 447 = .ok (.iaload, 1) := by decide +kernel
theorem dL_law_448 : decode cL_law 448 = .ok (.invokevirtual 59, 3) := by decide +kernel
theorem dL_law_451 : decode cL_law 451 = .ok (.if_icmp .eq 480, 3) := by decide +kernel
theorem dL_law_454 : decode cL_law 454 = .ok (.iconst 0, 1) := by decide +kernel
theorem dL_law_455 : decode cL_law 455 = .ok (.ireturn, 1) := by decide +kernel
theorem dL_law_456 : decode cL_law 456 = .ok (.aload_n 1, 1) := by decide +kernel
theorem dL_law_457 : decode cL_law 457 = .ok (.aload_n 0, 1) := by decide +kernel
theorem dL_law_458 : decode cL_law 458 = .ok (.iload_n 3, 1) := by decide +kernel
theorem dL_law_459 : decode cL_law 459 = .ok (.iconst 1, 1) := by decide +kernel
theorem dL_law_460 : decode cL_law 460 = .ok (.iadd, 1) := by decide +kernel
theorem dL_law_461 : decode cL_law 461 = .ok (.iaload, 1) := by decide +kernel
theorem dL_law_462 : decode cL_law 462 = .ok (.aload_n 0, 1) := by decide +kernel
theorem dL_law_463 : decode cL_law 463 = .ok (.iload_n 3, 1) := by decide +kernel
theorem dL_law_464 : decode cL_law 464 = .ok (.iconst 2, 1) := by decide +kernel
theorem dL_law_465 : decode cL_law 465 = .ok (.iadd, 1) := by decide +kernel
theorem dL_law_466 : decode cL_law 466 = .ok (.iaload, 1) := by decide +kernel
theorem dL_law_467 : decode cL_law 467 = .ok (.invokevirtual 60, 3) := by decide +kernel
theorem dL_law_470 : decode cL_law 470 = .ok (.aload_n 2, 1) := by decide +kernel
theorem dL_law_471 : decode cL_law 471 = .ok (.aload_n 0, 1) := by decide +kernel
theorem dL_law_472 : decode cL_law 472 = .ok (.iload_n 3, 1) := by decide +kernel
theorem dL_law_473 : decode cL_law 473 = .ok (.iconst 1, 1) := by decide +kernel
theorem dL_law_474 : decode cL_law 474 = .ok (.iadd, 1) := by decide +kernel
theorem dL_law_475 : decode cL_law 475 = .ok (.iaload, 1) := by decide +kernel
theorem dL_law_476 : decode cL_law 476 = .ok (.aload_n 0, 1) := by decide +kernel
theorem dL_law_477 : decode cL_law 477 = .ok (.iload_n 3, 1) := by decide +kernel
theorem dL_law_478 : decode cL_law 478 = .ok (.iconst 2, 1) := by decide +kernel
theorem dL_law_479 : decode cL_law 479 = .ok (.iadd, 1) := by decide +kernel
theorem dL_law_480 : decode cL_law 480 = .ok (.iaload, 1) := by decide +kernel
theorem dL_law_481 : decode cL_law 481 = .ok (.invokevirtual 63, 3) := by decide +kernel
theorem dL_law_484 : decode cL_law 484 = .ok (.if_icmp .eq 447, 3) := by decide +kernel
theorem dL_law_487 : decode cL_law 487 = .ok (.iconst 0, 1) := by decide +kernel
theorem dL_law_488 : decode cL_law 488 = .ok (.ireturn, 1) := by decide +kernel
theorem dL_law_489 : decode cL_law 489 = .ok (.aload_n 1, 1) := by decide +kernel
theorem dL_law_490 : decode cL_law 490 = .ok (.aload_n 0, 1) := by decide +kernel
theorem dL_law_491 : decode cL_law 491 = .ok (.iload_n 3, 1) := by decide +kernel
theorem dL_law_492 : decode cL_law 492 = .ok (.iconst 1, 1) := by decide +kernel
theorem dL_law_493 : decode cL_law 493 = .ok (.iadd, 1) := by decide +kernel
theorem dL_law_494 : decode cL_law 494 = .ok (.iaload, 1) := by decide +kernel
theorem dL_law_495 : decode cL_law 495 = .ok (.aload_n 0, 1) := by decide +kernel
theorem dL_law_496 : decode cL_law 496 = .ok (.iload_n 3, 1) := by decide +kernel
theorem dL_law_497 : decode cL_law 497 = .ok (.iconst 2, 1) := by decide +kernel
theorem dL_law_498 : decode cL_law 498 = .ok (.iadd, 1) := by decide +kernel
theorem dL_law_499 : decode cL_law 499 = .ok (.iaload, 1) := by decide +kernel
theorem dL_law_500 : decode cL_law 500 = .ok (.invokevirtual 64, 3) := by decide +kernel
theorem dL_law_503 : decode cL_law 503 = .ok (.aload_n 2, 1) := by decide +kernel
theorem dL_law_504 : decode cL_law 504 = .ok (.aload_n 0, 1) := by decide +kernel
theorem dL_law_505 : decode cL_law 505 = .ok (.iload_n 3, 1) := by decide +kernel
theorem dL_law_506 : decode cL_law 506 = .ok (.iconst 1, 1) := by decide +kernel
theorem dL_law_507 : decode cL_law 507 = .ok (.iadd, 1) := by decide +kernel
theorem dL_law_508 : decode cL_law 508 = .ok (.iaload, 1) := by decide +kernel
theorem dL_law_509 : decode cL_law 509 = .ok (.aload_n 0, 1) := by decide +kernel
theorem dL_law_510 : decode cL_law 510 = .ok (.iload_n 3, 1) := by decide +kernel
theorem dL_law_511 : decode cL_law 511 = .ok (.iconst 2, 1) := by decide +kernel
theorem dL_law_512 : decode cL_law 512 = .ok (.iadd, 1) := by decide +kernel
theorem dL_law_513 : decode cL_law 513 = .ok (.iaload, 1) := by decide +kernel
theorem dL_law_514 : decode cL_law 514 = .ok (.invokevirtual 67, 3) := by decide +kernel
theorem dL_law_517 : decode cL_law 517 = .ok (.if_icmp .eq 414, 3) := by decide +kernel
theorem dL_law_520 : decode cL_law 520 = .ok (.iconst 0, 1) := by decide +kernel
theorem dL_law_521 : decode cL_law 521 = .ok (.ireturn, 1) := by decide +kernel
theorem dL_law_522 : decode cL_law 522 = .ok (.aload_n 1, 1) := by decide +kernel
theorem dL_law_523 : decode cL_law 523 = .ok (.aload_n 0, 1) := by decide +kernel
theorem dL_law_524 : decode cL_law 524 = .ok (.iload_n 3, 1) := by decide +kernel
theorem dL_law_525 : decode cL_law 525 = .ok (.iconst 1, 1) := by decide +kernel
theorem dL_law_526 : decode cL_law 526 = .ok (.iadd, 1) := by decide +kernel
theorem dL_law_527 : decode cL_law 527 = .ok (.iaload, 1) := by decide +kernel
theorem dL_law_528 : decode cL_law 528 = .ok (.invokevirtual 68, 3) := by decide +kernel
theorem dL_law_531 : decode cL_law 531 = .ok (.aload_n 2, 1) := by decide +kernel
theorem dL_law_532 : decode cL_law 532 = .ok (.aload_n 0, 1) := by decide +kernel
theorem dL_law_533 : decode cL_law 533 = .ok (.iload_n 3, 1) := by decide +kernel
theorem dL_law_534 : decode cL_law 534 = .ok (.iconst 1, 1) := by decide +kernel
theorem dL_law_535 : decode cL_law 535 = .ok (.iadd, 1) := by decide +kernel
theorem dL_law_536 : decode cL_law 536 = .ok (.iaload, 1) := by decide +kernel
theorem dL_law_537 : decode cL_law 537 = .ok (.invokevirtual 71, 3) := by decide +kernel
theorem dL_law_540 : decode cL_law 540 = .ok (.if_icmp .eq 391, 3) := by decide +kernel
theorem dL_law_543 : decode cL_law 543 = .ok (.iconst 0, 1) := by decide +kernel
theorem dL_law_544 : decode cL_law 544 = .ok (.ireturn, 1) := by decide +kernel
theorem dL_law_545 : decode cL_law 545 = .ok (.aload_n 1, 1) := by decide +kernel
theorem dL_law_546 : decode cL_law 546 = .ok (.aload_n 0, 1) := by decide +kernel
theorem dL_law_547 : decode cL_law 547 = .ok (.iload_n 3, 1) := by decide +kernel
theorem dL_law_548 : decode cL_law 548 = .ok (.iconst 1, 1) := by decide +kernel
theorem dL_law_549 : decode cL_law 549 = .ok (.iadd, 1) := by decide +kernel
theorem dL_law_550 : decode cL_law 550 = .ok (.iaload, 1) := by decide +kernel
theorem dL_law_551 : decode cL_law 551 = .ok (.invokevirtual 72, 3) := by decide +kernel
theorem dL_law_554 : decode cL_law 554 = .ok (.aload_n 2, 1) := by decide +kernel
theorem dL_law_555 : decode cL_law 555 = .ok (.aload_n 0, 1) := by decide +kernel
theorem dL_law_556 : decode cL_law 556 = .ok (.iload_n 3, 1) := by decide +kernel
theorem dL_law_557 : decode cL_law 557 = .ok (.iconst 1, 1) := by decide +kernel
theorem dL_law_558 : decode cL_law 558 = .ok (.iadd, 1) := by decide +kernel
theorem dL_law_559 : decode cL_law 559 = .ok (.iaload, 1) := by decide +kernel
theorem dL_law_560 : decode cL_law 560 = .ok (.invokevirtual 75, 3) := by decide +kernel
theorem dL_law_563 : decode cL_law 563 = .ok (.if_icmp .eq 368, 3) := by decide +kernel
theorem dL_law_566 : decode cL_law 566 = .ok (.iconst 0, 1) := by decide +kernel
theorem dL_law_567 : decode cL_law 567 = .ok (.ireturn, 1) := by decide +kernel
theorem dL_law_568 : decode cL_law 568 = .ok (.aload_n 1, 1) := by decide +kernel
theorem dL_law_569 : decode cL_law 569 = .ok (.aload_n 0, 1) := by decide +kernel
theorem dL_law_570 : decode cL_law 570 = .ok (.iload_n 3, 1) := by decide +kernel
theorem dL_law_571 : decode cL_law 571 = .ok (.iconst 1, 1) := by decide +kernel
theorem dL_law_572 : decode cL_law 572 = .ok (.iadd, 1) := by decide +kernel
theorem dL_law_573 : decode cL_law 573 = .ok (.iaload, 1) := by decide +kernel
theorem dL_law_574 : decode cL_law 574 = .ok (.invokevirtual 76, 3) := by decide +kernel
theorem dL_law_577 : decode cL_law 577 = .ok (.aload_n 2, 1) := by decide +kernel
theorem dL_law_578 : decode cL_law 578 = .ok (.aload_n 0, 1) := by decide +kernel
theorem dL_law_579 : decode cL_law 579 = .ok (.iload_n 3, 1) := by decide +kernel
theorem dL_law_580 : decode cL_law 580 = .ok (.iconst 1, 1) := by decide +kernel
theorem dL_law_581 : decode cL_law 581 = .ok (.iadd, 1) := by decide +kernel
theorem dL_law_582 : decode cL_law 582 = .ok (.iaload, 1) := by decide +kernel
theorem dL_law_583 : decode cL_law 583 = .ok (.invokevirtual 79, 3) := by decide +kernel
theorem dL_law_586 : decode cL_law 586 = .ok (.if_icmp .eq 345, 3) := by decide +kernel
theorem dL_law_589 : decode cL_law 589 = .ok (.iconst 0, 1) := by decide +kernel
theorem dL_law_590 : decode cL_law 590 = .ok (.ireturn, 1) := by decide +kernel
theorem dL_law_591 : decode cL_law 591 = .ok (.aload_n 1, 1) := by decide +kernel
theorem dL_law_592 : decode cL_law 592 = .ok (.aload_n 0, 1) := by decide +kernel
theorem dL_law_593 : decode cL_law 593 = .ok (.iload_n 3, 1) := by decide +kernel
theorem dL_law_594 : decode cL_law 594 = .ok (.iconst 1, 1) := by decide +kernel
theorem dL_law_595 : decode cL_law 595 = .ok (.iadd, 1) := by decide +kernel
theorem dL_law_596 : decode cL_law 596 = .ok (.iaload, 1) := by decide +kernel
theorem dL_law_597 : decode cL_law 597 = .ok (.invokevirtual 80, 3) := by decide +kernel
theorem dL_law_600 : decode cL_law 600 = .ok (.aload_n 2, 1) := by decide +kernel
theorem dL_law_601 : decode cL_law 601 = .ok (.aload_n 0, 1) := by decide +kernel
theorem dL_law_602 : decode cL_law 602 = .ok (.iload_n 3, 1) := by decide +kernel
theorem dL_law_603 : decode cL_law 603 = .ok (.iconst 1, 1) := by decide +kernel
theorem dL_law_604 : decode cL_law 604 = .ok (.iadd, 1) := by decide +kernel
theorem dL_law_605 : decode cL_law 605 = .ok (.iaload, 1) := by decide +kernel
theorem dL_law_606 : decode cL_law 606 = .ok (.invokevirtual 83, 3) := by decide +kernel
theorem dL_law_609 : decode cL_law 609 = .ok (.if_icmp .eq 322, 3) := by decide +kernel
theorem dL_law_612 : decode cL_law 612 = .ok (.iconst 0, 1) := by decide +kernel
theorem dL_law_613 : decode cL_law 613 = .ok (.ireturn, 1) := by decide +kernel
theorem dL_law_614 : decode cL_law 614 = .ok (.aload_n 1, 1) := by decide +kernel
theorem dL_law_615 : decode cL_law 615 = .ok (.aload_n 0, 1) := by decide +kernel
theorem dL_law_616 : decode cL_law 616 = .ok (.iload_n 3, 1) := by decide +kernel
theorem dL_law_617 : decode cL_law 617 = .ok (.iconst 1, 1) := by decide +kernel
theorem dL_law_618 : decode cL_law 618 = .ok (.iadd, 1) := by decide +kernel
theorem dL_law_619 : decode cL_law 619 = .ok (.iaload, 1) := by decide +kernel
theorem dL_law_620 : decode cL_law 620 = .ok (.invokevirtual 84, 3) := by decide +kernel
theorem dL_law_623 : decode cL_law 623 = .ok (.aload_n 2, 1) := by decide +kernel
theorem dL_law_624 : decode cL_law 624 = .ok (.aload_n 0, 1) := by decide +kernel
theorem dL_law_625 : decode cL_law 625 = .ok (.iload_n 3, 1) := by decide +kernel
theorem dL_law_626 : decode cL_law 626 = .ok (.iconst 1, 1) := by decide +kernel
theorem dL_law_627 : decode cL_law 627 = .ok (.iadd, 1) := by decide +kernel
theorem dL_law_628 : decode cL_law 628 = .ok (.iaload, 1) := by decide +kernel
theorem dL_law_629 : decode cL_law 629 = .ok (.invokevirtual 87, 3) := by decide +kernel
theorem dL_law_632 : decode cL_law 632 = .ok (.if_icmp .eq 299, 3) := by decide +kernel
theorem dL_law_635 : decode cL_law 635 = .ok (.iconst 0, 1) := by decide +kernel
theorem dL_law_636 : decode cL_law 636 = .ok (.ireturn, 1) := by decide +kernel
theorem dL_law_637 : decode cL_law 637 = .ok (.aload_n 1, 1) := by decide +kernel
theorem dL_law_638 : decode cL_law 638 = .ok (.invokevirtual 88, 3) := by decide +kernel
theorem dL_law_641 : decode cL_law 641 = .ok (.aload_n 2, 1) := by decide +kernel
theorem dL_law_642 : decode cL_law 642 = .ok (.invokevirtual 91, 3) := by decide +kernel
theorem dL_law_645 : decode cL_law 645 = .ok (.if_icmp .eq 286, 3) := by decide +kernel
theorem dL_law_648 : decode cL_law 648 = .ok (.iconst 0, 1) := by decide +kernel
theorem dL_law_649 : decode cL_law 649 = .ok (.ireturn, 1) := by decide +kernel
theorem dL_law_650 : decode cL_law 650 = .ok (.aload_n 1, 1) := by decide +kernel
theorem dL_law_651 : decode cL_law 651 = .ok (.aload_n 0, 1) := by decide +kernel
theorem dL_law_652 : decode cL_law 652 = .ok (.iload_n 3, 1) := by decide +kernel
theorem dL_law_653 : decode cL_law 653 = .ok (.iconst 1, 1) := by decide +kernel
theorem dL_law_654 : decode cL_law 654 = .ok (.iadd, 1) := by decide +kernel
theorem dL_law_655 : decode cL_law 655 = .ok (.iaload, 1) := by decide +kernel
theorem dL_law_656 : decode cL_law 656 = .ok (.invokevirtual 92, 3) := by decide +kernel
theorem dL_law_659 : decode cL_law 659 = .ok (.aload_n 2, 1) := by decide +kernel
theorem dL_law_660 : decode cL_law 660 = .ok (.aload_n 0, 1) := by decide +kernel
theorem dL_law_661 : decode cL_law 661 = .ok (.iload_n 3, 1) := by decide +kernel
theorem dL_law_662 : decode cL_law 662 = .ok (.iconst 1, 1) := by decide +kernel
theorem dL_law_663 : decode cL_law 663 = .ok (.iadd, 1) := by decide +kernel
theorem dL_law_664 : decode cL_law 664 = .ok (.iaload, 1) := by decide +kernel
theorem dL_law_665 : decode cL_law 665 = .ok (.invokevirtual 95, 3) := by decide +kernel
theorem dL_law_668 : decode cL_law 668 = .ok (.if_icmp .eq 263, 3) := by decide +kernel
theorem dL_law_671 : decode cL_law 671 = .ok (.iconst 0, 1) := by decide +kernel
theorem dL_law_672 : decode cL_law 672 = .ok (.ireturn, 1) := by decide +kernel
theorem dL_law_673 : decode cL_law 673 = .ok (.aload_n 1, 1) := by decide +kernel
theorem dL_law_674 : decode cL_law 674 = .ok (.aload_n 0, 1) := by decide +kernel
theorem dL_law_675 : decode cL_law 675 = .ok (.iload_n 3, 1) := by decide +kernel
theorem dL_law_676 : decode cL_law 676 = .ok (.iconst 1, 1) := by decide +kernel
theorem dL_law_677 : decode cL_law 677 = .ok (.iadd, 1) := by decide +kernel
theorem dL_law_678 : decode cL_law 678 = .ok (.iaload, 1) := by decide +kernel
theorem dL_law_679 : decode cL_law 679 = .ok (.aload_n 0, 1) := by decide +kernel
theorem dL_law_680 : decode cL_law 680 = .ok (.iload_n 3, 1) := by decide +kernel
theorem dL_law_681 : decode cL_law 681 = .ok (.iconst 2, 1) := by decide +kernel
theorem dL_law_682 : decode cL_law 682 = .ok (.iadd, 1) := by decide +kernel
theorem dL_law_683 : decode cL_law 683 = .ok (.iaload, 1) := by decide +kernel
theorem dL_law_684 : decode cL_law 684 = .ok (.aload_n 0, 1) := by decide +kernel
theorem dL_law_685 : decode cL_law 685 = .ok (.iload_n 3, 1) := by decide +kernel
theorem dL_law_686 : decode cL_law 686 = .ok (.iconst 3, 1) := by decide +kernel
theorem dL_law_687 : decode cL_law 687 = .ok (.iadd, 1) := by decide +kernel
theorem dL_law_688 : decode cL_law 688 = .ok (.iaload, 1) := by decide +kernel
theorem dL_law_689 : decode cL_law 689 = .ok (.invokevirtual 96, 3) := by decide +kernel
theorem dL_law_692 : decode cL_law 692 = .ok (.aload_n 2, 1) := by decide +kernel
theorem dL_law_693 : decode cL_law 693 = .ok (.aload_n 0, 1) := by decide +kernel
theorem dL_law_694 : decode cL_law 694 = .ok (.iload_n 3, 1) := by decide +kernel
theorem dL_law_695 : decode cL_law 695 = .ok (.iconst 1, 1) := by decide +kernel
theorem dL_law_696 : decode cL_law 696 = .ok (.iadd, 1) := by decide +kernel
theorem dL_law_697 : decode cL_law 697 = .ok (.iaload, 1) := by decide +kernel
theorem dL_law_698 : decode cL_law 698 = .ok (.aload_n 0, 1) := by decide +kernel
theorem dL_law_699 : decode cL_law 699 = .ok (.iload_n 3, 1) := by decide +kernel
theorem dL_law_700 : decode cL_law 700 = .ok (.iconst 2, 1) := by decide +kernel
theorem dL_law_701 : decode cL_law 701 = .ok (.iadd, 1) := by decide +kernel
theorem dL_law_702 : decode cL_law 702 = .ok (.iaload, 1) := by decide +kernel
theorem dL_law_703 : decode cL_law 703 = .ok (.aload_n 0, 1) := by decide +kernel
theorem dL_law_704 : decode cL_law 704 = .ok (.iload_n 3, 1) := by decide +kernel
theorem dL_law_705 : decode cL_law 705 = .ok (.iconst 3, 1) := by decide +kernel
theorem dL_law_706 : decode cL_law 706 = .ok (.iadd, 1) := by decide +kernel
theorem dL_law_707 : decode cL_law 707 = .ok (.iaload, 1) := by decide +kernel
theorem dL_law_708 : decode cL_law 708 = .ok (.invokevirtual 100, 3) := by decide +kernel
theorem dL_law_711 : decode cL_law 711 = .ok (.lcmp, 1) := by decide +kernel
theorem dL_law_712 : decode cL_law 712 = .ok (.ifCond .eq 219, 3) := by decide +kernel
theorem dL_law_715 : decode cL_law 715 = .ok (.iconst 0, 1) := by decide +kernel
theorem dL_law_716 : decode cL_law 716 = .ok (.ireturn, 1) := by decide +kernel
theorem dL_law_717 : decode cL_law 717 = .ok (.aload_n 1, 1) := by decide +kernel
theorem dL_law_718 : decode cL_law 718 = .ok (.aload_n 0, 1) := by decide +kernel
theorem dL_law_719 : decode cL_law 719 = .ok (.iload_n 3, 1) := by decide +kernel
theorem dL_law_720 : decode cL_law 720 = .ok (.iconst 1, 1) := by decide +kernel
theorem dL_law_721 : decode cL_law 721 = .ok (.iadd, 1) := by decide +kernel
theorem dL_law_722 : decode cL_law 722 = .ok (.iaload, 1) := by decide +kernel
theorem dL_law_723 : decode cL_law 723 = .ok (.invokevirtual 101, 3) := by decide +kernel
theorem dL_law_726 : decode cL_law 726 = .ok (.aload_n 2, 1) := by decide +kernel
theorem dL_law_727 : decode cL_law 727 = .ok (.aload_n 0, 1) := by decide +kernel
theorem dL_law_728 : decode cL_law 728 = .ok (.iload_n 3, 1) := by decide +kernel
theorem dL_law_729 : decode cL_law 729 = .ok (.iconst 1, 1) := by decide +kernel
theorem dL_law_730 : decode cL_law 730 = .ok (.iadd, 1) := by decide +kernel
theorem dL_law_731 : decode cL_law 731 = .ok (.iaload, 1) := by decide +kernel
theorem dL_law_732 : decode cL_law 732 = .ok (.invokevirtual 105, 3) := by decide +kernel
theorem dL_law_735 : decode cL_law 735 = .ok (.lcmp, 1) := by decide +kernel
theorem dL_law_736 : decode cL_law 736 = .ok (.ifCond .eq 195, 3) := by decide +kernel
theorem dL_law_739 : decode cL_law 739 = .ok (.iconst 0, 1) := by decide +kernel
theorem dL_law_740 : decode cL_law 740 = .ok (.ireturn, 1) := by decide +kernel
theorem dL_law_741 : decode cL_law 741 = .ok (.aload_n 1, 1) := by decide +kernel
theorem dL_law_742 : decode cL_law 742 = .ok (.aload_n 0, 1) := by decide +kernel
theorem dL_law_743 : decode cL_law 743 = .ok (.iload_n 3, 1) := by decide +kernel
theorem dL_law_744 : decode cL_law 744 = .ok (.iconst 1, 1) := by decide +kernel
theorem dL_law_745 : decode cL_law 745 = .ok (.iadd, 1) := by decide +kernel
theorem dL_law_746 : decode cL_law 746 = .ok (.iaload, 1) := by decide +kernel
theorem dL_law_747 : decode cL_law 747 = .ok (.invokevirtual 106, 3) := by decide +kernel
theorem dL_law_750 : decode cL_law 750 = .ok (.aload_n 2, 1) := by decide +kernel
theorem dL_law_751 : decode cL_law 751 = .ok (.aload_n 0, 1) := by decide +kernel
theorem dL_law_752 : decode cL_law 752 = .ok (.iload_n 3, 1) := by decide +kernel
theorem dL_law_753 : decode cL_law 753 = .ok (.iconst 1, 1) := by decide +kernel
theorem dL_law_754 : decode cL_law 754 = .ok (.iadd, 1) := by decide +kernel
theorem dL_law_755 : decode cL_law 755 = .ok (.iaload, 1) := by decide +kernel
theorem dL_law_756 : decode cL_law 756 = .ok (.invokevirtual 109, 3) := by decide +kernel
theorem dL_law_759 : decode cL_law 759 = .ok (.if_icmp .eq 172, 3) := by decide +kernel
theorem dL_law_762 : decode cL_law 762 = .ok (.iconst 0, 1) := by decide +kernel
theorem dL_law_763 : decode cL_law 763 = .ok (.ireturn, 1) := by decide +kernel
theorem dL_law_764 : decode cL_law 764 = .ok (.aload_n 1, 1) := by decide +kernel
theorem dL_law_765 : decode cL_law 765 = .ok (.aload_n 0, 1) := by decide +kernel
theorem dL_law_766 : decode cL_law 766 = .ok (.iload_n 3, 1) := by decide +kernel
theorem dL_law_767 : decode cL_law 767 = .ok (.iconst 1, 1) := by decide +kernel
theorem dL_law_768 : decode cL_law 768 = .ok (.iadd, 1) := by decide +kernel
theorem dL_law_769 : decode cL_law 769 = .ok (.iaload, 1) := by decide +kernel
theorem dL_law_770 : decode cL_law 770 = .ok (.invokevirtual 110, 3) := by decide +kernel
theorem dL_law_773 : decode cL_law 773 = .ok (.aload_n 2, 1) := by decide +kernel
theorem dL_law_774 : decode cL_law 774 = .ok (.aload_n 0, 1) := by decide +kernel
theorem dL_law_775 : decode cL_law 775 = .ok (.iload_n 3, 1) := by decide +kernel
theorem dL_law_776 : decode cL_law 776 = .ok (.iconst 1, 1) := by decide +kernel
theorem dL_law_777 : decode cL_law 777 = .ok (.iadd, 1) := by decide +kernel
theorem dL_law_778 : decode cL_law 778 = .ok (.iaload, 1) := by decide +kernel
theorem dL_law_779 : decode cL_law 779 = .ok (.invokevirtual 113, 3) := by decide +kernel
theorem dL_law_782 : decode cL_law 782 = .ok (.if_icmp .eq 149, 3) := by decide +kernel
theorem dL_law_785 : decode cL_law 785 = .ok (.iconst 0, 1) := by decide +kernel
theorem dL_law_786 : decode cL_law 786 = .ok (.ireturn, 1) := by decide +kernel
theorem dL_law_787 : decode cL_law 787 = .ok (.aload_n 1, 1) := by decide +kernel
theorem dL_law_788 : decode cL_law 788 = .ok (.aload_n 0, 1) := by decide +kernel
theorem dL_law_789 : decode cL_law 789 = .ok (.iload_n 3, 1) := by decide +kernel
theorem dL_law_790 : decode cL_law 790 = .ok (.iconst 1, 1) := by decide +kernel
theorem dL_law_791 : decode cL_law 791 = .ok (.iadd, 1) := by decide +kernel
theorem dL_law_792 : decode cL_law 792 = .ok (.iaload, 1) := by decide +kernel
theorem dL_law_793 : decode cL_law 793 = .ok (.invokevirtual 114, 3) := by decide +kernel
theorem dL_law_796 : decode cL_law 796 = .ok (.aload_n 2, 1) := by decide +kernel
theorem dL_law_797 : decode cL_law 797 = .ok (.aload_n 0, 1) := by decide +kernel
theorem dL_law_798 : decode cL_law 798 = .ok (.iload_n 3, 1) := by decide +kernel
theorem dL_law_799 : decode cL_law 799 = .ok (.iconst 1, 1) := by decide +kernel
theorem dL_law_800 : decode cL_law 800 = .ok (.iadd, 1) := by decide +kernel
theorem dL_law_801 : decode cL_law 801 = .ok (.iaload, 1) := by decide +kernel
theorem dL_law_802 : decode cL_law 802 = .ok (.invokevirtual 117, 3) := by decide +kernel
theorem dL_law_805 : decode cL_law 805 = .ok (.if_icmp .eq 126, 3) := by decide +kernel
theorem dL_law_808 : decode cL_law 808 = .ok (.iconst 0, 1) := by decide +kernel
theorem dL_law_809 : decode cL_law 809 = .ok (.ireturn, 1) := by decide +kernel
theorem dL_law_810 : decode cL_law 810 = .ok (.aload_n 1, 1) := by decide +kernel
theorem dL_law_811 : decode cL_law 811 = .ok (.aload_n 0, 1) := by decide +kernel
theorem dL_law_812 : decode cL_law 812 = .ok (.iload_n 3, 1) := by decide +kernel
theorem dL_law_813 : decode cL_law 813 = .ok (.iconst 1, 1) := by decide +kernel
theorem dL_law_814 : decode cL_law 814 = .ok (.iadd, 1) := by decide +kernel
theorem dL_law_815 : decode cL_law 815 = .ok (.iaload, 1) := by decide +kernel
theorem dL_law_816 : decode cL_law 816 = .ok (.aload_n 0, 1) := by decide +kernel
theorem dL_law_817 : decode cL_law 817 = .ok (.iload_n 3, 1) := by decide +kernel
theorem dL_law_818 : decode cL_law 818 = .ok (.iconst 2, 1) := by decide +kernel
theorem dL_law_819 : decode cL_law 819 = .ok (.iadd, 1) := by decide +kernel
theorem dL_law_820 : decode cL_law 820 = .ok (.iaload, 1) := by decide +kernel
theorem dL_law_821 : decode cL_law 821 = .ok (.aload_n 0, 1) := by decide +kernel
theorem dL_law_822 : decode cL_law 822 = .ok (.iload_n 3, 1) := by decide +kernel
theorem dL_law_823 : decode cL_law 823 = .ok (.iconst 3, 1) := by decide +kernel
theorem dL_law_824 : decode cL_law 824 = .ok (.iadd, 1) := by decide +kernel
theorem dL_law_825 : decode cL_law 825 = .ok (.iaload, 1) := by decide +kernel
theorem dL_law_826 : decode cL_law 826 = .ok (.invokevirtual 118, 3) := by decide +kernel
theorem dL_law_829 : decode cL_law 829 = .ok (.aload_n 2, 1) := by decide +kernel
theorem dL_law_830 : decode cL_law 830 = .ok (.aload_n 0, 1) := by decide +kernel
theorem dL_law_831 : decode cL_law 831 = .ok (.iload_n 3, 1) := by decide +kernel
theorem dL_law_832 : decode cL_law 832 = .ok (.iconst 1, 1) := by decide +kernel
theorem dL_law_833 : decode cL_law 833 = .ok (.iadd, 1) := by decide +kernel
theorem dL_law_834 : decode cL_law 834 = .ok (.iaload, 1) := by decide +kernel
theorem dL_law_835 : decode cL_law 835 = .ok (.aload_n 0, 1) := by decide +kernel
theorem dL_law_836 : decode cL_law 836 = .ok (.iload_n 3, 1) := by decide +kernel
theorem dL_law_837 : decode cL_law 837 = .ok (.iconst 2, 1) := by decide +kernel
theorem dL_law_838 : decode cL_law 838 = .ok (.iadd, 1) := by decide +kernel
theorem dL_law_839 : decode cL_law 839 = .ok (.iaload, 1) := by decide +kernel
theorem dL_law_840 : decode cL_law 840 = .ok (.aload_n 0, 1) := by decide +kernel
theorem dL_law_841 : decode cL_law 841 = .ok (.iload_n 3, 1) := by decide +kernel
theorem dL_law_842 : decode cL_law 842 = .ok (.iconst 3, 1) := by decide +kernel
theorem dL_law_843 : decode cL_law 843 = .ok (.iadd, 1) := by decide +kernel
theorem dL_law_844 : decode cL_law 844 = .ok (.iaload, 1) := by decide +kernel
theorem dL_law_845 : decode cL_law 845 = .ok (.invokevirtual 121, 3) := by decide +kernel
theorem dL_law_848 : decode cL_law 848 = .ok (.lcmp, 1) := by decide +kernel
theorem dL_law_849 : decode cL_law 849 = .ok (.ifCond .eq 82, 3) := by decide +kernel
theorem dL_law_852 : decode cL_law 852 = .ok (.iconst 0, 1) := by decide +kernel
theorem dL_law_853 : decode cL_law 853 = .ok (.ireturn, 1) := by decide +kernel
theorem dL_law_854 : decode cL_law 854 = .ok (.aload_n 1, 1) := by decide +kernel
theorem dL_law_855 : decode cL_law 855 = .ok (.aload_n 0, 1) := by decide +kernel
theorem dL_law_856 : decode cL_law 856 = .ok (.iload_n 3, 1) := by decide +kernel
theorem dL_law_857 : decode cL_law 857 = .ok (.iconst 1, 1) := by decide +kernel
theorem dL_law_858 : decode cL_law 858 = .ok (.iadd, 1) := by decide +kernel
theorem dL_law_859 : decode cL_law 859 = .ok (.iaload, 1) := by decide +kernel
theorem dL_law_860 : decode cL_law 860 = .ok (.aload_n 0, 1) := by decide +kernel
theorem dL_law_861 : decode cL_law 861 = .ok (.iload_n 3, 1) := by decide +kernel
theorem dL_law_862 : decode cL_law 862 = .ok (.iconst 2, 1) := by decide +kernel
theorem dL_law_863 : decode cL_law 863 = .ok (.iadd, 1) := by decide +kernel
theorem dL_law_864 : decode cL_law 864 = .ok (.iaload, 1) := by decide +kernel
theorem dL_law_865 : decode cL_law 865 = .ok (.aload_n 0, 1) := by decide +kernel
theorem dL_law_866 : decode cL_law 866 = .ok (.iload_n 3, 1) := by decide +kernel
theorem dL_law_867 : decode cL_law 867 = .ok (.iconst 3, 1) := by decide +kernel
theorem dL_law_868 : decode cL_law 868 = .ok (.iadd, 1) := by decide +kernel
theorem dL_law_869 : decode cL_law 869 = .ok (.iaload, 1) := by decide +kernel
theorem dL_law_870 : decode cL_law 870 = .ok (.aload_n 0, 1) := by decide +kernel
theorem dL_law_871 : decode cL_law 871 = .ok (.iload_n 3, 1) := by decide +kernel
theorem dL_law_872 : decode cL_law 872 = .ok (.iconst 4, 1) := by decide +kernel
theorem dL_law_873 : decode cL_law 873 = .ok (.iadd, 1) := by decide +kernel
theorem dL_law_874 : decode cL_law 874 = .ok (.iaload, 1) := by decide +kernel
theorem dL_law_875 : decode cL_law 875 = .ok (.invokevirtual 122, 3) := by decide +kernel
theorem dL_law_878 : decode cL_law 878 = .ok (.aload_n 2, 1) := by decide +kernel
theorem dL_law_879 : decode cL_law 879 = .ok (.aload_n 0, 1) := by decide +kernel
theorem dL_law_880 : decode cL_law 880 = .ok (.iload_n 3, 1) := by decide +kernel
theorem dL_law_881 : decode cL_law 881 = .ok (.iconst 1, 1) := by decide +kernel
theorem dL_law_882 : decode cL_law 882 = .ok (.iadd, 1) := by decide +kernel
theorem dL_law_883 : decode cL_law 883 = .ok (.iaload, 1) := by decide +kernel
theorem dL_law_884 : decode cL_law 884 = .ok (.aload_n 0, 1) := by decide +kernel
theorem dL_law_885 : decode cL_law 885 = .ok (.iload_n 3, 1) := by decide +kernel
theorem dL_law_886 : decode cL_law 886 = .ok (.iconst 2, 1) := by decide +kernel
theorem dL_law_887 : decode cL_law 887 = .ok (.iadd, 1) := by decide +kernel
theorem dL_law_888 : decode cL_law 888 = .ok (.iaload, 1) := by decide +kernel
theorem dL_law_889 : decode cL_law 889 = .ok (.aload_n 0, 1) := by decide +kernel
theorem dL_law_890 : decode cL_law 890 = .ok (.iload_n 3, 1) := by decide +kernel
theorem dL_law_891 : decode cL_law 891 = .ok (.iconst 3, 1) := by decide +kernel
theorem dL_law_892 : decode cL_law 892 = .ok (.iadd, 1) := by decide +kernel
theorem dL_law_893 : decode cL_law 893 = .ok (.iaload, 1) := by decide +kernel
theorem dL_law_894 : decode cL_law 894 = .ok (.aload_n 0, 1) := by decide +kernel
theorem dL_law_895 : decode cL_law 895 = .ok (.iload_n 3, 1) := by decide +kernel
theorem dL_law_896 : decode cL_law 896 = .ok (.iconst 4, 1) := by decide +kernel
theorem dL_law_897 : decode cL_law 897 = .ok (.iadd, 1) := by decide +kernel
theorem dL_law_898 : decode cL_law 898 = .ok (.iaload, 1) := by decide +kernel
theorem dL_law_899 : decode cL_law 899 = .ok (.invokevirtual 126, 3) := by decide +kernel
theorem dL_law_902 : decode cL_law 902 = .ok (.lcmp, 1) := by decide +kernel
theorem dL_law_903 : decode cL_law 903 = .ok (.ifCond .eq 28, 3) := by decide +kernel
theorem dL_law_906 : decode cL_law 906 = .ok (.iconst 0, 1) := by decide +kernel
theorem dL_law_907 : decode cL_law 907 = .ok (.ireturn, 1) := by decide +kernel
theorem dL_law_908 : decode cL_law 908 = .ok (.aload_n 1, 1) := by decide +kernel
theorem dL_law_909 : decode cL_law 909 = .ok (.aload_n 0, 1) := by decide +kernel
theorem dL_law_910 : decode cL_law 910 = .ok (.iload_n 3, 1) := by decide +kernel
theorem dL_law_911 : decode cL_law 911 = .ok (.iconst 1, 1) := by decide +kernel
theorem dL_law_912 : decode cL_law 912 = .ok (.iadd, 1) := by decide +kernel
theorem dL_law_913 : decode cL_law 913 = .ok (.iaload, 1) := by decide +kernel
theorem dL_law_914 : decode cL_law 914 = .ok (.invokevirtual 127, 3) := by decide +kernel
theorem dL_law_917 : decode cL_law 917 = .ok (.aload_n 2, 1) := by decide +kernel
theorem dL_law_918 : decode cL_law 918 = .ok (.aload_n 0, 1) := by decide +kernel
theorem dL_law_919 : decode cL_law 919 = .ok (.iload_n 3, 1) := by decide +kernel
theorem dL_law_920 : decode cL_law 920 = .ok (.iconst 1, 1) := by decide +kernel
theorem dL_law_921 : decode cL_law 921 = .ok (.iadd, 1) := by decide +kernel
theorem dL_law_922 : decode cL_law 922 = .ok (.iaload, 1) := by decide +kernel
theorem dL_law_923 : decode cL_law 923 = .ok (.invokevirtual 130, 3) := by decide +kernel
theorem dL_law_926 : decode cL_law 926 = .ok (.if_icmp .eq 5, 3) := by decide +kernel
theorem dL_law_929 : decode cL_law 929 = .ok (.iconst 0, 1) := by decide +kernel
theorem dL_law_930 : decode cL_law 930 = .ok (.ireturn, 1) := by decide +kernel
theorem dL_law_931 : decode cL_law 931 = .ok (.iinc 3 5, 3) := by decide +kernel
theorem dL_law_934 : decode cL_law 934 = .ok (.goto (-916), 3) := by decide +kernel
theorem dL_law_937 : decode cL_law 937 = .ok (.iconst 1, 1) := by decide +kernel
theorem dL_law_938 : decode cL_law 938 = .ok (.ireturn, 1) := by decide +kernel
