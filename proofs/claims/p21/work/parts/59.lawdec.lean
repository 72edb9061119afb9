theorem dL_draw_0 : decode cL_draw 0 = .ok (.iload_n 1, 1) := by decide +kernel
theorem dL_draw_1 : decode cL_draw 1 = .ok (.aload_n 0, 1) := by decide +kernel
theorem dL_draw_2 : decode cL_draw 2 = .ok (.arraylength, 1) := by decide +kernel
theorem dL_draw_3 : decode cL_draw 3 = .ok (.if_icmp .ge 9, 3) := by decide +kernel
theorem dL_draw_6 : decode cL_draw 6 = .ok (.aload_n 0, 1) := by decide +kernel
theorem dL_draw_7 : decode cL_draw 7 = .ok (.iload_n 1, 1) := by decide +kernel
theorem dL_draw_8 : decode cL_draw 8 = .ok (.iaload, 1) := by decide +kernel
theorem dL_draw_9 : decode cL_draw 9 = .ok (.goto 14, 3) := by decide +kernel
theorem dL_draw_12 : decode cL_draw 12 = .ok (.ldc 7, 2) := by decide +kernel
theorem dL_draw_14 : decode cL_draw 14 = .ok (.iload_n 1, 1) := by decide +kernel
theorem dL_draw_15 : decode cL_draw 15 = .ok (.sipush 991, 3) := by decide +kernel
theorem dL_draw_18 : decode cL_draw 18 = .ok (.iadd, 1) := by decide +kernel
theorem dL_draw_19 : decode cL_draw 19 = .ok (.imul, 1) := by decide +kernel
theorem dL_draw_20 : decode cL_draw 20 = .ok (.ldc 8, 2) := by decide +kernel
theorem dL_draw_22 : decode cL_draw 22 = .ok (.iadd, 1) := by decide +kernel
theorem dL_draw_23 : decode cL_draw 23 = .ok (.istore_n 3, 1) := by decide +kernel
theorem dL_draw_24 : decode cL_draw 24 = .ok (.iload_n 3, 1) := by decide +kernel
theorem dL_draw_25 : decode cL_draw 25 = .ok (.ldc 9, 2) := by decide +kernel
theorem dL_draw_27 : decode cL_draw 27 = .ok (.iand, 1) := by decide +kernel
theorem dL_draw_28 : decode cL_draw 28 = .ok (.iload_n 2, 1) := by decide +kernel
theorem dL_draw_29 : decode cL_draw 29 = .ok (.irem, 1) := by decide +kernel
theorem dL_draw_30 : decode cL_draw 30 = .ok (.ireturn, 1) := by decide +kernel
theorem dL_asks_0 : decode cL_asks 0 = .ok (.iload_n 1, 1) := by decide +kernel
theorem dL_asks_1 : decode cL_asks 1 = .ok (.ifCond .ne 11, 3) := by decide +kernel
theorem dL_asks_4 : decode cL_asks 4 = .ok (.aload_n 0, 1) := by decide +kernel
theorem dL_asks_5 : decode cL_asks 5 = .ok (.iload_n 2, 1) := by decide +kernel
theorem dL_asks_6 : decode cL_asks 6 = .ok (.invokevirtual 10, 3) := by decide +kernel
theorem dL_asks_9 : decode cL_asks 9 = .ok (.goto 58, 3) := by decide +kernel
theorem dL_asks_12 : decode cL_asks 12 = .ok (.iload_n 1, 1) := by decide +kernel
theorem dL_asks_13 : decode cL_asks 13 = .ok (.iconst 1, 1) := by decide +kernel
theorem dL_asks_14 : decode cL_asks 14 = .ok (.if_icmp .ne 19, 3) := by decide +kernel
theorem dL_asks_17 : decode cL_asks 17 = .ok (.aload_n 0, 1) := by decide +kernel
theorem dL_asks_18 : decode cL_asks 18 = .ok (.iload_n 2, 1) := by decide +kernel
theorem dL_asks_19 : decode cL_asks 19 = .ok (.invokevirtual 16, 3) := by decide +kernel
theorem dL_asks_22 : decode cL_asks 22 = .ok (.ifCond .eq 7, 3) := by decide +kernel
theorem dL_asks_25 : decode cL_asks 25 = .ok (.iconst 1, 1) := by decide +kernel
theorem dL_asks_26 : decode cL_asks 26 = .ok (.goto 41, 3) := by decide +kernel
theorem dL_asks_29 : decode cL_asks 29 = .ok (.iconst 0, 1) := by decide +kernel
theorem dL_asks_30 : decode cL_asks 30 = .ok (.goto 37, 3) := by decide +kernel
theorem dL_asks_33 : decode cL_asks 33 = .ok (.iload_n 1, 1) := by decide +kernel
theorem dL_asks_34 : decode cL_asks 34 = .ok (.iconst 2, 1) := by decide +kernel
theorem dL_asks_35 : decode cL_asks 35 = .ok (.if_icmp .ne 12, 3) := by decide +kernel
theorem dL_asks_38 : decode cL_asks 38 = .ok (.aload_n 0, 1) := by decide +kernel
theorem dL_asks_39 : decode cL_asks 39 = .ok (.iload_n 2, 1) := by decide +kernel
theorem dL_asks_40 : decode cL_asks 40 = .ok (.iload_n 3, 1) := by decide +kernel
theorem dL_asks_41 : decode cL_asks 41 = .ok (.invokevirtual 20, 3) := by decide +kernel
theorem dL_asks_44 : decode cL_asks 44 = .ok (.goto 23, 3) := by decide +kernel
theorem dL_asks_47 : decode cL_asks 47 = .ok (.iload_n 1, 1) := by decide +kernel
theorem dL_asks_48 : decode cL_asks 48 = .ok (.iconst 3, 1) := by decide +kernel
theorem dL_asks_49 : decode cL_asks 49 = .ok (.if_icmp .ne 11, 3) := by decide +kernel
theorem dL_asks_52 : decode cL_asks 52 = .ok (.aload_n 0, 1) := by decide +kernel
theorem dL_asks_53 : decode cL_asks 53 = .ok (.iload_n 2, 1) := by decide +kernel
theorem dL_asks_54 : decode cL_asks 54 = .ok (.invokevirtual 24, 3) := by decide +kernel
theorem dL_asks_57 : decode cL_asks 57 = .ok (.goto 10, 3) := by decide +kernel
theorem dL_asks_60 : decode cL_asks 60 = .ok (.aload_n 0, 1) := by decide +kernel
theorem dL_asks_61 : decode cL_asks 61 = .ok (.iload_n 2, 1) := by decide +kernel
theorem dL_asks_62 : decode cL_asks 62 = .ok (.iload_n 3, 1) := by decide +kernel
theorem dL_asks_63 : decode cL_asks 63 = .ok (.iconst 1, 1) := by decide +kernel
theorem dL_asks_64 : decode cL_asks 64 = .ok (.invokevirtual 27, 3) := by decide +kernel
theorem dL_asks_67 : decode cL_asks 67 = .ok (.ireturn, 1) := by decide +kernel
theorem dL_asks_68 : decode cL_asks 68 = .ok (.astore 4, 2) := by decide +kernel
theorem dL_asks_70 : decode cL_asks 70 = .ok (.ldc 33, 2) := by decide +kernel
theorem dL_asks_72 : decode cL_asks 72 = .ok (.ireturn, 1) := by decide +kernel
theorem dL_asks_73 : decode cL_asks 73 = .ok (.astore 4, 2) := by decide +kernel
theorem dL_asks_75 : decode cL_asks 75 = .ok (.ldc 36, 2) := by decide +kernel
theorem dL_asks_77 : decode cL_asks 77 = .ok (.ireturn, 1) := by decide +kernel
theorem dL_asks_78 : decode cL_asks 78 = .ok (.astore 4, 2) := by decide +kernel
theorem dL_asks_80 : decode cL_asks 80 = .ok (.ldc 39, 2) := by decide +kernel
theorem dL_asks_82 : decode cL_asks 82 = .ok (.ireturn, 1) := by decide +kernel
theorem dL_packed_0 : decode cL_packed 0 = .ok (.lload_n 1, 1) := by decide +kernel
theorem dL_packed_1 : decode cL_packed 1 = .ok (.lconst 0, 1) := by decide +kernel
theorem dL_packed_2 : decode cL_packed 2 = .ok (.lcmp, 1) := by decide +kernel
theorem dL_packed_3 : decode cL_packed 3 = .ok (.ifCond .ne 5, 3) := by decide +kernel
theorem dL_packed_6 : decode cL_packed 6 = .ok (.iconst 0, 1) := by decide +kernel
theorem dL_packed_7 : decode cL_packed 7 = .ok (.ireturn, 1) := by decide +kernel
theorem dL_packed_8 : decode cL_packed 8 = .ok (.lload_n 1, 1) := by decide +kernel
theorem dL_packed_9 : decode cL_packed 9 = .ok (.lstore 4, 2) := by decide +kernel
theorem dL_packed_11 : decode cL_packed 11 = .ok (.iload_n 3, 1) := by decide +kernel
theorem dL_packed_12 : decode cL_packed 12 = .ok (.istore 6, 2) := by decide +kernel
theorem dL_packed_14 : decode cL_packed 14 = .ok (.lconst 0, 1) := by decide +kernel
theorem dL_packed_15 : decode cL_packed 15 = .ok (.lstore 7, 2) := by decide +kernel
theorem dL_packed_17 : decode cL_packed 17 = .ok (.lload 4, 2) := by decide +kernel
theorem dL_packed_19 : decode cL_packed 19 = .ok (.ldc2_w 40, 3) := by decide +kernel
theorem dL_packed_22 : decode cL_packed 22 = .ok (.lcmp, 1) := by decide +kernel
theorem dL_packed_23 : decode cL_packed 23 = .ok (.ifCond .lt 24, 3) := by decide +kernel
theorem dL_packed_26 : decode cL_packed 26 = .ok (.lload 7, 2) := by decide +kernel
theorem dL_packed_28 : decode cL_packed 28 = .ok (.lload 4, 2) := by decide +kernel
theorem dL_packed_30 : decode cL_packed 30 = .ok (.lconst 1, 1) := by decide +kernel
theorem dL_packed_31 : decode cL_packed 31 = .ok (.land, 1) := by decide +kernel
theorem dL_packed_32 : decode cL_packed 32 = .ok (.lor, 1) := by decide +kernel
theorem dL_packed_33 : decode cL_packed 33 = .ok (.lstore 7, 2) := by decide +kernel
theorem dL_packed_35 : decode cL_packed 35 = .ok (.lload 4, 2) := by decide +kernel
theorem dL_packed_37 : decode cL_packed 37 = .ok (.iconst 1, 1) := by decide +kernel
theorem dL_packed_38 : decode cL_packed 38 = .ok (.lshr, 1) := by decide +kernel
theorem dL_packed_39 : decode cL_packed 39 = .ok (.lstore 4, 2) := by decide +kernel
theorem dL_packed_41 : decode cL_packed 41 = .ok (.iinc 6 1, 3) := by decide +kernel
theorem dL_packed_44 : decode cL_packed 44 = .ok (.goto (-27), 3) := by decide +kernel
theorem dL_packed_47 : decode cL_packed 47 = .ok (.lload 4, 2) := by decide +kernel
theorem dL_packed_49 : decode cL_packed 49 = .ok (.ldc2_w 42, 3) := by decide +kernel
theorem dL_packed_52 : decode cL_packed 52 = .ok (.lcmp, 1) := by decide +kernel
theorem dL_packed_53 : decode cL_packed 53 = .ok (.ifCond .ge 15, 3) := by decide +kernel
theorem dL_packed_56 : decode cL_packed 56 = .ok (.lload 4, 2) := by decide +kernel
theorem dL_packed_58 : decode cL_packed 58 = .ok (.iconst 1, 1) := by decide +kernel
theorem dL_packed_59 : decode cL_packed 59 = .ok (.lshl, 1) := by decide +kernel
theorem dL_packed_60 : decode cL_packed 60 = .ok (.lstore 4, 2) := by decide +kernel
theorem dL_packed_62 : decode cL_packed 62 = .ok (.iinc 6 (-1), 3) := by decide +kernel
theorem dL_packed_65 : decode cL_packed 65 = .ok (.goto (-18), 3) := by decide +kernel
theorem dL_packed_68 : decode cL_packed 68 = .ok (.lload 4, 2) := by decide +kernel
theorem dL_packed_70 : decode cL_packed 70 = .ok (.lconst 1, 1) := by decide +kernel
theorem dL_packed_71 : decode cL_packed 71 = .ok (.land, 1) := by decide +kernel
theorem dL_packed_72 : decode cL_packed 72 = .ok (.lstore 9, 2) := by decide +kernel
theorem dL_packed_74 : decode cL_packed 74 = .ok (.lload 4, 2) := by decide +kernel
theorem dL_packed_76 : decode cL_packed 76 = .ok (.iconst 1, 1) := by decide +kernel
theorem dL_packed_77 : decode cL_packed 77 = .ok (.lshr, 1) := by decide +kernel
theorem dL_packed_78 : decode cL_packed 78 = .ok (.lstore 4, 2) := by decide +kernel
theorem dL_packed_80 : decode cL_packed 80 = .ok (.iinc 6 1, 3) := by decide +kernel
theorem dL_packed_83 : decode cL_packed 83 = .ok (.lload 4, 2) := by decide +kernel
theorem dL_packed_85 : decode cL_packed 85 = .ok (.lload 9, 2) := by decide +kernel
theorem dL_packed_87 : decode cL_packed 87 = .ok (.lconst 1, 1) := by decide +kernel
theorem dL_packed_88 : decode cL_packed 88 = .ok (.lcmp, 1) := by decide +kernel
theorem dL_packed_89 : decode cL_packed 89 = .ok (.ifCond .ne 23, 3) := by decide +kernel
theorem dL_packed_92 : decode cL_packed 92 = .ok (.lload 7, 2) := by decide +kernel
theorem dL_packed_94 : decode cL_packed 94 = .ok (.lconst 1, 1) := by decide +kernel
theorem dL_packed_95 : decode cL_packed 95 = .ok (.lcmp, 1) := by decide +kernel
theorem dL_packed_96 : decode cL_packed 96 = .ok (.ifCond .eq 12, 3) := by decide +kernel
theorem dL_packed_99 : decode cL_packed 99 = .ok (.lload 4, 2) := by decide +kernel
theorem dL_packed_101 : decode cL_packed 101 = .ok (.lconst 1, 1) := by decide +kernel
theorem dL_packed_102 : decode cL_packed 102 = .ok (.land, 1) := by decide +kernel
theorem dL_packed_103 : decode cL_packed 103 = .ok (.lconst 1, 1) := by decide +kernel
theorem dL_packed_104 : decode cL_packed 104 = .ok (.lcmp, 1) := by decide +kernel
theorem dL_packed_105 : decode cL_packed 105 = .ok (.ifCond .ne 7, 3) := by decide +kernel
theorem dL_packed_108 : decode cL_packed 108 = .ok (.lconst 1, 1) := by decide +kernel
theorem dL_packed_109 : decode cL_packed 109 = .ok (.goto 4, 3) := by decide +kernel
theorem dL_packed_112 : decode cL_packed 112 = .ok (.lconst 0, 1) := by decide +kernel
theorem dL_packed_113 : decode cL_packed 113 = .ok (.ladd, 1) := by decide +kernel
theorem dL_packed_114 : decode cL_packed 114 = .ok (.lstore 4, 2) := by decide +kernel
theorem dL_packed_116 : decode cL_packed 116 = .ok (.lload 4, 2) := by decide +kernel
theorem dL_packed_118 : decode cL_packed 118 = .ok (.ldc2_w 42, 3) := by decide +kernel
theorem dL_packed_121 : decode cL_packed 121 = .ok (.lcmp, 1) := by decide +kernel
theorem dL_packed_122 : decode cL_packed 122 = .ok (.ifCond .ne 12, 3) := by decide +kernel
theorem dL_packed_125 : decode cL_packed 125 = .ok (.lload 4, 2) := by decide +kernel
theorem dL_packed_127 : decode cL_packed 127 = .ok (.iconst 1, 1) := by decide +kernel
theorem dL_packed_128 : decode cL_packed 128 = .ok (.lshr, 1) := by decide +kernel
theorem dL_packed_129 : decode cL_packed 129 = .ok (.lstore 4, 2) := by decide +kernel
theorem dL_packed_131 : decode cL_packed 131 = .ok (.iinc 6 1, 3) := by decide +kernel
theorem dL_packed_134 : decode cL_packed 134 = .ok (.iload_n 0, 1) := by decide +kernel
theorem dL_packed_135 : decode cL_packed 135 = .ok (.ifCond .ne 7, 3) := by decide +kernel
theorem dL_packed_138 : decode cL_packed 138 = .ok (.iconst 0, 1) := by decide +kernel
theorem dL_packed_139 : decode cL_packed 139 = .ok (.goto 5, 3) := by decide +kernel
theorem dL_packed_142 : decode cL_packed 142 = .ok (.ldc 44, 2) := by decide +kernel
theorem dL_packed_144 : decode cL_packed 144 = .ok (.iload 6, 2) := by decide +kernel
theorem dL_packed_146 : decode cL_packed 146 = .ok (.sipush 150, 3) := by decide +kernel
theorem dL_packed_149 : decode cL_packed 149 = .ok (.iadd, 1) := by decide +kernel
theorem dL_packed_150 : decode cL_packed 150 = .ok (.bipush 23, 2) := by decide +kernel
theorem dL_packed_152 : decode cL_packed 152 = .ok (.ishl, 1) := by decide +kernel
theorem dL_packed_153 : decode cL_packed 153 = .ok (.iadd, 1) := by decide +kernel
theorem dL_packed_154 : decode cL_packed 154 = .ok (.lload 4, 2) := by decide +kernel
theorem dL_packed_156 : decode cL_packed 156 = .ok (.ldc2_w 45, 3) := by decide +kernel
theorem dL_packed_159 : decode cL_packed 159 = .ok (.lsub, 1) := by decide +kernel
theorem dL_packed_160 : decode cL_packed 160 = .ok (.l2i, 1) := by decide +kernel
theorem dL_packed_161 : decode cL_packed 161 = .ok (.iadd, 1) := by decide +kernel
theorem dL_packed_162 : decode cL_packed 162 = .ok (.ireturn, 1) := by decide +kernel
theorem dL_steps_0 : decode cL_steps 0 = .ok (.iload_n 0, 1) := by decide +kernel
theorem dL_steps_1 : decode cL_steps 1 = .ok (.iconst 1, 1) := by decide +kernel
theorem dL_steps_2 : decode cL_steps 2 = .ok (.ishl, 1) := by decide +kernel
theorem dL_steps_3 : decode cL_steps 3 = .ok (.ifCond .ne 7, 3) := by decide +kernel
theorem dL_steps_6 : decode cL_steps 6 = .ok (.lconst 0, 1) := by decide +kernel
theorem dL_steps_7 : decode cL_steps 7 = .ok (.goto 11, 3) := by decide +kernel
theorem dL_steps_10 : decode cL_steps 10 = .ok (.iload_n 0, 1) := by decide +kernel
theorem dL_steps_11 : decode cL_steps 11 = .ok (.ldc 47, 2) := by decide +kernel
theorem dL_steps_13 : decode cL_steps 13 = .ok (.iand, 1) := by decide +kernel
theorem dL_steps_14 : decode cL_steps 14 = .ok (.ldc 48, 2) := by decide +kernel
theorem dL_steps_16 : decode cL_steps 16 = .ok (.ior, 1) := by decide +kernel
theorem dL_steps_17 : decode cL_steps 17 = .ok (.i2l, 1) := by decide +kernel
theorem dL_steps_18 : decode cL_steps 18 = .ok (.lreturn, 1) := by decide +kernel
theorem dL_power_0 : decode cL_power 0 = .ok (.iload_n 0, 1) := by decide +kernel
theorem dL_power_1 : decode cL_power 1 = .ok (.bipush 23, 2) := by decide +kernel
theorem dL_power_3 : decode cL_power 3 = .ok (.ishr, 1) := by decide +kernel
theorem dL_power_4 : decode cL_power 4 = .ok (.sipush 255, 3) := by decide +kernel
theorem dL_power_7 : decode cL_power 7 = .ok (.iand, 1) := by decide +kernel
theorem dL_power_8 : decode cL_power 8 = .ok (.sipush 150, 3) := by decide +kernel
theorem dL_power_11 : decode cL_power 11 = .ok (.isub, 1) := by decide +kernel
theorem dL_power_12 : decode cL_power 12 = .ok (.ireturn, 1) := by decide +kernel
theorem dL_whole_0 : decode cL_whole 0 = .ok (.iconst 0, 1) := by decide +kernel
theorem dL_whole_1 : decode cL_whole 1 = .ok (.iload_n 0, 1) := by decide +kernel
theorem dL_whole_2 : decode cL_whole 2 = .ok (.i2l, 1) := by decide +kernel
theorem dL_whole_3 : decode cL_whole 3 = .ok (.iconst 0, 1) := by decide +kernel
theorem dL_whole_4 : decode cL_whole 4 = .ok (.invokestatic 49, 3) := by decide +kernel
theorem dL_whole_7 : decode cL_whole 7 = .ok (.ireturn, 1) := by decide +kernel
theorem dL_times_0 : decode cL_times 0 = .ok (.iload_n 0, 1) := by decide +kernel
theorem dL_times_1 : decode cL_times 1 = .ok (.ifCond .ge 7, 3) := by decide +kernel
theorem dL_times_4 : decode cL_times 4 = .ok (.iconst 1, 1) := by decide +kernel
theorem dL_times_5 : decode cL_times 5 = .ok (.goto 4, 3) := by decide +kernel
theorem dL_times_8 : decode cL_times 8 = .ok (.iconst 0, 1) := by decide +kernel
theorem dL_times_9 : decode cL_times 9 = .ok (.iload_n 1, 1) := by decide +kernel
theorem dL_times_10 : decode cL_times 10 = .ok (.ifCond .ge 7, 3) := by decide +kernel
theorem dL_times_13 : decode cL_times 13 = .ok (.iconst 1, 1) := by decide +kernel
theorem dL_times_14 : decode cL_times 14 = .ok (.goto 4, 3) := by decide +kernel
theorem dL_times_17 : decode cL_times 17 = .ok (.iconst 0, 1) := by decide +kernel
theorem dL_times_18 : decode cL_times 18 = .ok (.if_icmp .ne 7, 3) := by decide +kernel
theorem dL_times_21 : decode cL_times 21 = .ok (.iconst 0, 1) := by decide +kernel
theorem dL_times_22 : decode cL_times 22 = .ok (.goto 4, 3) := by decide +kernel
theorem dL_times_25 : decode cL_times 25 = .ok (.iconst 1, 1) := by decide +kernel
theorem dL_times_26 : decode cL_times 26 = .ok (.iload_n 0, 1) := by decide +kernel
theorem dL_times_27 : decode cL_times 27 = .ok (.invokestatic 55, 3) := by decide +kernel
theorem dL_times_30 : decode cL_times 30 = .ok (.iload_n 1, 1) := by decide +kernel
theorem dL_times_31 : decode cL_times 31 = .ok (.invokestatic 55, 3) := by decide +kernel
theorem dL_times_34 : decode cL_times 34 = .ok (.lmul, 1) := by decide +kernel
theorem dL_times_35 : decode cL_times 35 = .ok (.iload_n 0, 1) := by decide +kernel
theorem dL_times_36 : decode cL_times 36 = .ok (.invokestatic 59, 3) := by decide +kernel
theorem dL_times_39 : decode cL_times 39 = .ok (.iload_n 1, 1) := by decide +kernel
theorem dL_times_40 : decode cL_times 40 = .ok (.invokestatic 59, 3) := by decide +kernel
theorem dL_times_43 : decode cL_times 43 = .ok (.iadd, 1) := by decide +kernel
theorem dL_times_44 : decode cL_times 44 = .ok (.invokestatic 49, 3) := by decide +kernel
theorem dL_times_47 : decode cL_times 47 = .ok (.ireturn, 1) := by decide +kernel
theorem dL_over_0 : decode cL_over 0 = .ok (.iload_n 0, 1) := by decide +kernel
theorem dL_over_1 : decode cL_over 1 = .ok (.invokestatic 55, 3) := by decide +kernel
theorem dL_over_4 : decode cL_over 4 = .ok (.bipush 30, 2) := by decide +kernel
theorem dL_over_6 : decode cL_over 6 = .ok (.lshl, 1) := by decide +kernel
theorem dL_over_7 : decode cL_over 7 = .ok (.iload_n 1, 1) := by decide +kernel
theorem dL_over_8 : decode cL_over 8 = .ok (.invokestatic 55, 3) := by decide +kernel
theorem dL_over_11 : decode cL_over 11 = .ok (.ldiv, 1) := by decide +kernel
theorem dL_over_12 : decode cL_over 12 = .ok (.lstore_n 2, 1) := by decide +kernel
theorem dL_over_13 : decode cL_over 13 = .ok (.iload_n 0, 1) := by decide +kernel
theorem dL_over_14 : decode cL_over 14 = .ok (.invokestatic 55, 3) := by decide +kernel
theorem dL_over_17 : decode cL_over 17 = .ok (.bipush 30, 2) := by decide +kernel
theorem dL_over_19 : decode cL_over 19 = .ok (.lshl, 1) := by decide +kernel
theorem dL_over_20 : decode cL_over 20 = .ok (.iload_n 1, 1) := by decide +kernel
theorem dL_over_21 : decode cL_over 21 = .ok (.invokestatic 55, 3) := by decide +kernel
theorem dL_over_24 : decode cL_over 24 = .ok (.lrem, 1) := by decide +kernel
theorem dL_over_25 : decode cL_over 25 = .ok (.lconst 0, 1) := by decide +kernel
theorem dL_over_26 : decode cL_over 26 = .ok (.lcmp, 1) := by decide +kernel
theorem dL_over_27 : decode cL_over 27 = .ok (.ifCond .ne 7, 3) := by decide +kernel
theorem dL_over_30 : decode cL_over 30 = .ok (.lconst 0, 1) := by decide +kernel
theorem dL_over_31 : decode cL_over 31 = .ok (.goto 4, 3) := by decide +kernel
theorem dL_over_34 : decode cL_over 34 = .ok (.lconst 1, 1) := by decide +kernel
theorem dL_over_35 : decode cL_over 35 = .ok (.lstore 4, 2) := by decide +kernel
theorem dL_over_37 : decode cL_over 37 = .ok (.iconst 0, 1) := by decide +kernel
theorem dL_over_38 : decode cL_over 38 = .ok (.ldc2_w 62, 3) := by decide +kernel
theorem dL_over_41 : decode cL_over 41 = .ok (.lload_n 2, 1) := by decide +kernel
theorem dL_over_42 : decode cL_over 42 = .ok (.lmul, 1) := by decide +kernel
theorem dL_over_43 : decode cL_over 43 = .ok (.lload 4, 2) := by decide +kernel
theorem dL_over_45 : decode cL_over 45 = .ok (.ladd, 1) := by decide +kernel
theorem dL_over_46 : decode cL_over 46 = .ok (.iload_n 0, 1) := by decide +kernel
theorem dL_over_47 : decode cL_over 47 = .ok (.invokestatic 59, 3) := by decide +kernel
theorem dL_over_50 : decode cL_over 50 = .ok (.iload_n 1, 1) := by decide +kernel
theorem dL_over_51 : decode cL_over 51 = .ok (.invokestatic 59, 3) := by decide +kernel
theorem dL_over_54 : decode cL_over 54 = .ok (.isub, 1) := by decide +kernel
theorem dL_over_55 : decode cL_over 55 = .ok (.bipush 31, 2) := by decide +kernel
theorem dL_over_57 : decode cL_over 57 = .ok (.isub, 1) := by decide +kernel
theorem dL_over_58 : decode cL_over 58 = .ok (.invokestatic 49, 3) := by decide +kernel
theorem dL_over_61 : decode cL_over 61 = .ok (.ireturn, 1) := by decide +kernel
theorem dL_plus_0 : decode cL_plus 0 = .ok (.iload_n 0, 1) := by decide +kernel
theorem dL_plus_1 : decode cL_plus 1 = .ok (.invokestatic 55, 3) := by decide +kernel
theorem dL_plus_4 : decode cL_plus 4 = .ok (.lconst 0, 1) := by decide +kernel
theorem dL_plus_5 : decode cL_plus 5 = .ok (.lcmp, 1) := by decide +kernel
theorem dL_plus_6 : decode cL_plus 6 = .ok (.ifCond .eq 12, 3) := by decide +kernel
theorem dL_plus_9 : decode cL_plus 9 = .ok (.iload_n 1, 1) := by decide +kernel
theorem dL_plus_10 : decode cL_plus 10 = .ok (.invokestatic 55, 3) := by decide +kernel
theorem dL_plus_13 : decode cL_plus 13 = .ok (.lconst 0, 1) := by decide +kernel
theorem dL_plus_14 : decode cL_plus 14 = .ok (.lcmp, 1) := by decide +kernel
theorem dL_plus_15 : decode cL_plus 15 = .ok (.ifCond .ne 18, 3) := by decide +kernel
theorem dL_plus_18 : decode cL_plus 18 = .ok (.iload_n 0, 1) := by decide +kernel
theorem dL_plus_19 : decode cL_plus 19 = .ok (.invokestatic 55, 3) := by decide +kernel
theorem dL_plus_22 : decode cL_plus 22 = .ok (.lconst 0, 1) := by decide +kernel
theorem dL_plus_23 : decode cL_plus 23 = .ok (.lcmp, 1) := by decide +kernel
theorem dL_plus_24 : decode cL_plus 24 = .ok (.ifCond .ne 7, 3) := by decide +kernel
theorem dL_plus_27 : decode cL_plus 27 = .ok (.iload_n 1, 1) := by decide +kernel
theorem dL_plus_28 : decode cL_plus 28 = .ok (.goto 4, 3) := by decide +kernel
theorem dL_plus_31 : decode cL_plus 31 = .ok (.iload_n 0, 1) := by decide +kernel
theorem dL_plus_32 : decode cL_plus 32 = .ok (.ireturn, 1) := by decide +kernel
theorem dL_plus_33 : decode cL_plus 33 = .ok (.iload_n 0, 1) := by decide +kernel
theorem dL_plus_34 : decode cL_plus 34 = .ok (.invokestatic 59, 3) := by decide +kernel
theorem dL_plus_37 : decode cL_plus 37 = .ok (.iload_n 1, 1) := by decide +kernel
theorem dL_plus_38 : decode cL_plus 38 = .ok (.invokestatic 59, 3) := by decide +kernel
theorem dL_plus_41 : decode cL_plus 41 = .ok (.if_icmp .le 7, 3) := by decide +kernel
theorem dL_plus_44 : decode cL_plus 44 = .ok (.iload_n 0, 1) := by decide +kernel
theorem dL_plus_45 : decode cL_plus 45 = .ok (.goto 4, 3) := by decide +kernel
theorem dL_plus_48 : decode cL_plus 48 = .ok (.iload_n 1, 1) := by decide +kernel
theorem dL_plus_49 : decode cL_plus 49 = .ok (.istore_n 2, 1) := by decide +kernel
theorem dL_plus_50 : decode cL_plus 50 = .ok (.iload_n 0, 1) := by decide +kernel
theorem dL_plus_51 : decode cL_plus 51 = .ok (.invokestatic 59, 3) := by decide +kernel
theorem dL_plus_54 : decode cL_plus 54 = .ok (.iload_n 1, 1) := by decide +kernel
theorem dL_plus_55 : decode cL_plus 55 = .ok (.invokestatic 59, 3) := by decide +kernel
theorem dL_plus_58 : decode cL_plus 58 = .ok (.if_icmp .le 7, 3) := by decide +kernel
theorem dL_plus_61 : decode cL_plus 61 = .ok (.iload_n 1, 1) := by decide +kernel
theorem dL_plus_62 : decode cL_plus 62 = .ok (.goto 4, 3) := by decide +kernel
theorem dL_plus_65 : decode cL_plus 65 = .ok (.iload_n 0, 1) := by decide +kernel
theorem dL_plus_66 : decode cL_plus 66 = .ok (.istore_n 3, 1) := by decide +kernel
theorem dL_plus_67 : decode cL_plus 67 = .ok (.iload_n 2, 1) := by decide +kernel
theorem dL_plus_68 : decode cL_plus 68 = .ok (.invokestatic 59, 3) := by decide +kernel
theorem dL_plus_71 : decode cL_plus 71 = .ok (.iload_n 3, 1) := by decide +kernel
theorem dL_plus_72 : decode cL_plus 72 = .ok (.invokestatic 59, 3) := by decide +kernel
theorem dL_plus_75 : decode cL_plus 75 = .ok (.isub, 1) := by decide +kernel
theorem dL_plus_76 : decode cL_plus 76 = .ok (.istore 4, 2) := by decide +kernel
theorem dL_plus_78 : decode cL_plus 78 = .ok (.iload_n 2, 1) := by decide +kernel
theorem dL_plus_79 : decode cL_plus 79 = .ok (.ifCond .ge 9, 3) := by decide +kernel
theorem dL_plus_82 : decode cL_plus 82 = .ok (.ldc2_w 64, 3) := by decide +kernel
theorem dL_plus_85 : decode cL_plus 85 = .ok (.goto 4, 3) := by decide +kernel
theorem dL_plus_88 : decode cL_plus 88 = .ok (.lconst 1, 1) := by decide +kernel
theorem dL_plus_89 : decode cL_plus 89 = .ok (.iload_n 2, 1) := by decide +kernel
theorem dL_plus_90 : decode cL_plus 90 = .ok (.invokestatic 55, 3) := by decide +kernel
theorem dL_plus_93 : decode cL_plus 93 = .ok (.iload 4, 2) := by decide +kernel
theorem dL_plus_95 : decode cL_plus 95 = .ok (.bipush 36, 2) := by decide +kernel
theorem dL_plus_97 : decode cL_plus 97 = .ok (.if_icmp .ge 8, 3) := by decide +kernel
theorem dL_plus_100 : decode cL_plus 100 = .ok (.iload 4, 2) := by decide +kernel
theorem dL_plus_102 : decode cL_plus 102 = .ok (.goto 5, 3) := by decide +kernel
theorem dL_plus_105 : decode cL_plus 105 = .ok (.bipush 36, 2) := by decide +kernel
theorem dL_plus_107 : decode cL_plus 107 = .ok (.lshl, 1) := by decide +kernel
theorem dL_plus_108 : decode cL_plus 108 = .ok (.lmul, 1) := by decide +kernel
theorem dL_plus_109 : decode cL_plus 109 = .ok (.lstore 5, 2) := by decide +kernel
theorem dL_plus_111 : decode cL_plus 111 = .ok (.iload_n 3, 1) := by decide +kernel
theorem dL_plus_112 : decode cL_plus 112 = .ok (.ifCond .ge 9, 3) := by decide +kernel
theorem dL_plus_115 : decode cL_plus 115 = .ok (.ldc2_w 64, 3) := by decide +kernel
theorem dL_plus_118 : decode cL_plus 118 = .ok (.goto 4, 3) := by decide +kernel
theorem dL_plus_121 : decode cL_plus 121 = .ok (.lconst 1, 1) := by decide +kernel
theorem dL_plus_122 : decode cL_plus 122 = .ok (.iload 4, 2) := by decide +kernel
theorem dL_plus_124 : decode cL_plus 124 = .ok (.bipush 36, 2) := by decide +kernel
theorem dL_plus_126 : decode cL_plus 126 = .ok (.if_icmp .ge 10, 3) := by decide +kernel
theorem dL_plus_129 : decode cL_plus 129 = .ok (.iload_n 3, 1) := by decide +kernel
theorem dL_plus_130 : decode cL_plus 130 = .ok (.invokestatic 55, 3) := by decide +kernel
theorem dL_plus_133 : decode cL_plus 133 = .ok (.goto 4, 3) := by decide +kernel
theorem dL_plus_136 : decode cL_plus 136 = .ok (.lconst 1, 1) := by decide +kernel
theorem dL_plus_137 : decode cL_plus 137 = .ok (.lmul, 1) := by decide +kernel
theorem dL_plus_138 : decode cL_plus 138 = .ok (.lstore 7, 2) := by decide +kernel
theorem dL_plus_140 : decode cL_plus 140 = .ok (.lload 5, 2) := by decide +kernel
theorem dL_plus_142 : decode cL_plus 142 = .ok (.lload 7, 2) := by decide +kernel
theorem dL_plus_144 : decode cL_plus 144 = .ok (.ladd, 1) := by decide +kernel
theorem dL_plus_145 : decode cL_plus 145 = .ok (.lstore 9, 2) := by decide +kernel
theorem dL_plus_147 : decode cL_plus 147 = .ok (.lload 9, 2) := by decide +kernel
theorem dL_plus_149 : decode cL_plus 149 = .ok (.lconst 0, 1) := by decide +kernel
theorem dL_plus_150 : decode cL_plus 150 = .ok (.lcmp, 1) := by decide +kernel
theorem dL_plus_151 : decode cL_plus 151 = .ok (.ifCond .ge 7, 3) := by decide +kernel
theorem dL_plus_154 : decode cL_plus 154 = .ok (.iconst 1, 1) := by decide +kernel
theorem dL_plus_155 : decode cL_plus 155 = .ok (.goto 4, 3) := by decide +kernel
theorem dL_plus_158 : decode cL_plus 158 = .ok (.iconst 0, 1) := by decide +kernel
theorem dL_plus_159 : decode cL_plus 159 = .ok (.lload 9, 2) := by decide +kernel
theorem dL_plus_161 : decode cL_plus 161 = .ok (.lconst 0, 1) := by decide +kernel
theorem dL_plus_162 : decode cL_plus 162 = .ok (.lcmp, 1) := by decide +kernel
theorem dL_plus_163 : decode cL_plus 163 = .ok (.ifCond .ge 9, 3) := by decide +kernel
theorem dL_plus_166 : decode cL_plus 166 = .ok (.lload 9, 2) := by decide +kernel
theorem dL_plus_168 : decode cL_plus 168 = .ok (.lneg, 1) := by decide +kernel
theorem dL_plus_169 : decode cL_plus 169 = .ok (.goto 5, 3) := by decide +kernel
theorem dL_plus_172 : decode cL_plus 172 = .ok (.lload 9, 2) := by decide +kernel
theorem dL_plus_174 : decode cL_plus 174 = .ok (.iload_n 2, 1) := by decide +kernel
theorem dL_plus_175 : decode cL_plus 175 = .ok (.invokestatic 59, 3) := by decide +kernel
theorem dL_plus_178 : decode cL_plus 178 = .ok (.iload 4, 2) := by decide +kernel
theorem dL_plus_180 : decode cL_plus 180 = .ok (.bipush 36, 2) := by decide +kernel
theorem dL_plus_182 : decode cL_plus 182 = .ok (.if_icmp .ge 8, 3) := by decide +kernel
theorem dL_plus_185 : decode cL_plus 185 = .ok (.iload 4, 2) := by decide +kernel
theorem dL_plus_187 : decode cL_plus 187 = .ok (.goto 5, 3) := by decide +kernel
theorem dL_plus_190 : decode cL_plus 190 = .ok (.bipush 36, 2) := by decide +kernel
theorem dL_plus_192 : decode cL_plus 192 = .ok (.isub, 1) := by decide +kernel
theorem dL_plus_193 : decode cL_plus 193 = .ok (.invokestatic 49, 3) := by decide +kernel
theorem dL_plus_196 : decode cL_plus 196 = .ok (.ireturn, 1) := by decide +kernel
theorem dL_cast_0 : decode cL_cast 0 = .ok (.iload_n 0, 1) := by decide +kernel
theorem dL_cast_1 : decode cL_cast 1 = .ok (.invokestatic 59, 3) := by decide +kernel
theorem dL_cast_4 : decode cL_cast 4 = .ok (.bipush (-24), 2) := by decide +kernel
theorem dL_cast_6 : decode cL_cast 6 = .ok (.if_icmp .ge 7, 3) := by decide +kernel
theorem dL_cast_9 : decode cL_cast 9 = .ok (.iconst 0, 1) := by decide +kernel
theorem dL_cast_10 : decode cL_cast 10 = .ok (.goto 33, 3) := by decide +kernel
theorem dL_cast_13 : decode cL_cast 13 = .ok (.iload_n 0, 1) := by decide +kernel
theorem dL_cast_14 : decode cL_cast 14 = .ok (.invokestatic 59, 3) := by decide +kernel
theorem dL_cast_17 : decode cL_cast 17 = .ok (.ifCond .ge 16, 3) := by decide +kernel
theorem dL_cast_20 : decode cL_cast 20 = .ok (.iload_n 0, 1) := by decide +kernel
theorem dL_cast_21 : decode cL_cast 21 = .ok (.invokestatic 55, 3) := by decide +kernel
theorem dL_cast_24 : decode cL_cast 24 = .ok (.iload_n 0, 1) := by decide +kernel
theorem dL_cast_25 : decode cL_cast 25 = .ok (.invokestatic 59, 3) := by decide +kernel
theorem dL_cast_28 : decode cL_cast 28 = .ok (.ineg, 1) := by decide +kernel
theorem dL_cast_29 : decode cL_cast 29 = .ok (.lshr, 1) := by decide +kernel
theorem dL_cast_30 : decode cL_cast 30 = .ok (.goto 12, 3) := by decide +kernel
theorem dL_cast_33 : decode cL_cast 33 = .ok (.iload_n 0, 1) := by decide +kernel
theorem dL_cast_34 : decode cL_cast 34 = .ok (.invokestatic 55, 3) := by decide +kernel
theorem dL_cast_37 : decode cL_cast 37 = .ok (.iload_n 0, 1) := by decide +kernel
theorem dL_cast_38 : decode cL_cast 38 = .ok (.invokestatic 59, 3) := by decide +kernel
theorem dL_cast_41 : decode cL_cast 41 = .ok (.lshl, 1) := by decide +kernel
theorem dL_cast_42 : decode cL_cast 42 = .ok (.l2i, 1) := by decide +kernel
theorem dL_cast_43 : decode cL_cast 43 = .ok (.ireturn, 1) := by decide +kernel
theorem dL_isUsable_0 : decode cL_isUsable 0 = .ok (.aload_n 1, 1) := by decide +kernel
theorem dL_isUsable_1 : decode cL_isUsable 1 = .ok (.bipush 6, 2) := by decide +kernel
theorem dL_isUsable_3 : decode cL_isUsable 3 = .ok (.iload_n 2, 1) := by decide +kernel
theorem dL_isUsable_4 : decode cL_isUsable 4 = .ok (.imul, 1) := by decide +kernel
theorem dL_isUsable_5 : decode cL_isUsable 5 = .ok (.iconst 5, 1) := by decide +kernel
theorem dL_isUsable_6 : decode cL_isUsable 6 = .ok (.iadd, 1) := by decide +kernel
theorem dL_isUsable_7 : decode cL_isUsable 7 = .ok (.iaload, 1) := by decide +kernel
theorem dL_isUsable_8 : decode cL_isUsable 8 = .ok (.ifCond .ne 23, 3) := by decide +kernel
theorem dL_isUsable_11 : decode cL_isUsable 11 = .ok (.aload_n 0, 1) := by decide +kernel
theorem dL_isUsable_12 : decode cL_isUsable 12 = .ok (.iconst 2, 1) := by decide +kernel
theorem dL_isUsable_13 : decode cL_isUsable 13 = .ok (.iaload, 1) := by decide +kernel
theorem dL_isUsable_14 : decode cL_isUsable 14 = .ok (.aload_n 1, 1) := by decide +kernel
theorem dL_isUsable_15 : decode cL_isUsable 15 = .ok (.bipush 6, 2) := by decide +kernel
theorem dL_isUsable_17 : decode cL_isUsable 17 = .ok (.iload_n 2, 1) := by decide +kernel
theorem dL_isUsable_18 : decode cL_isUsable 18 = .ok (.imul, 1) := by decide +kernel
theorem dL_isUsable_19 : decode cL_isUsable 19 = .ok (.iaload, 1) := by decide +kernel
theorem dL_isUsable_20 : decode cL_isUsable 20 = .ok (.ishr, 1) := by decide +kernel
theorem dL_isUsable_21 : decode cL_isUsable 21 = .ok (.iconst 1, 1) := by decide +kernel
theorem dL_isUsable_22 : decode cL_isUsable 22 = .ok (.iand, 1) := by decide +kernel
theorem dL_isUsable_23 : decode cL_isUsable 23 = .ok (.iconst 1, 1) := by decide +kernel
theorem dL_isUsable_24 : decode cL_isUsable 24 = .ok (.if_icmp .ne 7, 3) := by decide +kernel
theorem dL_isUsable_27 : decode cL_isUsable 27 = .ok (.iconst 1, 1) := by decide +kernel
theorem dL_isUsable_28 : decode cL_isUsable 28 = .ok (.goto 4, 3) := by decide +kernel
theorem dL_isUsable_31 : decode cL_isUsable 31 = .ok (.iconst 0, 1) := by decide +kernel
theorem dL_isUsable_32 : decode cL_isUsable 32 = .ok (.ireturn, 1) := by decide +kernel
theorem dL_distance_0 : decode cL_distance 0 = .ok (.aload_n 0, 1) := by decide +kernel
theorem dL_distance_1 : decode cL_distance 1 = .ok (.bipush 6, 2) := by decide +kernel
theorem dL_distance_3 : decode cL_distance 3 = .ok (.iload_n 1, 1) := by decide +kernel
theorem dL_distance_4 : decode cL_distance 4 = .ok (.imul, 1) := by decide +kernel
theorem dL_distance_5 : decode cL_distance 5 = .ok (.iaload, 1) := by decide +kernel
theorem dL_distance_6 : decode cL_distance 6 = .ok (.aload_n 0, 1) := by decide +kernel
theorem dL_distance_7 : decode cL_distance 7 = .ok (.bipush 6, 2) := by decide +kernel
theorem dL_distance_9 : decode cL_distance 9 = .ok (.iload_n 2, 1) := by decide +kernel
theorem dL_distance_10 : decode cL_distance 10 = .ok (.imul, 1) := by decide +kernel
theorem dL_distance_11 : decode cL_distance 11 = .ok (.iaload, 1) := by decide +kernel
theorem dL_distance_12 : decode cL_distance 12 = .ok (.isub, 1) := by decide +kernel
theorem dL_distance_13 : decode cL_distance 13 = .ok (.istore_n 3, 1) := by decide +kernel
theorem dL_distance_14 : decode cL_distance 14 = .ok (.aload_n 0, 1) := by decide +kernel
theorem dL_distance_15 : decode cL_distance 15 = .ok (.bipush 6, 2) := by decide +kernel
theorem dL_distance_17 : decode cL_distance 17 = .ok (.iload_n 1, 1) := by decide +kernel
theorem dL_distance_18 : decode cL_distance 18 = .ok (.imul, 1) := by decide +kernel
theorem dL_distance_19 : decode cL_distance 19 = .ok (.iconst 1, 1) := by decide +kernel
theorem dL_distance_20 : decode cL_distance 20 = .ok (.iadd, 1) := by decide +kernel
theorem dL_distance_21 : decode cL_distance 21 = .ok (.iaload, 1) := by decide +kernel
theorem dL_distance_22 : decode cL_distance 22 = .ok (.aload_n 0, 1) := by decide +kernel
theorem dL_distance_23 : decode cL_distance 23 = .ok (.bipush 6, 2) := by decide +kernel
theorem dL_distance_25 : decode cL_distance 25 = .ok (.iload_n 2, 1) := by decide +kernel
theorem dL_distance_26 : decode cL_distance 26 = .ok (.imul, 1) := by decide +kernel
theorem dL_distance_27 : decode cL_distance 27 = .ok (.iconst 1, 1) := by decide +kernel
theorem dL_distance_28 : decode cL_distance 28 = .ok (.iadd, 1) := by decide +kernel
theorem dL_distance_29 : decode cL_distance 29 = .ok (.iaload, 1) := by decide +kernel
theorem dL_distance_30 : decode cL_distance 30 = .ok (.isub, 1) := by decide +kernel
theorem dL_distance_31 : decode cL_distance 31 = .ok (.istore 4, 2) := by decide +kernel
theorem dL_distance_33 : decode cL_distance 33 = .ok (.bipush 10, 2) := by decide +kernel
theorem dL_distance_35 : decode cL_distance 35 = .ok (.iload_n 3, 1) := by decide +kernel
theorem dL_distance_36 : decode cL_distance 36 = .ok (.ifCond .ge 8, 3) := by decide +kernel
theorem dL_distance_39 : decode cL_distance 39 = .ok (.iload_n 3, 1) := by decide +kernel
theorem dL_distance_40 : decode cL_distance 40 = .ok (.ineg, 1) := by decide +kernel
theorem dL_distance_41 : decode cL_distance 41 = .ok (.goto 4, 3) := by decide +kernel
theorem dL_distance_44 : decode cL_distance 44 = .ok (.iload_n 3, 1) := by decide +kernel
theorem dL_distance_45 : decode cL_distance 45 = .ok (.imul, 1) := by decide +kernel
theorem dL_distance_46 : decode cL_distance 46 = .ok (.iload 4, 2) := by decide +kernel
theorem dL_distance_48 : decode cL_distance 48 = .ok (.ifCond .ge 9, 3) := by decide +kernel
theorem dL_distance_51 : decode cL_distance 51 = .ok (.iload 4, 2) := by decide +kernel
theorem dL_distance_53 : decode cL_distance 53 = .ok (.ineg, 1) := by decide +kernel
theorem dL_distance_54 : decode cL_distance 54 = .ok (.goto 5, 3) := by decide +kernel
theorem dL_distance_57 : decode cL_distance 57 = .ok (.iload 4, 2) := by decide +kernel
theorem dL_distance_59 : decode cL_distance 59 = .ok (.iadd, 1) := by decide +kernel
theorem dL_distance_60 : decode cL_distance 60 = .ok (.ireturn, 1) := by decide +kernel
theorem dL_areShining_0 : decode cL_areShining 0 = .ok (.iconst 0, 1) := by decide +kernel
theorem dL_areShining_1 : decode cL_areShining 1 = .ok (.istore 5, 2) := by decide +kernel
theorem dL_areShining_3 : decode cL_areShining 3 = .ok (.iconst 1, 1) := by decide +kernel
theorem dL_areShining_4 : decode cL_areShining 4 = .ok (.istore 6, 2) := by decide +kernel
theorem dL_areShining_6 : decode cL_areShining 6 = .ok (.iconst 0, 1) := by decide +kernel
theorem dL_areShining_7 : decode cL_areShining 7 = .ok (.istore 7, 2) := by decide +kernel
theorem dL_areShining_9 : decode cL_areShining 9 = .ok (.iload 7, 2) := by decide +kernel
theorem dL_areShining_11 : decode cL_areShining 11 = .ok (.aload_n 2, 1) := by decide +kernel
theorem dL_areShining_12 : decode cL_areShining 12 = .ok (.iconst 0, 1) := by decide +kernel
theorem dL_areShining_13 : decode cL_areShining 13 = .ok (.iaload, 1) := by decide +kernel
theorem dL_areShining_14 : decode cL_areShining 14 = .ok (.if_icmp .ge 319, 3) := by decide +kernel
theorem dL_areShining_17 : decode cL_areShining 17 = .ok (.iload 6, 2) := by decide +kernel
theorem dL_areShining_19 : decode cL_areShining 19 = .ok (.ifCond .eq 314, 3) := by decide +kernel
theorem dL_areShining_22 : decode cL_areShining 22 = .ok (.aload_n 0, 1) := by decide +kernel
theorem dL_areShining_23 : decode cL_areShining 23 = .ok (.iload_n 1, 1) := by decide +kernel
theorem dL_areShining_24 : decode cL_areShining 24 = .ok (.iload 7, 2) := by decide +kernel
theorem dL_areShining_26 : decode cL_areShining 26 = .ok (.invokevirtual 66, 3) := by decide +kernel
theorem dL_areShining_29 : decode cL_areShining 29 = .ok (.istore 8, 2) := by decide +kernel
theorem dL_areShining_31 : decode cL_areShining 31 = .ok (.aload 4, 2) := by decide +kernel
theorem dL_areShining_33 : decode cL_areShining 33 = .ok (.bipush 10, 2) := by decide +kernel
theorem dL_areShining_35 : decode cL_areShining 35 = .ok (.iload_n 1, 1) := by decide +kernel
theorem dL_areShining_36 : decode cL_areShining 36 = .ok (.imul, 1) := by decide +kernel
theorem dL_areShining_37 : decode cL_areShining 37 = .ok (.iload 7, 2) := by decide +kernel
theorem dL_areShining_39 : decode cL_areShining 39 = .ok (.iadd, 1) := by decide +kernel
theorem dL_areShining_40 : decode cL_areShining 40 = .ok (.iaload, 1) := by decide +kernel
theorem dL_areShining_41 : decode cL_areShining 41 = .ok (.ifCond .le 7, 3) := by decide +kernel
theorem dL_areShining_44 : decode cL_areShining 44 = .ok (.iconst 1, 1) := by decide +kernel
theorem dL_areShining_45 : decode cL_areShining 45 = .ok (.goto 4, 3) := by decide +kernel
theorem dL_areShining_48 : decode cL_areShining 48 = .ok (.iconst 0, 1) := by decide +kernel
theorem dL_areShining_49 : decode cL_areShining 49 = .ok (.istore 9, 2) := by decide +kernel
theorem dL_areShining_51 : decode cL_areShining 51 = .ok (.iload 9, 2) := by decide +kernel
theorem dL_areShining_53 : decode cL_areShining 53 = .ok (.ifCond .eq 13, 3) := by decide +kernel
theorem dL_areShining_56 : decode cL_areShining 56 = .ok (.aload_n 2, 1) := by decide +kernel
theorem dL_areShining_57 : decode cL_areShining 57 = .ok (.aload_n 3, 1) := by decide +kernel
theorem dL_areShining_58 : decode cL_areShining 58 = .ok (.iload 7, 2) := by decide +kernel
theorem dL_areShining_60 : decode cL_areShining 60 = .ok (.invokestatic 69, 3) := by decide +kernel
theorem dL_areShining_63 : decode cL_areShining 63 = .ok (.ifCond .eq 29, 3) := by decide +kernel
theorem dL_areShining_66 : decode cL_areShining 66 = .ok (.iload 8, 2) := by decide +kernel
theorem dL_areShining_68 : decode cL_areShining 68 = .ok (.iload 9, 2) := by decide +kernel
theorem dL_areShining_70 : decode cL_areShining 70 = .ok (.ifCond .eq 8, 3) := by decide +kernel
theorem dL_areShining_73 : decode cL_areShining 73 = .ok (.iload 7, 2) := by decide +kernel
theorem dL_areShining_75 : decode cL_areShining 75 = .ok (.goto 4, 3) := by decide +kernel
theorem dL_areShining_78 : decode cL_areShining 78 = .ok (.iconst (-1), 1) := by decide +kernel
theorem dL_areShining_79 : decode cL_areShining 79 = .ok (.if_icmp .ne 7, 3) := by decide +kernel
theorem dL_areShining_82 : decode cL_areShining 82 = .ok (.iconst 1, 1) := by decide +kernel
theorem dL_areShining_83 : decode cL_areShining 83 = .ok (.goto 4, 3) := by decide +kernel
theorem dL_areShining_86 : decode cL_areShining 86 = .ok (.iconst 0, 1) := by decide +kernel
theorem dL_areShining_87 : decode cL_areShining 87 = .ok (.istore 6, 2) := by decide +kernel
theorem dL_areShining_89 : decode cL_areShining 89 = .ok (.goto 238, 3) := by decide +kernel
theorem dL_areShining_92 : decode cL_areShining 92 = .ok (.iload 8, 2) := by decide +kernel
theorem dL_areShining_94 : decode cL_areShining 94 = .ok (.iconst (-1), 1) := by decide +kernel
theorem dL_areShining_95 : decode cL_areShining 95 = .ok (.if_icmp .eq 57, 3) := by decide +kernel
theorem dL_areShining_98 : decode cL_areShining 98 = .ok (.aload_n 2, 1) := by decide +kernel
theorem dL_areShining_99 : decode cL_areShining 99 = .ok (.aload_n 3, 1) := by decide +kernel
theorem dL_areShining_100 : decode cL_areShining 100 = .ok (.iload 8, 2) := by decide +kernel
theorem dL_areShining_102 : decode cL_areShining 102 = .ok (.invokestatic 69, 3) := by decide +kernel
theorem dL_areShining_105 : decode cL_areShining 105 = .ok (.ifCond .eq 51, 3) := by decide +kernel
theorem dL_areShining_108 : decode cL_areShining 108 = .ok (.aload 4, 2) := by decide +kernel
theorem dL_areShining_110 : decode cL_areShining 110 = .ok (.bipush 10, 2) := by decide +kernel
theorem dL_areShining_112 : decode cL_areShining 112 = .ok (.iload_n 1, 1) := by decide +kernel
theorem dL_areShining_113 : decode cL_areShining 113 = .ok (.imul, 1) := by decide +kernel
theorem dL_areShining_114 : decode cL_areShining 114 = .ok (.iload 8, 2) := by decide +kernel
theorem dL_areShining_116 : decode cL_areShining 116 = .ok (.iadd, 1) := by decide +kernel
theorem dL_areShining_117 : decode cL_areShining 117 = .ok (.iaload, 1) := by decide +kernel
