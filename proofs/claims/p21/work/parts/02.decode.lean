theorem dX0_init_0 : decode cX0_init 0 = .ok (.aload_n 0, 1) := by decide +kernel
theorem dX0_init_1 : decode cX0_init 1 = .ok (.invokespecial 3, 3) := by decide +kernel
theorem dX0_init_4 : decode cX0_init 4 = .ok (.aload_n 0, 1) := by decide +kernel
theorem dX0_init_5 : decode cX0_init 5 = .ok (.iload_n 1, 1) := by decide +kernel
theorem dX0_init_6 : decode cX0_init 6 = .ok (.putfield 9, 3) := by decide +kernel
theorem dX0_init_9 : decode cX0_init 9 = .ok (.aload_n 0, 1) := by decide +kernel
theorem dX0_init_10 : decode cX0_init 10 = .ok (.iload_n 2, 1) := by decide +kernel
theorem dX0_init_11 : decode cX0_init 11 = .ok (.putfield 15, 3) := by decide +kernel
theorem dX0_init_14 : decode cX0_init 14 = .ok (.aload_n 0, 1) := by decide +kernel
theorem dX0_init_15 : decode cX0_init 15 = .ok (.iload_n 3, 1) := by decide +kernel
theorem dX0_init_16 : decode cX0_init 16 = .ok (.putfield 18, 3) := by decide +kernel
theorem dX0_init_19 : decode cX0_init 19 = .ok (.aload_n 0, 1) := by decide +kernel
theorem dX0_init_20 : decode cX0_init 20 = .ok (.iload 4, 2) := by decide +kernel
theorem dX0_init_22 : decode cX0_init 22 = .ok (.putfield 21, 3) := by decide +kernel
theorem dX0_init_25 : decode cX0_init 25 = .ok (.aload_n 0, 1) := by decide +kernel
theorem dX0_init_26 : decode cX0_init 26 = .ok (.bipush 16, 2) := by decide +kernel
theorem dX0_init_28 : decode cX0_init 28 = .ok (.newarray .int, 2) := by decide +kernel
theorem dX0_init_30 : decode cX0_init 30 = .ok (.putfield 24, 3) := by decide +kernel
theorem dX0_init_33 : decode cX0_init 33 = .ok (.aload_n 0, 1) := by decide +kernel
theorem dX0_init_34 : decode cX0_init 34 = .ok (.bipush 16, 2) := by decide +kernel
theorem dX0_init_36 : decode cX0_init 36 = .ok (.newarray .int, 2) := by decide +kernel
theorem dX0_init_38 : decode cX0_init 38 = .ok (.putfield 28, 3) := by decide +kernel
theorem dX0_init_41 : decode cX0_init 41 = .ok (.aload_n 0, 1) := by decide +kernel
theorem dX0_init_42 : decode cX0_init 42 = .ok (.bipush 16, 2) := by decide +kernel
theorem dX0_init_44 : decode cX0_init 44 = .ok (.newarray .int, 2) := by decide +kernel
theorem dX0_init_46 : decode cX0_init 46 = .ok (.putfield 31, 3) := by decide +kernel
theorem dX0_init_49 : decode cX0_init 49 = .ok (.aload_n 0, 1) := by decide +kernel
theorem dX0_init_50 : decode cX0_init 50 = .ok (.getfield 28, 3) := by decide +kernel
theorem dX0_init_53 : decode cX0_init 53 = .ok (.iconst (-1), 1) := by decide +kernel
theorem dX0_init_54 : decode cX0_init 54 = .ok (.invokestatic 34, 3) := by decide +kernel
theorem dX0_init_57 : decode cX0_init 57 = .ok (.return_, 1) := by decide +kernel
theorem dX0_tell_0 : decode cX0_tell 0 = .ok (.iload_n 1, 1) := by decide +kernel
theorem dX0_tell_1 : decode cX0_tell 1 = .ok (.ifCond .lt 12, 3) := by decide +kernel
theorem dX0_tell_4 : decode cX0_tell 4 = .ok (.iload_n 1, 1) := by decide +kernel
theorem dX0_tell_5 : decode cX0_tell 5 = .ok (.aload_n 0, 1) := by decide +kernel
theorem dX0_tell_6 : decode cX0_tell 6 = .ok (.getfield 24, 3) := by decide +kernel
theorem dX0_tell_9 : decode cX0_tell 9 = .ok (.arraylength, 1) := by decide +kernel
theorem dX0_tell_10 : decode cX0_tell 10 = .ok (.if_icmp .lt 5, 3) := by decide +kernel
theorem dX0_tell_13 : decode cX0_tell 13 = .ok (.iconst 0, 1) := by decide +kernel
theorem dX0_tell_14 : decode cX0_tell 14 = .ok (.ireturn, 1) := by decide +kernel
theorem dX0_tell_15 : decode cX0_tell 15 = .ok (.aload_n 0, 1) := by decide +kernel
theorem dX0_tell_16 : decode cX0_tell 16 = .ok (.getfield 24, 3) := by decide +kernel
theorem dX0_tell_19 : decode cX0_tell 19 = .ok (.iload_n 1, 1) := by decide +kernel
theorem dX0_tell_20 : decode cX0_tell 20 = .ok (.iaload, 1) := by decide +kernel
theorem dX0_tell_21 : decode cX0_tell 21 = .ok (.istore_n 3, 1) := by decide +kernel
theorem dX0_tell_22 : decode cX0_tell 22 = .ok (.aload_n 0, 1) := by decide +kernel
theorem dX0_tell_23 : decode cX0_tell 23 = .ok (.getfield 24, 3) := by decide +kernel
theorem dX0_tell_26 : decode cX0_tell 26 = .ok (.iload_n 1, 1) := by decide +kernel
theorem dX0_tell_27 : decode cX0_tell 27 = .ok (.iload_n 2, 1) := by decide +kernel
theorem dX0_tell_28 : decode cX0_tell 28 = .ok (.iastore, 1) := by decide +kernel
theorem dX0_tell_29 : decode cX0_tell 29 = .ok (.iload_n 3, 1) := by decide +kernel
theorem dX0_tell_30 : decode cX0_tell 30 = .ok (.ireturn, 1) := by decide +kernel
theorem dX0_shinerFor_0 : decode cX0_shinerFor 0 = .ok (.iload_n 1, 1) := by decide +kernel
theorem dX0_shinerFor_1 : decode cX0_shinerFor 1 = .ok (.ifCond .lt 21, 3) := by decide +kernel
theorem dX0_shinerFor_4 : decode cX0_shinerFor 4 = .ok (.iload_n 1, 1) := by decide +kernel
theorem dX0_shinerFor_5 : decode cX0_shinerFor 5 = .ok (.aload_n 0, 1) := by decide +kernel
theorem dX0_shinerFor_6 : decode cX0_shinerFor 6 = .ok (.getfield 28, 3) := by decide +kernel
theorem dX0_shinerFor_9 : decode cX0_shinerFor 9 = .ok (.arraylength, 1) := by decide +kernel
theorem dX0_shinerFor_10 : decode cX0_shinerFor 10 = .ok (.if_icmp .ge 12, 3) := by decide +kernel
theorem dX0_shinerFor_13 : decode cX0_shinerFor 13 = .ok (.aload_n 0, 1) := by decide +kernel
theorem dX0_shinerFor_14 : decode cX0_shinerFor 14 = .ok (.getfield 28, 3) := by decide +kernel
theorem dX0_shinerFor_17 : decode cX0_shinerFor 17 = .ok (.iload_n 1, 1) := by decide +kernel
theorem dX0_shinerFor_18 : decode cX0_shinerFor 18 = .ok (.iaload, 1) := by decide +kernel
theorem dX0_shinerFor_19 : decode cX0_shinerFor 19 = .ok (.goto 4, 3) := by decide +kernel
theorem dX0_shinerFor_22 : decode cX0_shinerFor 22 = .ok (.iconst (-1), 1) := by decide +kernel
theorem dX0_shinerFor_23 : decode cX0_shinerFor 23 = .ok (.ireturn, 1) := by decide +kernel
theorem dX0_levelFor_0 : decode cX0_levelFor 0 = .ok (.iload_n 1, 1) := by decide +kernel
theorem dX0_levelFor_1 : decode cX0_levelFor 1 = .ok (.ifCond .lt 21, 3) := by decide +kernel
theorem dX0_levelFor_4 : decode cX0_levelFor 4 = .ok (.iload_n 1, 1) := by decide +kernel
theorem dX0_levelFor_5 : decode cX0_levelFor 5 = .ok (.aload_n 0, 1) := by decide +kernel
theorem dX0_levelFor_6 : decode cX0_levelFor 6 = .ok (.getfield 31, 3) := by decide +kernel
theorem dX0_levelFor_9 : decode cX0_levelFor 9 = .ok (.arraylength, 1) := by decide +kernel
theorem dX0_levelFor_10 : decode cX0_levelFor 10 = .ok (.if_icmp .ge 12, 3) := by decide +kernel
theorem dX0_levelFor_13 : decode cX0_levelFor 13 = .ok (.aload_n 0, 1) := by decide +kernel
theorem dX0_levelFor_14 : decode cX0_levelFor 14 = .ok (.getfield 31, 3) := by decide +kernel
theorem dX0_levelFor_17 : decode cX0_levelFor 17 = .ok (.iload_n 1, 1) := by decide +kernel
theorem dX0_levelFor_18 : decode cX0_levelFor 18 = .ok (.iaload, 1) := by decide +kernel
theorem dX0_levelFor_19 : decode cX0_levelFor 19 = .ok (.goto 4, 3) := by decide +kernel
theorem dX0_levelFor_22 : decode cX0_levelFor 22 = .ok (.iconst 0, 1) := by decide +kernel
theorem dX0_levelFor_23 : decode cX0_levelFor 23 = .ok (.ireturn, 1) := by decide +kernel
theorem dX0_canSpare_0 : decode cX0_canSpare 0 = .ok (.iload_n 1, 1) := by decide +kernel
theorem dX0_canSpare_1 : decode cX0_canSpare 1 = .ok (.ifCond .lt 31, 3) := by decide +kernel
theorem dX0_canSpare_4 : decode cX0_canSpare 4 = .ok (.iload_n 1, 1) := by decide +kernel
theorem dX0_canSpare_5 : decode cX0_canSpare 5 = .ok (.bipush 16, 2) := by decide +kernel
theorem dX0_canSpare_7 : decode cX0_canSpare 7 = .ok (.if_icmp .ge 25, 3) := by decide +kernel
theorem dX0_canSpare_10 : decode cX0_canSpare 10 = .ok (.aload_n 0, 1) := by decide +kernel
theorem dX0_canSpare_11 : decode cX0_canSpare 11 = .ok (.getfield 24, 3) := by decide +kernel
theorem dX0_canSpare_14 : decode cX0_canSpare 14 = .ok (.iload_n 1, 1) := by decide +kernel
theorem dX0_canSpare_15 : decode cX0_canSpare 15 = .ok (.iaload, 1) := by decide +kernel
theorem dX0_canSpare_16 : decode cX0_canSpare 16 = .ok (.ifCond .ne 16, 3) := by decide +kernel
theorem dX0_canSpare_19 : decode cX0_canSpare 19 = .ok (.aload_n 0, 1) := by decide +kernel
theorem dX0_canSpare_20 : decode cX0_canSpare 20 = .ok (.getfield 31, 3) := by decide +kernel
theorem dX0_canSpare_23 : decode cX0_canSpare 23 = .ok (.iload_n 1, 1) := by decide +kernel
theorem dX0_canSpare_24 : decode cX0_canSpare 24 = .ok (.iaload, 1) := by decide +kernel
theorem dX0_canSpare_25 : decode cX0_canSpare 25 = .ok (.ifCond .ne 7, 3) := by decide +kernel
theorem dX0_canSpare_28 : decode cX0_canSpare 28 = .ok (.iconst 1, 1) := by decide +kernel
theorem dX0_canSpare_29 : decode cX0_canSpare 29 = .ok (.goto 4, 3) := by decide +kernel
theorem dX0_canSpare_32 : decode cX0_canSpare 32 = .ok (.iconst 0, 1) := by decide +kernel
theorem dX0_canSpare_33 : decode cX0_canSpare 33 = .ok (.ireturn, 1) := by decide +kernel
theorem dX0_arrange_0 : decode cX0_arrange 0 = .ok (.aload_n 0, 1) := by decide +kernel
theorem dX0_arrange_1 : decode cX0_arrange 1 = .ok (.getfield 28, 3) := by decide +kernel
theorem dX0_arrange_4 : decode cX0_arrange 4 = .ok (.iconst (-1), 1) := by decide +kernel
theorem dX0_arrange_5 : decode cX0_arrange 5 = .ok (.invokestatic 34, 3) := by decide +kernel
theorem dX0_arrange_8 : decode cX0_arrange 8 = .ok (.aload_n 0, 1) := by decide +kernel
theorem dX0_arrange_9 : decode cX0_arrange 9 = .ok (.getfield 31, 3) := by decide +kernel
theorem dX0_arrange_12 : decode cX0_arrange 12 = .ok (.iconst 0, 1) := by decide +kernel
theorem dX0_arrange_13 : decode cX0_arrange 13 = .ok (.invokestatic 34, 3) := by decide +kernel
theorem dX0_arrange_16 : decode cX0_arrange 16 = .ok (.iconst 0, 1) := by decide +kernel
theorem dX0_arrange_17 : decode cX0_arrange 17 = .ok (.istore_n 2, 1) := by decide +kernel
theorem dX0_arrange_18 : decode cX0_arrange 18 = .ok (.iload_n 2, 1) := by decide +kernel
theorem dX0_arrange_19 : decode cX0_arrange 19 = .ok (.bipush 16, 2) := by decide +kernel
theorem dX0_arrange_21 : decode cX0_arrange 21 = .ok (.if_icmp .ge 84, 3) := by decide +kernel
theorem dX0_arrange_24 : decode cX0_arrange 24 = .ok (.aload_n 1, 1) := by decide +kernel
theorem dX0_arrange_25 : decode cX0_arrange 25 = .ok (.iload_n 2, 1) := by decide +kernel
theorem dX0_arrange_26 : decode cX0_arrange 26 = .ok (.invokevirtual 40, 3) := by decide +kernel
theorem dX0_arrange_29 : decode cX0_arrange 29 = .ok (.astore_n 3, 1) := by decide +kernel
theorem dX0_arrange_30 : decode cX0_arrange 30 = .ok (.aload_n 3, 1) := by decide +kernel
theorem dX0_arrange_31 : decode cX0_arrange 31 = .ok (.ifnull 68, 3) := by decide +kernel
theorem dX0_arrange_34 : decode cX0_arrange 34 = .ok (.aload_n 0, 1) := by decide +kernel
theorem dX0_arrange_35 : decode cX0_arrange 35 = .ok (.getfield 24, 3) := by decide +kernel
theorem dX0_arrange_38 : decode cX0_arrange 38 = .ok (.iload_n 2, 1) := by decide +kernel
theorem dX0_arrange_39 : decode cX0_arrange 39 = .ok (.iaload, 1) := by decide +kernel
theorem dX0_arrange_40 : decode cX0_arrange 40 = .ok (.ifCond .ne 6, 3) := by decide +kernel
theorem dX0_arrange_43 : decode cX0_arrange 43 = .ok (.goto 56, 3) := by decide +kernel
theorem dX0_arrange_46 : decode cX0_arrange 46 = .ok (.aload_n 1, 1) := by decide +kernel
theorem dX0_arrange_47 : decode cX0_arrange 47 = .ok (.aload_n 3, 1) := by decide +kernel
theorem dX0_arrange_48 : decode cX0_arrange 48 = .ok (.invokevirtual 46, 3) := by decide +kernel
theorem dX0_arrange_51 : decode cX0_arrange 51 = .ok (.ifCond .eq 7, 3) := by decide +kernel
theorem dX0_arrange_54 : decode cX0_arrange 54 = .ok (.iload_n 2, 1) := by decide +kernel
theorem dX0_arrange_55 : decode cX0_arrange 55 = .ok (.goto 9, 3) := by decide +kernel
theorem dX0_arrange_58 : decode cX0_arrange 58 = .ok (.aload_n 1, 1) := by decide +kernel
theorem dX0_arrange_59 : decode cX0_arrange 59 = .ok (.aload_n 3, 1) := by decide +kernel
theorem dX0_arrange_60 : decode cX0_arrange 60 = .ok (.aload_n 0, 1) := by decide +kernel
theorem dX0_arrange_61 : decode cX0_arrange 61 = .ok (.invokevirtual 50, 3) := by decide +kernel
theorem dX0_arrange_64 : decode cX0_arrange 64 = .ok (.istore 4, 2) := by decide +kernel
theorem dX0_arrange_66 : decode cX0_arrange 66 = .ok (.iload 4, 2) := by decide +kernel
theorem dX0_arrange_68 : decode cX0_arrange 68 = .ok (.ifCond .lt 31, 3) := by decide +kernel
theorem dX0_arrange_71 : decode cX0_arrange 71 = .ok (.iload 4, 2) := by decide +kernel
theorem dX0_arrange_73 : decode cX0_arrange 73 = .ok (.bipush 16, 2) := by decide +kernel
theorem dX0_arrange_75 : decode cX0_arrange 75 = .ok (.if_icmp .ge 24, 3) := by decide +kernel
theorem dX0_arrange_78 : decode cX0_arrange 78 = .ok (.aload_n 0, 1) := by decide +kernel
theorem dX0_arrange_79 : decode cX0_arrange 79 = .ok (.getfield 28, 3) := by decide +kernel
theorem dX0_arrange_82 : decode cX0_arrange 82 = .ok (.iload_n 2, 1) := by decide +kernel
theorem dX0_arrange_83 : decode cX0_arrange 83 = .ok (.iload 4, 2) := by decide +kernel
theorem dX0_arrange_85 : decode cX0_arrange 85 = .ok (.iastore, 1) := by decide +kernel
theorem dX0_arrange_86 : decode cX0_arrange 86 = .ok (.aload_n 0, 1) := by decide +kernel
theorem dX0_arrange_87 : decode cX0_arrange 87 = .ok (.getfield 31, 3) := by decide +kernel
theorem dX0_arrange_90 : decode cX0_arrange 90 = .ok (.iload 4, 2) := by decide +kernel
theorem dX0_arrange_92 : decode cX0_arrange 92 = .ok (.aload_n 0, 1) := by decide +kernel
theorem dX0_arrange_93 : decode cX0_arrange 93 = .ok (.getfield 24, 3) := by decide +kernel
theorem dX0_arrange_96 : decode cX0_arrange 96 = .ok (.iload_n 2, 1) := by decide +kernel
theorem dX0_arrange_97 : decode cX0_arrange 97 = .ok (.iaload, 1) := by decide +kernel
theorem dX0_arrange_98 : decode cX0_arrange 98 = .ok (.iastore, 1) := by decide +kernel
theorem dX0_arrange_99 : decode cX0_arrange 99 = .ok (.iinc 2 1, 3) := by decide +kernel
theorem dX0_arrange_102 : decode cX0_arrange 102 = .ok (.goto (-84), 3) := by decide +kernel
theorem dX0_arrange_105 : decode cX0_arrange 105 = .ok (.return_, 1) := by decide +kernel
theorem dX0_masterRisen_0 : decode cX0_masterRisen 0 = .ok (.aload_n 0, 1) := by decide +kernel
theorem dX0_masterRisen_1 : decode cX0_masterRisen 1 = .ok (.getfield 18, 3) := by decide +kernel
theorem dX0_masterRisen_4 : decode cX0_masterRisen 4 = .ok (.ifCond .ne 5, 3) := by decide +kernel
theorem dX0_masterRisen_7 : decode cX0_masterRisen 7 = .ok (.fconst 1, 1) := by decide +kernel
theorem dX0_masterRisen_8 : decode cX0_masterRisen 8 = .ok (.freturn, 1) := by decide +kernel
theorem dX0_masterRisen_9 : decode cX0_masterRisen 9 = .ok (.iload_n 1, 1) := by decide +kernel
theorem dX0_masterRisen_10 : decode cX0_masterRisen 10 = .ok (.i2f, 1) := by decide +kernel
theorem dX0_masterRisen_11 : decode cX0_masterRisen 11 = .ok (.aload_n 0, 1) := by decide +kernel
theorem dX0_masterRisen_12 : decode cX0_masterRisen 12 = .ok (.getfield 18, 3) := by decide +kernel
theorem dX0_masterRisen_15 : decode cX0_masterRisen 15 = .ok (.i2f, 1) := by decide +kernel
theorem dX0_masterRisen_16 : decode cX0_masterRisen 16 = .ok (.fdiv, 1) := by decide +kernel
theorem dX0_masterRisen_17 : decode cX0_masterRisen 17 = .ok (.fstore_n 2, 1) := by decide +kernel
theorem dX0_masterRisen_18 : decode cX0_masterRisen 18 = .ok (.fload_n 2, 1) := by decide +kernel
theorem dX0_masterRisen_19 : decode cX0_masterRisen 19 = .ok (.fconst 1, 1) := by decide +kernel
theorem dX0_masterRisen_20 : decode cX0_masterRisen 20 = .ok (.fcmp .g, 1) := by decide +kernel
theorem dX0_masterRisen_21 : decode cX0_masterRisen 21 = .ok (.ifCond .ge 7, 3) := by decide +kernel
theorem dX0_masterRisen_24 : decode cX0_masterRisen 24 = .ok (.fload_n 2, 1) := by decide +kernel
theorem dX0_masterRisen_25 : decode cX0_masterRisen 25 = .ok (.goto 4, 3) := by decide +kernel
theorem dX0_masterRisen_28 : decode cX0_masterRisen 28 = .ok (.fconst 1, 1) := by decide +kernel
theorem dX0_masterRisen_29 : decode cX0_masterRisen 29 = .ok (.freturn, 1) := by decide +kernel
theorem dX1_init_0 : decode cX1_init 0 = .ok (.aload_n 0, 1) := by decide +kernel
theorem dX1_init_1 : decode cX1_init 1 = .ok (.invokespecial 3, 3) := by decide +kernel
theorem dX1_init_4 : decode cX1_init 4 = .ok (.aload_n 0, 1) := by decide +kernel
theorem dX1_init_5 : decode cX1_init 5 = .ok (.iconst (-1), 1) := by decide +kernel
theorem dX1_init_6 : decode cX1_init 6 = .ok (.putfield 9, 3) := by decide +kernel
theorem dX1_init_9 : decode cX1_init 9 = .ok (.return_, 1) := by decide +kernel
theorem dX1_begin_0 : decode cX1_begin 0 = .ok (.aload_n 0, 1) := by decide +kernel
theorem dX1_begin_1 : decode cX1_begin 1 = .ok (.aload_n 1, 1) := by decide +kernel
theorem dX1_begin_2 : decode cX1_begin 2 = .ok (.putfield 15, 3) := by decide +kernel
theorem dX1_begin_5 : decode cX1_begin 5 = .ok (.aload_n 0, 1) := by decide +kernel
theorem dX1_begin_6 : decode cX1_begin 6 = .ok (.iload_n 2, 1) := by decide +kernel
theorem dX1_begin_7 : decode cX1_begin 7 = .ok (.putfield 19, 3) := by decide +kernel
theorem dX1_begin_10 : decode cX1_begin 10 = .ok (.aload_n 0, 1) := by decide +kernel
theorem dX1_begin_11 : decode cX1_begin 11 = .ok (.iconst (-1), 1) := by decide +kernel
theorem dX1_begin_12 : decode cX1_begin 12 = .ok (.putfield 9, 3) := by decide +kernel
theorem dX1_begin_15 : decode cX1_begin 15 = .ok (.return_, 1) := by decide +kernel
theorem dX1_fall_0 : decode cX1_fall 0 = .ok (.aload_n 0, 1) := by decide +kernel
theorem dX1_fall_1 : decode cX1_fall 1 = .ok (.iload_n 1, 1) := by decide +kernel
theorem dX1_fall_2 : decode cX1_fall 2 = .ok (.putfield 9, 3) := by decide +kernel
theorem dX1_fall_5 : decode cX1_fall 5 = .ok (.return_, 1) := by decide +kernel
theorem dX1_isReleased_0 : decode cX1_isReleased 0 = .ok (.aload_n 0, 1) := by decide +kernel
theorem dX1_isReleased_1 : decode cX1_isReleased 1 = .ok (.getfield 9, 3) := by decide +kernel
theorem dX1_isReleased_4 : decode cX1_isReleased 4 = .ok (.iconst (-1), 1) := by decide +kernel
theorem dX1_isReleased_5 : decode cX1_isReleased 5 = .ok (.if_icmp .eq 7, 3) := by decide +kernel
theorem dX1_isReleased_8 : decode cX1_isReleased 8 = .ok (.iconst 1, 1) := by decide +kernel
theorem dX1_isReleased_9 : decode cX1_isReleased 9 = .ok (.goto 4, 3) := by decide +kernel
theorem dX1_isReleased_12 : decode cX1_isReleased 12 = .ok (.iconst 0, 1) := by decide +kernel
theorem dX1_isReleased_13 : decode cX1_isReleased 13 = .ok (.ireturn, 1) := by decide +kernel
theorem dX1_isOver_0 : decode cX1_isOver 0 = .ok (.aload_n 0, 1) := by decide +kernel
theorem dX1_isOver_1 : decode cX1_isOver 1 = .ok (.getfield 15, 3) := by decide +kernel
theorem dX1_isOver_4 : decode cX1_isOver 4 = .ok (.ifnull 26, 3) := by decide +kernel
theorem dX1_isOver_7 : decode cX1_isOver 7 = .ok (.aload_n 0, 1) := by decide +kernel
theorem dX1_isOver_8 : decode cX1_isOver 8 = .ok (.invokevirtual 22, 3) := by decide +kernel
theorem dX1_isOver_11 : decode cX1_isOver 11 = .ok (.ifCond .eq 23, 3) := by decide +kernel
theorem dX1_isOver_14 : decode cX1_isOver 14 = .ok (.iload_n 1, 1) := by decide +kernel
theorem dX1_isOver_15 : decode cX1_isOver 15 = .ok (.aload_n 0, 1) := by decide +kernel
theorem dX1_isOver_16 : decode cX1_isOver 16 = .ok (.getfield 9, 3) := by decide +kernel
theorem dX1_isOver_19 : decode cX1_isOver 19 = .ok (.isub, 1) := by decide +kernel
theorem dX1_isOver_20 : decode cX1_isOver 20 = .ok (.aload_n 0, 1) := by decide +kernel
theorem dX1_isOver_21 : decode cX1_isOver 21 = .ok (.getfield 15, 3) := by decide +kernel
theorem dX1_isOver_24 : decode cX1_isOver 24 = .ok (.getfield 26, 3) := by decide +kernel
theorem dX1_isOver_27 : decode cX1_isOver 27 = .ok (.if_icmp .lt 7, 3) := by decide +kernel
theorem dX1_isOver_30 : decode cX1_isOver 30 = .ok (.iconst 1, 1) := by decide +kernel
theorem dX1_isOver_31 : decode cX1_isOver 31 = .ok (.goto 4, 3) := by decide +kernel
theorem dX1_isOver_34 : decode cX1_isOver 34 = .ok (.iconst 0, 1) := by decide +kernel
theorem dX1_isOver_35 : decode cX1_isOver 35 = .ok (.ireturn, 1) := by decide +kernel
theorem dX1_isOf_0 : decode cX1_isOf 0 = .ok (.aload_n 0, 1) := by decide +kernel
theorem dX1_isOf_1 : decode cX1_isOf 1 = .ok (.getfield 15, 3) := by decide +kernel
theorem dX1_isOf_4 : decode cX1_isOf 4 = .ok (.ifnull 18, 3) := by decide +kernel
theorem dX1_isOf_7 : decode cX1_isOf 7 = .ok (.aload_n 0, 1) := by decide +kernel
theorem dX1_isOf_8 : decode cX1_isOf 8 = .ok (.getfield 15, 3) := by decide +kernel
theorem dX1_isOf_11 : decode cX1_isOf 11 = .ok (.getfield 31, 3) := by decide +kernel
theorem dX1_isOf_14 : decode cX1_isOf 14 = .ok (.iload_n 1, 1) := by decide +kernel
theorem dX1_isOf_15 : decode cX1_isOf 15 = .ok (.if_icmp .ne 7, 3) := by decide +kernel
theorem dX1_isOf_18 : decode cX1_isOf 18 = .ok (.iconst 1, 1) := by decide +kernel
theorem dX1_isOf_19 : decode cX1_isOf 19 = .ok (.goto 4, 3) := by decide +kernel
theorem dX1_isOf_22 : decode cX1_isOf 22 = .ok (.iconst 0, 1) := by decide +kernel
theorem dX1_isOf_23 : decode cX1_isOf 23 = .ok (.ireturn, 1) := by decide +kernel
theorem dX1_levelFor_0 : decode cX1_levelFor 0 = .ok (.aload_n 0, 1) := by decide +kernel
theorem dX1_levelFor_1 : decode cX1_levelFor 1 = .ok (.getfield 15, 3) := by decide +kernel
theorem dX1_levelFor_4 : decode cX1_levelFor 4 = .ok (.ifnonnull 7, 3) := by decide +kernel
theorem dX1_levelFor_7 : decode cX1_levelFor 7 = .ok (.iconst 0, 1) := by decide +kernel
theorem dX1_levelFor_8 : decode cX1_levelFor 8 = .ok (.goto 11, 3) := by decide +kernel
theorem dX1_levelFor_11 : decode cX1_levelFor 11 = .ok (.aload_n 0, 1) := by decide +kernel
theorem dX1_levelFor_12 : decode cX1_levelFor 12 = .ok (.getfield 15, 3) := by decide +kernel
theorem dX1_levelFor_15 : decode cX1_levelFor 15 = .ok (.iload_n 1, 1) := by decide +kernel
theorem dX1_levelFor_16 : decode cX1_levelFor 16 = .ok (.invokevirtual 34, 3) := by decide +kernel
theorem dX1_levelFor_19 : decode cX1_levelFor 19 = .ok (.ireturn, 1) := by decide +kernel
theorem dX1_master_0 : decode cX1_master 0 = .ok (.aload_n 0, 1) := by decide +kernel
theorem dX1_master_1 : decode cX1_master 1 = .ok (.getfield 15, 3) := by decide +kernel
theorem dX1_master_4 : decode cX1_master 4 = .ok (.ifnonnull 5, 3) := by decide +kernel
theorem dX1_master_7 : decode cX1_master 7 = .ok (.fconst 0, 1) := by decide +kernel
theorem dX1_master_8 : decode cX1_master 8 = .ok (.freturn, 1) := by decide +kernel
theorem dX1_master_9 : decode cX1_master 9 = .ok (.aload_n 0, 1) := by decide +kernel
theorem dX1_master_10 : decode cX1_master 10 = .ok (.invokevirtual 22, 3) := by decide +kernel
theorem dX1_master_13 : decode cX1_master 13 = .ok (.ifCond .ne 17, 3) := by decide +kernel
theorem dX1_master_16 : decode cX1_master 16 = .ok (.aload_n 0, 1) := by decide +kernel
theorem dX1_master_17 : decode cX1_master 17 = .ok (.getfield 15, 3) := by decide +kernel
theorem dX1_master_20 : decode cX1_master 20 = .ok (.iload_n 1, 1) := by decide +kernel
theorem dX1_master_21 : decode cX1_master 21 = .ok (.aload_n 0, 1) := by decide +kernel
theorem dX1_master_22 : decode cX1_master 22 = .ok (.getfield 19, 3) := by decide +kernel
theorem dX1_master_25 : decode cX1_master 25 = .ok (.isub, 1) := by decide +kernel
theorem dX1_master_26 : decode cX1_master 26 = .ok (.invokevirtual 38, 3) := by decide +kernel
theorem dX1_master_29 : decode cX1_master 29 = .ok (.freturn, 1) := by decide +kernel
theorem dX1_master_30 : decode cX1_master 30 = .ok (.aload_n 0, 1) := by decide +kernel
theorem dX1_master_31 : decode cX1_master 31 = .ok (.getfield 15, 3) := by decide +kernel
theorem dX1_master_34 : decode cX1_master 34 = .ok (.getfield 26, 3) := by decide +kernel
theorem dX1_master_37 : decode cX1_master 37 = .ok (.ifCond .ne 5, 3) := by decide +kernel
theorem dX1_master_40 : decode cX1_master 40 = .ok (.fconst 0, 1) := by decide +kernel
theorem dX1_master_41 : decode cX1_master 41 = .ok (.freturn, 1) := by decide +kernel
theorem dX1_master_42 : decode cX1_master 42 = .ok (.aload_n 0, 1) := by decide +kernel
theorem dX1_master_43 : decode cX1_master 43 = .ok (.getfield 15, 3) := by decide +kernel
theorem dX1_master_46 : decode cX1_master 46 = .ok (.aload_n 0, 1) := by decide +kernel
theorem dX1_master_47 : decode cX1_master 47 = .ok (.getfield 9, 3) := by decide +kernel
theorem dX1_master_50 : decode cX1_master 50 = .ok (.aload_n 0, 1) := by decide +kernel
theorem dX1_master_51 : decode cX1_master 51 = .ok (.getfield 19, 3) := by decide +kernel
theorem dX1_master_54 : decode cX1_master 54 = .ok (.isub, 1) := by decide +kernel
theorem dX1_master_55 : decode cX1_master 55 = .ok (.invokevirtual 38, 3) := by decide +kernel
theorem dX1_master_58 : decode cX1_master 58 = .ok (.fconst 1, 1) := by decide +kernel
theorem dX1_master_59 : decode cX1_master 59 = .ok (.iload_n 1, 1) := by decide +kernel
theorem dX1_master_60 : decode cX1_master 60 = .ok (.aload_n 0, 1) := by decide +kernel
theorem dX1_master_61 : decode cX1_master 61 = .ok (.getfield 9, 3) := by decide +kernel
theorem dX1_master_64 : decode cX1_master 64 = .ok (.isub, 1) := by decide +kernel
theorem dX1_master_65 : decode cX1_master 65 = .ok (.i2f, 1) := by decide +kernel
theorem dX1_master_66 : decode cX1_master 66 = .ok (.aload_n 0, 1) := by decide +kernel
theorem dX1_master_67 : decode cX1_master 67 = .ok (.getfield 15, 3) := by decide +kernel
theorem dX1_master_70 : decode cX1_master 70 = .ok (.getfield 26, 3) := by decide +kernel
theorem dX1_master_73 : decode cX1_master 73 = .ok (.i2f, 1) := by decide +kernel
theorem dX1_master_74 : decode cX1_master 74 = .ok (.fdiv, 1) := by decide +kernel
theorem dX1_master_75 : decode cX1_master 75 = .ok (.fsub, 1) := by decide +kernel
theorem dX1_master_76 : decode cX1_master 76 = .ok (.fmul, 1) := by decide +kernel
theorem dX1_master_77 : decode cX1_master 77 = .ok (.freturn, 1) := by decide +kernel
theorem dX2_init_0 : decode cX2_init 0 = .ok (.aload_n 0, 1) := by decide +kernel
theorem dX2_init_1 : decode cX2_init 1 = .ok (.invokespecial 3, 3) := by decide +kernel
theorem dX2_init_4 : decode cX2_init 4 = .ok (.aload_n 0, 1) := by decide +kernel
theorem dX2_init_5 : decode cX2_init 5 = .ok (.bipush 12, 2) := by decide +kernel
theorem dX2_init_7 : decode cX2_init 7 = .ok (.anewarray 9, 3) := by decide +kernel
theorem dX2_init_10 : decode cX2_init 10 = .ok (.putfield 11, 3) := by decide +kernel
theorem dX2_init_13 : decode cX2_init 13 = .ok (.iconst 0, 1) := by decide +kernel
theorem dX2_init_14 : decode cX2_init 14 = .ok (.istore_n 1, 1) := by decide +kernel
theorem dX2_init_15 : decode cX2_init 15 = .ok (.iload_n 1, 1) := by decide +kernel
theorem dX2_init_16 : decode cX2_init 16 = .ok (.aload_n 0, 1) := by decide +kernel
theorem dX2_init_17 : decode cX2_init 17 = .ok (.getfield 11, 3) := by decide +kernel
theorem dX2_init_20 : decode cX2_init 20 = .ok (.arraylength, 1) := by decide +kernel
theorem dX2_init_21 : decode cX2_init 21 = .ok (.if_icmp .ge 22, 3) := by decide +kernel
theorem dX2_init_24 : decode cX2_init 24 = .ok (.aload_n 0, 1) := by decide +kernel
theorem dX2_init_25 : decode cX2_init 25 = .ok (.getfield 11, 3) := by decide +kernel
theorem dX2_init_28 : decode cX2_init 28 = .ok (.iload_n 1, 1) := by decide +kernel
theorem dX2_init_29 : decode cX2_init 29 = .ok (.new 9, 3) := by decide +kernel
theorem dX2_init_32 : decode cX2_init 32 = .ok (.dup, 1) := by decide +kernel
theorem dX2_init_33 : decode cX2_init 33 = .ok (.invokespecial 17, 3) := by decide +kernel
theorem dX2_init_36 : decode cX2_init 36 = .ok (.aastore, 1) := by decide +kernel
theorem dX2_init_37 : decode cX2_init 37 = .ok (.iinc 1 1, 3) := by decide +kernel
theorem dX2_init_40 : decode cX2_init 40 = .ok (.goto (-25), 3) := by decide +kernel
theorem dX2_init_43 : decode cX2_init 43 = .ok (.return_, 1) := by decide +kernel
theorem dX2_clear_0 : decode cX2_clear 0 = .ok (.aload_n 0, 1) := by decide +kernel
theorem dX2_clear_1 : decode cX2_clear 1 = .ok (.iconst 0, 1) := by decide +kernel
theorem dX2_clear_2 : decode cX2_clear 2 = .ok (.putfield 18, 3) := by decide +kernel
theorem dX2_clear_5 : decode cX2_clear 5 = .ok (.return_, 1) := by decide +kernel
theorem dX2_at_0 : decode cX2_at 0 = .ok (.iload_n 1, 1) := by decide +kernel
theorem dX2_at_1 : decode cX2_at 1 = .ok (.ifCond .lt 29, 3) := by decide +kernel
theorem dX2_at_4 : decode cX2_at 4 = .ok (.iload_n 1, 1) := by decide +kernel
theorem dX2_at_5 : decode cX2_at 5 = .ok (.aload_n 0, 1) := by decide +kernel
theorem dX2_at_6 : decode cX2_at 6 = .ok (.getfield 18, 3) := by decide +kernel
theorem dX2_at_9 : decode cX2_at 9 = .ok (.if_icmp .ge 21, 3) := by decide +kernel
theorem dX2_at_12 : decode cX2_at 12 = .ok (.iload_n 1, 1) := by decide +kernel
theorem dX2_at_13 : decode cX2_at 13 = .ok (.aload_n 0, 1) := by decide +kernel
theorem dX2_at_14 : decode cX2_at 14 = .ok (.getfield 11, 3) := by decide +kernel
theorem dX2_at_17 : decode cX2_at 17 = .ok (.arraylength, 1) := by decide +kernel
theorem dX2_at_18 : decode cX2_at 18 = .ok (.if_icmp .ge 12, 3) := by decide +kernel
theorem dX2_at_21 : decode cX2_at 21 = .ok (.aload_n 0, 1) := by decide +kernel
theorem dX2_at_22 : decode cX2_at 22 = .ok (.getfield 11, 3) := by decide +kernel
theorem dX2_at_25 : decode cX2_at 25 = .ok (.iload_n 1, 1) := by decide +kernel
theorem dX2_at_26 : decode cX2_at 26 = .ok (.aaload, 1) := by decide +kernel
theorem dX2_at_27 : decode cX2_at 27 = .ok (.goto 4, 3) := by decide +kernel
theorem dX2_at_30 : decode cX2_at 30 = .ok (.aconst_null, 1) := by decide +kernel
theorem dX2_at_31 : decode cX2_at 31 = .ok (.areturn, 1) := by decide +kernel
theorem dX2_placeOf_0 : decode cX2_placeOf 0 = .ok (.iconst 0, 1) := by decide +kernel
theorem dX2_placeOf_1 : decode cX2_placeOf 1 = .ok (.istore_n 2, 1) := by decide +kernel
theorem dX2_placeOf_2 : decode cX2_placeOf 2 = .ok (.iload_n 2, 1) := by decide +kernel
theorem dX2_placeOf_3 : decode cX2_placeOf 3 = .ok (.aload_n 0, 1) := by decide +kernel
theorem dX2_placeOf_4 : decode cX2_placeOf 4 = .ok (.getfield 18, 3) := by decide +kernel
theorem dX2_placeOf_7 : decode cX2_placeOf 7 = .ok (.if_icmp .ge 29, 3) := by decide +kernel
theorem dX2_placeOf_10 : decode cX2_placeOf 10 = .ok (.aload_n 0, 1) := by decide +kernel
theorem dX2_placeOf_11 : decode cX2_placeOf 11 = .ok (.iload_n 2, 1) := by decide +kernel
theorem dX2_placeOf_12 : decode cX2_placeOf 12 = .ok (.invokevirtual 22, 3) := by decide +kernel
theorem dX2_placeOf_15 : decode cX2_placeOf 15 = .ok (.astore_n 3, 1) := by decide +kernel
theorem dX2_placeOf_16 : decode cX2_placeOf 16 = .ok (.aload_n 3, 1) := by decide +kernel
theorem dX2_placeOf_17 : decode cX2_placeOf 17 = .ok (.ifnull 13, 3) := by decide +kernel
theorem dX2_placeOf_20 : decode cX2_placeOf 20 = .ok (.aload_n 3, 1) := by decide +kernel
theorem dX2_placeOf_21 : decode cX2_placeOf 21 = .ok (.getfield 26, 3) := by decide +kernel
theorem dX2_placeOf_24 : decode cX2_placeOf 24 = .ok (.aload_n 1, 1) := by decide +kernel
theorem dX2_placeOf_25 : decode cX2_placeOf 25 = .ok (.if_acmp .ne 5, 3) := by decide +kernel
theorem dX2_placeOf_28 : decode cX2_placeOf 28 = .ok (.iload_n 2, 1) := by decide +kernel
theorem dX2_placeOf_29 : decode cX2_placeOf 29 = .ok (.ireturn, 1) := by decide +kernel
theorem dX2_placeOf_30 : decode cX2_placeOf 30 = .ok (.iinc 2 1, 3) := by decide +kernel
theorem dX2_placeOf_33 : decode cX2_placeOf 33 = .ok (.goto (-31), 3) := by decide +kernel
theorem dX2_placeOf_36 : decode cX2_placeOf 36 = .ok (.iconst (-1), 1) := by decide +kernel
theorem dX2_placeOf_37 : decode cX2_placeOf 37 = .ok (.ireturn, 1) := by decide +kernel
theorem dX2_goingOf_0 : decode cX2_goingOf 0 = .ok (.aload_n 0, 1) := by decide +kernel
theorem dX2_goingOf_1 : decode cX2_goingOf 1 = .ok (.aload_n 0, 1) := by decide +kernel
theorem dX2_goingOf_2 : decode cX2_goingOf 2 = .ok (.aload_n 1, 1) := by decide +kernel
theorem dX2_goingOf_3 : decode cX2_goingOf 3 = .ok (.invokevirtual 30, 3) := by decide +kernel
theorem dX2_goingOf_6 : decode cX2_goingOf 6 = .ok (.invokevirtual 22, 3) := by decide +kernel
theorem dX2_goingOf_9 : decode cX2_goingOf 9 = .ok (.areturn, 1) := by decide +kernel
theorem dX2_begin_0 : decode cX2_begin 0 = .ok (.aload_n 0, 1) := by decide +kernel
theorem dX2_begin_1 : decode cX2_begin 1 = .ok (.aload_n 1, 1) := by decide +kernel
theorem dX2_begin_2 : decode cX2_begin 2 = .ok (.invokevirtual 30, 3) := by decide +kernel
theorem dX2_begin_5 : decode cX2_begin 5 = .ok (.istore_n 3, 1) := by decide +kernel
theorem dX2_begin_6 : decode cX2_begin 6 = .ok (.iload_n 3, 1) := by decide +kernel
theorem dX2_begin_7 : decode cX2_begin 7 = .ok (.iconst (-1), 1) := by decide +kernel
theorem dX2_begin_8 : decode cX2_begin 8 = .ok (.if_icmp .ne 30, 3) := by decide +kernel
theorem dX2_begin_11 : decode cX2_begin 11 = .ok (.aload_n 0, 1) := by decide +kernel
theorem dX2_begin_12 : decode cX2_begin 12 = .ok (.getfield 18, 3) := by decide +kernel
theorem dX2_begin_15 : decode cX2_begin 15 = .ok (.aload_n 0, 1) := by decide +kernel
theorem dX2_begin_16 : decode cX2_begin 16 = .ok (.getfield 11, 3) := by decide +kernel
theorem dX2_begin_19 : decode cX2_begin 19 = .ok (.arraylength, 1) := by decide +kernel
theorem dX2_begin_20 : decode cX2_begin 20 = .ok (.if_icmp .ge 18, 3) := by decide +kernel
theorem dX2_begin_23 : decode cX2_begin 23 = .ok (.aload_n 0, 1) := by decide +kernel
theorem dX2_begin_24 : decode cX2_begin 24 = .ok (.getfield 18, 3) := by decide +kernel
theorem dX2_begin_27 : decode cX2_begin 27 = .ok (.istore_n 3, 1) := by decide +kernel
theorem dX2_begin_28 : decode cX2_begin 28 = .ok (.aload_n 0, 1) := by decide +kernel
theorem dX2_begin_29 : decode cX2_begin 29 = .ok (.dup, 1) := by decide +kernel
theorem dX2_begin_30 : decode cX2_begin 30 = .ok (.getfield 18, 3) := by decide +kernel
theorem dX2_begin_33 : decode cX2_begin 33 = .ok (.iconst 1, 1) := by decide +kernel
theorem dX2_begin_34 : decode cX2_begin 34 = .ok (.iadd, 1) := by decide +kernel
theorem dX2_begin_35 : decode cX2_begin 35 = .ok (.putfield 18, 3) := by decide +kernel
theorem dX2_begin_38 : decode cX2_begin 38 = .ok (.aload_n 0, 1) := by decide +kernel
theorem dX2_begin_39 : decode cX2_begin 39 = .ok (.iload_n 3, 1) := by decide +kernel
theorem dX2_begin_40 : decode cX2_begin 40 = .ok (.invokevirtual 34, 3) := by decide +kernel
theorem dX2_begin_43 : decode cX2_begin 43 = .ok (.aload_n 0, 1) := by decide +kernel
theorem dX2_begin_44 : decode cX2_begin 44 = .ok (.aload_n 0, 1) := by decide +kernel
theorem dX2_begin_45 : decode cX2_begin 45 = .ok (.getfield 18, 3) := by decide +kernel
theorem dX2_begin_48 : decode cX2_begin 48 = .ok (.iconst 1, 1) := by decide +kernel
theorem dX2_begin_49 : decode cX2_begin 49 = .ok (.isub, 1) := by decide +kernel
theorem dX2_begin_50 : decode cX2_begin 50 = .ok (.invokevirtual 22, 3) := by decide +kernel
theorem dX2_begin_53 : decode cX2_begin 53 = .ok (.astore 4, 2) := by decide +kernel
theorem dX2_begin_55 : decode cX2_begin 55 = .ok (.aload 4, 2) := by decide +kernel
theorem dX2_begin_57 : decode cX2_begin 57 = .ok (.ifnull 10, 3) := by decide +kernel
theorem dX2_begin_60 : decode cX2_begin 60 = .ok (.aload 4, 2) := by decide +kernel
theorem dX2_begin_62 : decode cX2_begin 62 = .ok (.aload_n 1, 1) := by decide +kernel
theorem dX2_begin_63 : decode cX2_begin 63 = .ok (.iload_n 2, 1) := by decide +kernel
theorem dX2_begin_64 : decode cX2_begin 64 = .ok (.invokevirtual 38, 3) := by decide +kernel
theorem dX2_begin_67 : decode cX2_begin 67 = .ok (.return_, 1) := by decide +kernel
theorem dX2_fall_0 : decode cX2_fall 0 = .ok (.aload_n 0, 1) := by decide +kernel
theorem dX2_fall_1 : decode cX2_fall 1 = .ok (.aload_n 1, 1) := by decide +kernel
theorem dX2_fall_2 : decode cX2_fall 2 = .ok (.invokevirtual 42, 3) := by decide +kernel
theorem dX2_fall_5 : decode cX2_fall 5 = .ok (.astore_n 3, 1) := by decide +kernel
theorem dX2_fall_6 : decode cX2_fall 6 = .ok (.aload_n 3, 1) := by decide +kernel
theorem dX2_fall_7 : decode cX2_fall 7 = .ok (.ifnull 8, 3) := by decide +kernel
theorem dX2_fall_10 : decode cX2_fall 10 = .ok (.aload_n 3, 1) := by decide +kernel
theorem dX2_fall_11 : decode cX2_fall 11 = .ok (.iload_n 2, 1) := by decide +kernel
theorem dX2_fall_12 : decode cX2_fall 12 = .ok (.invokevirtual 46, 3) := by decide +kernel
theorem dX2_fall_15 : decode cX2_fall 15 = .ok (.return_, 1) := by decide +kernel
theorem dX2_dropOver_0 : decode cX2_dropOver 0 = .ok (.aload_n 0, 1) := by decide +kernel
theorem dX2_dropOver_1 : decode cX2_dropOver 1 = .ok (.getfield 18, 3) := by decide +kernel
theorem dX2_dropOver_4 : decode cX2_dropOver 4 = .ok (.iconst 1, 1) := by decide +kernel
theorem dX2_dropOver_5 : decode cX2_dropOver 5 = .ok (.isub, 1) := by decide +kernel
theorem dX2_dropOver_6 : decode cX2_dropOver 6 = .ok (.istore_n 2, 1) := by decide +kernel
theorem dX2_dropOver_7 : decode cX2_dropOver 7 = .ok (.iload_n 2, 1) := by decide +kernel
theorem dX2_dropOver_8 : decode cX2_dropOver 8 = .ok (.ifCond .lt 42, 3) := by decide +kernel
theorem dX2_dropOver_11 : decode cX2_dropOver 11 = .ok (.aload_n 0, 1) := by decide +kernel
theorem dX2_dropOver_12 : decode cX2_dropOver 12 = .ok (.iload_n 2, 1) := by decide +kernel
theorem dX2_dropOver_13 : decode cX2_dropOver 13 = .ok (.invokevirtual 22, 3) := by decide +kernel
theorem dX2_dropOver_16 : decode cX2_dropOver 16 = .ok (.astore_n 3, 1) := by decide +kernel
theorem dX2_dropOver_17 : decode cX2_dropOver 17 = .ok (.aload_n 3, 1) := by decide +kernel
theorem dX2_dropOver_18 : decode cX2_dropOver 18 = .ok (.ifnull 26, 3) := by decide +kernel
theorem dX2_dropOver_21 : decode cX2_dropOver 21 = .ok (.aload_n 3, 1) := by decide +kernel
theorem dX2_dropOver_22 : decode cX2_dropOver 22 = .ok (.iload_n 1, 1) := by decide +kernel
theorem dX2_dropOver_23 : decode cX2_dropOver 23 = .ok (.invokevirtual 49, 3) := by decide +kernel
theorem dX2_dropOver_26 : decode cX2_dropOver 26 = .ok (.ifCond .eq 18, 3) := by decide +kernel
theorem dX2_dropOver_29 : decode cX2_dropOver 29 = .ok (.aload_n 0, 1) := by decide +kernel
theorem dX2_dropOver_30 : decode cX2_dropOver 30 = .ok (.iload_n 2, 1) := by decide +kernel
theorem dX2_dropOver_31 : decode cX2_dropOver 31 = .ok (.invokevirtual 34, 3) := by decide +kernel
theorem dX2_dropOver_34 : decode cX2_dropOver 34 = .ok (.aload_n 0, 1) := by decide +kernel
theorem dX2_dropOver_35 : decode cX2_dropOver 35 = .ok (.dup, 1) := by decide +kernel
theorem dX2_dropOver_36 : decode cX2_dropOver 36 = .ok (.getfield 18, 3) := by decide +kernel
theorem dX2_dropOver_39 : decode cX2_dropOver 39 = .ok (.iconst 1, 1) := by decide +kernel
theorem dX2_dropOver_40 : decode cX2_dropOver 40 = .ok (.isub, 1) := by decide +kernel
theorem dX2_dropOver_41 : decode cX2_dropOver 41 = .ok (.putfield 18, 3) := by decide +kernel
theorem dX2_dropOver_44 : decode cX2_dropOver 44 = .ok (.iinc 2 (-1), 3) := by decide +kernel
theorem dX2_dropOver_47 : decode cX2_dropOver 47 = .ok (.goto (-40), 3) := by decide +kernel
theorem dX2_dropOver_50 : decode cX2_dropOver 50 = .ok (.return_, 1) := by decide +kernel
theorem dX2_moveLast_0 : decode cX2_moveLast 0 = .ok (.aload_n 0, 1) := by decide +kernel
theorem dX2_moveLast_1 : decode cX2_moveLast 1 = .ok (.iload_n 1, 1) := by decide +kernel
theorem dX2_moveLast_2 : decode cX2_moveLast 2 = .ok (.invokevirtual 22, 3) := by decide +kernel
theorem dX2_moveLast_5 : decode cX2_moveLast 5 = .ok (.astore_n 2, 1) := by decide +kernel
theorem dX2_moveLast_6 : decode cX2_moveLast 6 = .ok (.aload_n 2, 1) := by decide +kernel
theorem dX2_moveLast_7 : decode cX2_moveLast 7 = .ok (.ifnonnull 4, 3) := by decide +kernel
theorem dX2_moveLast_10 : decode cX2_moveLast 10 = .ok (.return_, 1) := by decide +kernel
theorem dX2_moveLast_11 : decode cX2_moveLast 11 = .ok (.iload_n 1, 1) := by decide +kernel
theorem dX2_moveLast_12 : decode cX2_moveLast 12 = .ok (.istore_n 3, 1) := by decide +kernel
theorem dX2_moveLast_13 : decode cX2_moveLast 13 = .ok (.iload_n 3, 1) := by decide +kernel
theorem dX2_moveLast_14 : decode cX2_moveLast 14 = .ok (.iconst 1, 1) := by decide +kernel
theorem dX2_moveLast_15 : decode cX2_moveLast 15 = .ok (.iadd, 1) := by decide +kernel
theorem dX2_moveLast_16 : decode cX2_moveLast 16 = .ok (.aload_n 0, 1) := by decide +kernel
theorem dX2_moveLast_17 : decode cX2_moveLast 17 = .ok (.getfield 18, 3) := by decide +kernel
theorem dX2_moveLast_20 : decode cX2_moveLast 20 = .ok (.if_icmp .ge 34, 3) := by decide +kernel
theorem dX2_moveLast_23 : decode cX2_moveLast 23 = .ok (.iload_n 3, 1) := by decide +kernel
theorem dX2_moveLast_24 : decode cX2_moveLast 24 = .ok (.iconst 1, 1) := by decide +kernel
theorem dX2_moveLast_25 : decode cX2_moveLast 25 = .ok (.iadd, 1) := by decide +kernel
theorem dX2_moveLast_26 : decode cX2_moveLast 26 = .ok (.aload_n 0, 1) := by decide +kernel
theorem dX2_moveLast_27 : decode cX2_moveLast 27 = .ok (.getfield 11, 3) := by decide +kernel
theorem dX2_moveLast_30 : decode cX2_moveLast 30 = .ok (.arraylength, 1) := by decide +kernel
theorem dX2_moveLast_31 : decode cX2_moveLast 31 = .ok (.if_icmp .ge 23, 3) := by decide +kernel
theorem dX2_moveLast_34 : decode cX2_moveLast 34 = .ok (.aload_n 0, 1) := by decide +kernel
theorem dX2_moveLast_35 : decode cX2_moveLast 35 = .ok (.getfield 11, 3) := by decide +kernel
theorem dX2_moveLast_38 : decode cX2_moveLast 38 = .ok (.iload_n 3, 1) := by decide +kernel
theorem dX2_moveLast_39 : decode cX2_moveLast 39 = .ok (.aload_n 0, 1) := by decide +kernel
theorem dX2_moveLast_40 : decode cX2_moveLast 40 = .ok (.getfield 11, 3) := by decide +kernel
theorem dX2_moveLast_43 : decode cX2_moveLast 43 = .ok (.iload_n 3, 1) := by decide +kernel
theorem dX2_moveLast_44 : decode cX2_moveLast 44 = .ok (.iconst 1, 1) := by decide +kernel
theorem dX2_moveLast_45 : decode cX2_moveLast 45 = .ok (.iadd, 1) := by decide +kernel
theorem dX2_moveLast_46 : decode cX2_moveLast 46 = .ok (.aaload, 1) := by decide +kernel
theorem dX2_moveLast_47 : decode cX2_moveLast 47 = .ok (.aastore, 1) := by decide +kernel
theorem dX2_moveLast_48 : decode cX2_moveLast 48 = .ok (.iinc 3 1, 3) := by decide +kernel
theorem dX2_moveLast_51 : decode cX2_moveLast 51 = .ok (.goto (-38), 3) := by decide +kernel
theorem dX2_moveLast_54 : decode cX2_moveLast 54 = .ok (.aload_n 0, 1) := by decide +kernel
theorem dX2_moveLast_55 : decode cX2_moveLast 55 = .ok (.getfield 11, 3) := by decide +kernel
theorem dX2_moveLast_58 : decode cX2_moveLast 58 = .ok (.iload_n 3, 1) := by decide +kernel
theorem dX2_moveLast_59 : decode cX2_moveLast 59 = .ok (.aload_n 2, 1) := by decide +kernel
theorem dX2_moveLast_60 : decode cX2_moveLast 60 = .ok (.aastore, 1) := by decide +kernel
theorem dX2_moveLast_61 : decode cX2_moveLast 61 = .ok (.return_, 1) := by decide +kernel
theorem dX2_greatestUnreleased_0 : decode cX2_greatestUnreleased 0 = .ok (.iconst 0, 1) := by decide +kernel
theorem dX2_greatestUnreleased_1 : decode cX2_greatestUnreleased 1 = .ok (.istore_n 2, 1) := by decide +kernel
theorem dX2_greatestUnreleased_2 : decode cX2_greatestUnreleased 2 = .ok (.iconst 0, 1) := by decide +kernel
theorem dX2_greatestUnreleased_3 : decode cX2_greatestUnreleased 3 = .ok (.istore_n 3, 1) := by decide +kernel
theorem dX2_greatestUnreleased_4 : decode cX2_greatestUnreleased 4 = .ok (.iload_n 3, 1) := by decide +kernel
theorem dX2_greatestUnreleased_5 : decode cX2_greatestUnreleased 5 = .ok (.aload_n 0, 1) := by decide +kernel
theorem dX2_greatestUnreleased_6 : decode cX2_greatestUnreleased 6 = .ok (.getfield 18, 3) := by decide +kernel
theorem dX2_greatestUnreleased_9 : decode cX2_greatestUnreleased 9 = .ok (.if_icmp .ge 40, 3) := by decide +kernel
theorem dX2_greatestUnreleased_12 : decode cX2_greatestUnreleased 12 = .ok (.aload_n 0, 1) := by decide +kernel
theorem dX2_greatestUnreleased_13 : decode cX2_greatestUnreleased 13 = .ok (.iload_n 3, 1) := by decide +kernel
theorem dX2_greatestUnreleased_14 : decode cX2_greatestUnreleased 14 = .ok (.invokevirtual 22, 3) := by decide +kernel
theorem dX2_greatestUnreleased_17 : decode cX2_greatestUnreleased 17 = .ok (.astore 4, 2) := by decide +kernel
theorem dX2_greatestUnreleased_19 : decode cX2_greatestUnreleased 19 = .ok (.aload 4, 2) := by decide +kernel
theorem dX2_greatestUnreleased_21 : decode cX2_greatestUnreleased 21 = .ok (.ifnull 22, 3) := by decide +kernel
theorem dX2_greatestUnreleased_24 : decode cX2_greatestUnreleased 24 = .ok (.aload 4, 2) := by decide +kernel
theorem dX2_greatestUnreleased_26 : decode cX2_greatestUnreleased 26 = .ok (.invokevirtual 53, 3) := by decide +kernel
theorem dX2_greatestUnreleased_29 : decode cX2_greatestUnreleased 29 = .ok (.ifCond .ne 14, 3) := by decide +kernel
theorem dX2_greatestUnreleased_32 : decode cX2_greatestUnreleased 32 = .ok (.iload_n 2, 1) := by decide +kernel
theorem dX2_greatestUnreleased_33 : decode cX2_greatestUnreleased 33 = .ok (.aload 4, 2) := by decide +kernel
theorem dX2_greatestUnreleased_35 : decode cX2_greatestUnreleased 35 = .ok (.iload_n 1, 1) := by decide +kernel
theorem dX2_greatestUnreleased_36 : decode cX2_greatestUnreleased 36 = .ok (.invokevirtual 57, 3) := by decide +kernel
theorem dX2_greatestUnreleased_39 : decode cX2_greatestUnreleased 39 = .ok (.invokestatic 61, 3) := by decide +kernel
theorem dX2_greatestUnreleased_42 : decode cX2_greatestUnreleased 42 = .ok (.istore_n 2, 1) := by decide +kernel
theorem dX2_greatestUnreleased_43 : decode cX2_greatestUnreleased 43 = .ok (.iinc 3 1, 3) := by decide +kernel
theorem dX2_greatestUnreleased_46 : decode cX2_greatestUnreleased 46 = .ok (.goto (-42), 3) := by decide +kernel
theorem dX2_greatestUnreleased_49 : decode cX2_greatestUnreleased 49 = .ok (.iload_n 2, 1) := by decide +kernel
theorem dX2_greatestUnreleased_50 : decode cX2_greatestUnreleased 50 = .ok (.ireturn, 1) := by decide +kernel
theorem dX2_mix_0 : decode cX2_mix 0 = .ok (.fconst 0, 1) := by decide +kernel
theorem dX2_mix_1 : decode cX2_mix 1 = .ok (.fstore_n 3, 1) := by decide +kernel
theorem dX2_mix_2 : decode cX2_mix 2 = .ok (.iconst 0, 1) := by decide +kernel
theorem dX2_mix_3 : decode cX2_mix 3 = .ok (.istore 4, 2) := by decide +kernel
theorem dX2_mix_5 : decode cX2_mix 5 = .ok (.iload 4, 2) := by decide +kernel
theorem dX2_mix_7 : decode cX2_mix 7 = .ok (.aload_n 0, 1) := by decide +kernel
theorem dX2_mix_8 : decode cX2_mix 8 = .ok (.getfield 18, 3) := by decide +kernel
theorem dX2_mix_11 : decode cX2_mix 11 = .ok (.if_icmp .ge 70, 3) := by decide +kernel
theorem dX2_mix_14 : decode cX2_mix 14 = .ok (.aload_n 0, 1) := by decide +kernel
theorem dX2_mix_15 : decode cX2_mix 15 = .ok (.iload 4, 2) := by decide +kernel
theorem dX2_mix_17 : decode cX2_mix 17 = .ok (.invokevirtual 22, 3) := by decide +kernel
theorem dX2_mix_20 : decode cX2_mix 20 = .ok (.astore 5, 2) := by decide +kernel
theorem dX2_mix_22 : decode cX2_mix 22 = .ok (.aload 5, 2) := by decide +kernel
theorem dX2_mix_24 : decode cX2_mix 24 = .ok (.ifnull 51, 3) := by decide +kernel
theorem dX2_mix_27 : decode cX2_mix 27 = .ok (.aload 5, 2) := by decide +kernel
theorem dX2_mix_29 : decode cX2_mix 29 = .ok (.iconst 0, 1) := by decide +kernel
theorem dX2_mix_30 : decode cX2_mix 30 = .ok (.invokevirtual 67, 3) := by decide +kernel
theorem dX2_mix_33 : decode cX2_mix 33 = .ok (.ifCond .eq 42, 3) := by decide +kernel
theorem dX2_mix_36 : decode cX2_mix 36 = .ok (.aload 5, 2) := by decide +kernel
theorem dX2_mix_38 : decode cX2_mix 38 = .ok (.iload_n 1, 1) := by decide +kernel
theorem dX2_mix_39 : decode cX2_mix 39 = .ok (.invokevirtual 57, 3) := by decide +kernel
theorem dX2_mix_42 : decode cX2_mix 42 = .ok (.ifCond .le 33, 3) := by decide +kernel
theorem dX2_mix_45 : decode cX2_mix 45 = .ok (.aload 5, 2) := by decide +kernel
theorem dX2_mix_47 : decode cX2_mix 47 = .ok (.iload_n 2, 1) := by decide +kernel
theorem dX2_mix_48 : decode cX2_mix 48 = .ok (.invokevirtual 70, 3) := by decide +kernel
theorem dX2_mix_51 : decode cX2_mix 51 = .ok (.aload 5, 2) := by decide +kernel
theorem dX2_mix_53 : decode cX2_mix 53 = .ok (.iload_n 1, 1) := by decide +kernel
theorem dX2_mix_54 : decode cX2_mix 54 = .ok (.invokevirtual 57, 3) := by decide +kernel
theorem dX2_mix_57 : decode cX2_mix 57 = .ok (.i2f, 1) := by decide +kernel
theorem dX2_mix_58 : decode cX2_mix 58 = .ok (.fmul, 1) := by decide +kernel
theorem dX2_mix_59 : decode cX2_mix 59 = .ok (.fstore 6, 2) := by decide +kernel
theorem dX2_mix_61 : decode cX2_mix 61 = .ok (.fload 6, 2) := by decide +kernel
theorem dX2_mix_63 : decode cX2_mix 63 = .ok (.fload_n 3, 1) := by decide +kernel
theorem dX2_mix_64 : decode cX2_mix 64 = .ok (.fcmp .l, 1) := by decide +kernel
theorem dX2_mix_65 : decode cX2_mix 65 = .ok (.ifCond .le 8, 3) := by decide +kernel
theorem dX2_mix_68 : decode cX2_mix 68 = .ok (.fload 6, 2) := by decide +kernel
theorem dX2_mix_70 : decode cX2_mix 70 = .ok (.goto 4, 3) := by decide +kernel
theorem dX2_mix_73 : decode cX2_mix 73 = .ok (.fload_n 3, 1) := by decide +kernel
theorem dX2_mix_74 : decode cX2_mix 74 = .ok (.fstore_n 3, 1) := by decide +kernel
theorem dX2_mix_75 : decode cX2_mix 75 = .ok (.iinc 4 1, 3) := by decide +kernel
theorem dX2_mix_78 : decode cX2_mix 78 = .ok (.goto (-73), 3) := by decide +kernel
theorem dX2_mix_81 : decode cX2_mix 81 = .ok (.iconst 0, 1) := by decide +kernel
theorem dX2_mix_82 : decode cX2_mix 82 = .ok (.istore 4, 2) := by decide +kernel
theorem dX2_mix_84 : decode cX2_mix 84 = .ok (.iload 4, 2) := by decide +kernel
theorem dX2_mix_86 : decode cX2_mix 86 = .ok (.aload_n 0, 1) := by decide +kernel
theorem dX2_mix_87 : decode cX2_mix 87 = .ok (.getfield 18, 3) := by decide +kernel
theorem dX2_mix_90 : decode cX2_mix 90 = .ok (.if_icmp .ge 59, 3) := by decide +kernel
theorem dX2_mix_93 : decode cX2_mix 93 = .ok (.aload_n 0, 1) := by decide +kernel
theorem dX2_mix_94 : decode cX2_mix 94 = .ok (.iload 4, 2) := by decide +kernel
theorem dX2_mix_96 : decode cX2_mix 96 = .ok (.invokevirtual 22, 3) := by decide +kernel
theorem dX2_mix_99 : decode cX2_mix 99 = .ok (.astore 5, 2) := by decide +kernel
theorem dX2_mix_101 : decode cX2_mix 101 = .ok (.aload 5, 2) := by decide +kernel
theorem dX2_mix_103 : decode cX2_mix 103 = .ok (.ifnull 40, 3) := by decide +kernel
theorem dX2_mix_106 : decode cX2_mix 106 = .ok (.aload 5, 2) := by decide +kernel
theorem dX2_mix_108 : decode cX2_mix 108 = .ok (.iconst 1, 1) := by decide +kernel
theorem dX2_mix_109 : decode cX2_mix 109 = .ok (.invokevirtual 67, 3) := by decide +kernel
theorem dX2_mix_112 : decode cX2_mix 112 = .ok (.ifCond .eq 31, 3) := by decide +kernel
theorem dX2_mix_115 : decode cX2_mix 115 = .ok (.aload 5, 2) := by decide +kernel
theorem dX2_mix_117 : decode cX2_mix 117 = .ok (.iload_n 1, 1) := by decide +kernel
theorem dX2_mix_118 : decode cX2_mix 118 = .ok (.invokevirtual 57, 3) := by decide +kernel
theorem dX2_mix_121 : decode cX2_mix 121 = .ok (.ifCond .le 22, 3) := by decide +kernel
theorem dX2_mix_124 : decode cX2_mix 124 = .ok (.fload_n 3, 1) := by decide +kernel
theorem dX2_mix_125 : decode cX2_mix 125 = .ok (.aload 5, 2) := by decide +kernel
theorem dX2_mix_127 : decode cX2_mix 127 = .ok (.iload_n 2, 1) := by decide +kernel
theorem dX2_mix_128 : decode cX2_mix 128 = .ok (.invokevirtual 70, 3) := by decide +kernel
theorem dX2_mix_131 : decode cX2_mix 131 = .ok (.aload 5, 2) := by decide +kernel
theorem dX2_mix_133 : decode cX2_mix 133 = .ok (.iload_n 1, 1) := by decide +kernel
theorem dX2_mix_134 : decode cX2_mix 134 = .ok (.invokevirtual 57, 3) := by decide +kernel
theorem dX2_mix_137 : decode cX2_mix 137 = .ok (.i2f, 1) := by decide +kernel
theorem dX2_mix_138 : decode cX2_mix 138 = .ok (.fload_n 3, 1) := by decide +kernel
theorem dX2_mix_139 : decode cX2_mix 139 = .ok (.fsub, 1) := by decide +kernel
theorem dX2_mix_140 : decode cX2_mix 140 = .ok (.fmul, 1) := by decide +kernel
theorem dX2_mix_141 : decode cX2_mix 141 = .ok (.fadd, 1) := by decide +kernel
theorem dX2_mix_142 : decode cX2_mix 142 = .ok (.fstore_n 3, 1) := by decide +kernel
theorem dX2_mix_143 : decode cX2_mix 143 = .ok (.iinc 4 1, 3) := by decide +kernel
theorem dX2_mix_146 : decode cX2_mix 146 = .ok (.goto (-62), 3) := by decide +kernel
theorem dX2_mix_149 : decode cX2_mix 149 = .ok (.fload_n 3, 1) := by decide +kernel
theorem dX2_mix_150 : decode cX2_mix 150 = .ok (.freturn, 1) := by decide +kernel
theorem dX3_init_0 : decode cX3_init 0 = .ok (.aload_n 0, 1) := by decide +kernel
theorem dX3_init_1 : decode cX3_init 1 = .ok (.invokespecial 3, 3) := by decide +kernel
theorem dX3_init_4 : decode cX3_init 4 = .ok (.aload_n 0, 1) := by decide +kernel
theorem dX3_init_5 : decode cX3_init 5 = .ok (.bipush 64, 2) := by decide +kernel
theorem dX3_init_7 : decode cX3_init 7 = .ok (.newarray .int, 2) := by decide +kernel
theorem dX3_init_9 : decode cX3_init 9 = .ok (.putfield 9, 3) := by decide +kernel
theorem dX3_init_12 : decode cX3_init 12 = .ok (.return_, 1) := by decide +kernel
theorem dX3_entryFor_0 : decode cX3_entryFor 0 = .ok (.iload_n 0, 1) := by decide +kernel
theorem dX3_entryFor_1 : decode cX3_entryFor 1 = .ok (.iconst 5, 1) := by decide +kernel
theorem dX3_entryFor_2 : decode cX3_entryFor 2 = .ok (.ishl, 1) := by decide +kernel
theorem dX3_entryFor_3 : decode cX3_entryFor 3 = .ok (.iload_n 1, 1) := by decide +kernel
theorem dX3_entryFor_4 : decode cX3_entryFor 4 = .ok (.iconst 1, 1) := by decide +kernel
theorem dX3_entryFor_5 : decode cX3_entryFor 5 = .ok (.ishl, 1) := by decide +kernel
theorem dX3_entryFor_6 : decode cX3_entryFor 6 = .ok (.ior, 1) := by decide +kernel
theorem dX3_entryFor_7 : decode cX3_entryFor 7 = .ok (.iload_n 2, 1) := by decide +kernel
theorem dX3_entryFor_8 : decode cX3_entryFor 8 = .ok (.ior, 1) := by decide +kernel
theorem dX3_entryFor_9 : decode cX3_entryFor 9 = .ok (.ireturn, 1) := by decide +kernel
theorem dX3_tickOf_0 : decode cX3_tickOf 0 = .ok (.iload_n 0, 1) := by decide +kernel
theorem dX3_tickOf_1 : decode cX3_tickOf 1 = .ok (.iconst 5, 1) := by decide +kernel
theorem dX3_tickOf_2 : decode cX3_tickOf 2 = .ok (.ishr, 1) := by decide +kernel
theorem dX3_tickOf_3 : decode cX3_tickOf 3 = .ok (.ireturn, 1) := by decide +kernel
theorem dX3_cueOf_0 : decode cX3_cueOf 0 = .ok (.iload_n 0, 1) := by decide +kernel
theorem dX3_cueOf_1 : decode cX3_cueOf 1 = .ok (.iconst 1, 1) := by decide +kernel
theorem dX3_cueOf_2 : decode cX3_cueOf 2 = .ok (.ishr, 1) := by decide +kernel
theorem dX3_cueOf_3 : decode cX3_cueOf 3 = .ok (.bipush 15, 2) := by decide +kernel
theorem dX3_cueOf_5 : decode cX3_cueOf 5 = .ok (.iand, 1) := by decide +kernel
theorem dX3_cueOf_6 : decode cX3_cueOf 6 = .ok (.ireturn, 1) := by decide +kernel
theorem dX3_isRelease_0 : decode cX3_isRelease 0 = .ok (.iload_n 0, 1) := by decide +kernel
theorem dX3_isRelease_1 : decode cX3_isRelease 1 = .ok (.iconst 1, 1) := by decide +kernel
theorem dX3_isRelease_2 : decode cX3_isRelease 2 = .ok (.iand, 1) := by decide +kernel
theorem dX3_isRelease_3 : decode cX3_isRelease 3 = .ok (.ifCond .eq 7, 3) := by decide +kernel
theorem dX3_isRelease_6 : decode cX3_isRelease 6 = .ok (.iconst 1, 1) := by decide +kernel
theorem dX3_isRelease_7 : decode cX3_isRelease 7 = .ok (.goto 4, 3) := by decide +kernel
theorem dX3_isRelease_10 : decode cX3_isRelease 10 = .ok (.iconst 0, 1) := by decide +kernel
theorem dX3_isRelease_11 : decode cX3_isRelease 11 = .ok (.ireturn, 1) := by decide +kernel
theorem dX3_entryAt_0 : decode cX3_entryAt 0 = .ok (.iload_n 1, 1) := by decide +kernel
theorem dX3_entryAt_1 : decode cX3_entryAt 1 = .ok (.ifCond .lt 21, 3) := by decide +kernel
theorem dX3_entryAt_4 : decode cX3_entryAt 4 = .ok (.iload_n 1, 1) := by decide +kernel
theorem dX3_entryAt_5 : decode cX3_entryAt 5 = .ok (.aload_n 0, 1) := by decide +kernel
theorem dX3_entryAt_6 : decode cX3_entryAt 6 = .ok (.getfield 9, 3) := by decide +kernel
theorem dX3_entryAt_9 : decode cX3_entryAt 9 = .ok (.arraylength, 1) := by decide +kernel
theorem dX3_entryAt_10 : decode cX3_entryAt 10 = .ok (.if_icmp .ge 12, 3) := by decide +kernel
theorem dX3_entryAt_13 : decode cX3_entryAt 13 = .ok (.aload_n 0, 1) := by decide +kernel
theorem dX3_entryAt_14 : decode cX3_entryAt 14 = .ok (.getfield 9, 3) := by decide +kernel
theorem dX3_entryAt_17 : decode cX3_entryAt 17 = .ok (.iload_n 1, 1) := by decide +kernel
theorem dX3_entryAt_18 : decode cX3_entryAt 18 = .ok (.iaload, 1) := by decide +kernel
theorem dX3_entryAt_19 : decode cX3_entryAt 19 = .ok (.goto 4, 3) := by decide +kernel
theorem dX3_entryAt_22 : decode cX3_entryAt 22 = .ok (.iconst 0, 1) := by decide +kernel
theorem dX3_entryAt_23 : decode cX3_entryAt 23 = .ok (.ireturn, 1) := by decide +kernel
theorem dX3_writeGoing_0 : decode cX3_writeGoing 0 = .ok (.iload_n 1, 1) := by decide +kernel
theorem dX3_writeGoing_1 : decode cX3_writeGoing 1 = .ok (.iload_n 2, 1) := by decide +kernel
theorem dX3_writeGoing_2 : decode cX3_writeGoing 2 = .ok (.iconst 0, 1) := by decide +kernel
theorem dX3_writeGoing_3 : decode cX3_writeGoing 3 = .ok (.invokestatic 15, 3) := by decide +kernel
theorem dX3_writeGoing_6 : decode cX3_writeGoing 6 = .ok (.istore_n 3, 1) := by decide +kernel
theorem dX3_writeGoing_7 : decode cX3_writeGoing 7 = .ok (.aload_n 0, 1) := by decide +kernel
theorem dX3_writeGoing_8 : decode cX3_writeGoing 8 = .ok (.iload_n 3, 1) := by decide +kernel
theorem dX3_writeGoing_9 : decode cX3_writeGoing 9 = .ok (.invokevirtual 19, 3) := by decide +kernel
theorem dX3_writeGoing_12 : decode cX3_writeGoing 12 = .ok (.aload_n 0, 1) := by decide +kernel
theorem dX3_writeGoing_13 : decode cX3_writeGoing 13 = .ok (.iload_n 3, 1) := by decide +kernel
theorem dX3_writeGoing_14 : decode cX3_writeGoing 14 = .ok (.invokevirtual 23, 3) := by decide +kernel
theorem dX3_writeGoing_17 : decode cX3_writeGoing 17 = .ok (.return_, 1) := by decide +kernel
theorem dX3_writeRelease_0 : decode cX3_writeRelease 0 = .ok (.aload_n 0, 1) := by decide +kernel
theorem dX3_writeRelease_1 : decode cX3_writeRelease 1 = .ok (.iload_n 1, 1) := by decide +kernel
theorem dX3_writeRelease_2 : decode cX3_writeRelease 2 = .ok (.iload_n 2, 1) := by decide +kernel
theorem dX3_writeRelease_3 : decode cX3_writeRelease 3 = .ok (.iconst 1, 1) := by decide +kernel
theorem dX3_writeRelease_4 : decode cX3_writeRelease 4 = .ok (.invokestatic 15, 3) := by decide +kernel
theorem dX3_writeRelease_7 : decode cX3_writeRelease 7 = .ok (.invokevirtual 23, 3) := by decide +kernel
theorem dX3_writeRelease_10 : decode cX3_writeRelease 10 = .ok (.return_, 1) := by decide +kernel
theorem dX3_strike_0 : decode cX3_strike 0 = .ok (.aload_n 0, 1) := by decide +kernel
theorem dX3_strike_1 : decode cX3_strike 1 = .ok (.getfield 26, 3) := by decide +kernel
theorem dX3_strike_4 : decode cX3_strike 4 = .ok (.iconst 1, 1) := by decide +kernel
theorem dX3_strike_5 : decode cX3_strike 5 = .ok (.isub, 1) := by decide +kernel
theorem dX3_strike_6 : decode cX3_strike 6 = .ok (.istore_n 2, 1) := by decide +kernel
theorem dX3_strike_7 : decode cX3_strike 7 = .ok (.iload_n 2, 1) := by decide +kernel
theorem dX3_strike_8 : decode cX3_strike 8 = .ok (.ifCond .lt 39, 3) := by decide +kernel
theorem dX3_strike_11 : decode cX3_strike 11 = .ok (.aload_n 0, 1) := by decide +kernel
theorem dX3_strike_12 : decode cX3_strike 12 = .ok (.iload_n 2, 1) := by decide +kernel
theorem dX3_strike_13 : decode cX3_strike 13 = .ok (.invokevirtual 30, 3) := by decide +kernel
theorem dX3_strike_16 : decode cX3_strike 16 = .ok (.invokestatic 34, 3) := by decide +kernel
theorem dX3_strike_19 : decode cX3_strike 19 = .ok (.iload_n 1, 1) := by decide +kernel
theorem dX3_strike_20 : decode cX3_strike 20 = .ok (.invokestatic 34, 3) := by decide +kernel
theorem dX3_strike_23 : decode cX3_strike 23 = .ok (.if_icmp .ne 24, 3) := by decide +kernel
theorem dX3_strike_26 : decode cX3_strike 26 = .ok (.aload_n 0, 1) := by decide +kernel
theorem dX3_strike_27 : decode cX3_strike 27 = .ok (.iload_n 2, 1) := by decide +kernel
theorem dX3_strike_28 : decode cX3_strike 28 = .ok (.invokevirtual 30, 3) := by decide +kernel
theorem dX3_strike_31 : decode cX3_strike 31 = .ok (.iload_n 1, 1) := by decide +kernel
theorem dX3_strike_32 : decode cX3_strike 32 = .ok (.if_icmp .ne 9, 3) := by decide +kernel
theorem dX3_strike_35 : decode cX3_strike 35 = .ok (.aload_n 0, 1) := by decide +kernel
theorem dX3_strike_36 : decode cX3_strike 36 = .ok (.iload_n 2, 1) := by decide +kernel
theorem dX3_strike_37 : decode cX3_strike 37 = .ok (.invokevirtual 37, 3) := by decide +kernel
theorem dX3_strike_40 : decode cX3_strike 40 = .ok (.return_, 1) := by decide +kernel
theorem dX3_strike_41 : decode cX3_strike 41 = .ok (.iinc 2 (-1), 3) := by decide +kernel
theorem dX3_strike_44 : decode cX3_strike 44 = .ok (.goto (-37), 3) := by decide +kernel
theorem dX3_strike_47 : decode cX3_strike 47 = .ok (.return_, 1) := by decide +kernel
theorem dX3_removeAt_0 : decode cX3_removeAt 0 = .ok (.iload_n 1, 1) := by decide +kernel
theorem dX3_removeAt_1 : decode cX3_removeAt 1 = .ok (.ifCond .lt 11, 3) := by decide +kernel
theorem dX3_removeAt_4 : decode cX3_removeAt 4 = .ok (.iload_n 1, 1) := by decide +kernel
theorem dX3_removeAt_5 : decode cX3_removeAt 5 = .ok (.aload_n 0, 1) := by decide +kernel
theorem dX3_removeAt_6 : decode cX3_removeAt 6 = .ok (.getfield 26, 3) := by decide +kernel
theorem dX3_removeAt_9 : decode cX3_removeAt 9 = .ok (.if_icmp .lt 4, 3) := by decide +kernel
theorem dX3_removeAt_12 : decode cX3_removeAt 12 = .ok (.return_, 1) := by decide +kernel
theorem dX3_removeAt_13 : decode cX3_removeAt 13 = .ok (.iload_n 1, 1) := by decide +kernel
theorem dX3_removeAt_14 : decode cX3_removeAt 14 = .ok (.istore_n 2, 1) := by decide +kernel
theorem dX3_removeAt_15 : decode cX3_removeAt 15 = .ok (.iload_n 2, 1) := by decide +kernel
theorem dX3_removeAt_16 : decode cX3_removeAt 16 = .ok (.iconst 1, 1) := by decide +kernel
theorem dX3_removeAt_17 : decode cX3_removeAt 17 = .ok (.iadd, 1) := by decide +kernel
theorem dX3_removeAt_18 : decode cX3_removeAt 18 = .ok (.aload_n 0, 1) := by decide +kernel
theorem dX3_removeAt_19 : decode cX3_removeAt 19 = .ok (.getfield 26, 3) := by decide +kernel
theorem dX3_removeAt_22 : decode cX3_removeAt 22 = .ok (.if_icmp .ge 34, 3) := by decide +kernel
theorem dX3_removeAt_25 : decode cX3_removeAt 25 = .ok (.iload_n 2, 1) := by decide +kernel
theorem dX3_removeAt_26 : decode cX3_removeAt 26 = .ok (.iconst 1, 1) := by decide +kernel
theorem dX3_removeAt_27 : decode cX3_removeAt 27 = .ok (.iadd, 1) := by decide +kernel
theorem dX3_removeAt_28 : decode cX3_removeAt 28 = .ok (.aload_n 0, 1) := by decide +kernel
theorem dX3_removeAt_29 : decode cX3_removeAt 29 = .ok (.getfield 9, 3) := by decide +kernel
theorem dX3_removeAt_32 : decode cX3_removeAt 32 = .ok (.arraylength, 1) := by decide +kernel
theorem dX3_removeAt_33 : decode cX3_removeAt 33 = .ok (.if_icmp .ge 23, 3) := by decide +kernel
theorem dX3_removeAt_36 : decode cX3_removeAt 36 = .ok (.aload_n 0, 1) := by decide +kernel
theorem dX3_removeAt_37 : decode cX3_removeAt 37 = .ok (.getfield 9, 3) := by decide +kernel
theorem dX3_removeAt_40 : decode cX3_removeAt 40 = .ok (.iload_n 2, 1) := by decide +kernel
theorem dX3_removeAt_41 : decode cX3_removeAt 41 = .ok (.aload_n 0, 1) := by decide +kernel
theorem dX3_removeAt_42 : decode cX3_removeAt 42 = .ok (.getfield 9, 3) := by decide +kernel
theorem dX3_removeAt_45 : decode cX3_removeAt 45 = .ok (.iload_n 2, 1) := by decide +kernel
theorem dX3_removeAt_46 : decode cX3_removeAt 46 = .ok (.iconst 1, 1) := by decide +kernel
theorem dX3_removeAt_47 : decode cX3_removeAt 47 = .ok (.iadd, 1) := by decide +kernel
theorem dX3_removeAt_48 : decode cX3_removeAt 48 = .ok (.iaload, 1) := by decide +kernel
theorem dX3_removeAt_49 : decode cX3_removeAt 49 = .ok (.iastore, 1) := by decide +kernel
theorem dX3_removeAt_50 : decode cX3_removeAt 50 = .ok (.iinc 2 1, 3) := by decide +kernel
theorem dX3_removeAt_53 : decode cX3_removeAt 53 = .ok (.goto (-38), 3) := by decide +kernel
theorem dX3_removeAt_56 : decode cX3_removeAt 56 = .ok (.aload_n 0, 1) := by decide +kernel
theorem dX3_removeAt_57 : decode cX3_removeAt 57 = .ok (.dup, 1) := by decide +kernel
theorem dX3_removeAt_58 : decode cX3_removeAt 58 = .ok (.getfield 26, 3) := by decide +kernel
theorem dX3_removeAt_61 : decode cX3_removeAt 61 = .ok (.iconst 1, 1) := by decide +kernel
theorem dX3_removeAt_62 : decode cX3_removeAt 62 = .ok (.isub, 1) := by decide +kernel
theorem dX3_removeAt_63 : decode cX3_removeAt 63 = .ok (.putfield 26, 3) := by decide +kernel
theorem dX3_removeAt_66 : decode cX3_removeAt 66 = .ok (.return_, 1) := by decide +kernel
theorem dX3_append_0 : decode cX3_append 0 = .ok (.aload_n 0, 1) := by decide +kernel
theorem dX3_append_1 : decode cX3_append 1 = .ok (.getfield 26, 3) := by decide +kernel
theorem dX3_append_4 : decode cX3_append 4 = .ok (.aload_n 0, 1) := by decide +kernel
theorem dX3_append_5 : decode cX3_append 5 = .ok (.getfield 9, 3) := by decide +kernel
theorem dX3_append_8 : decode cX3_append 8 = .ok (.arraylength, 1) := by decide +kernel
theorem dX3_append_9 : decode cX3_append 9 = .ok (.if_icmp .lt 36, 3) := by decide +kernel
theorem dX3_append_12 : decode cX3_append 12 = .ok (.aload_n 0, 1) := by decide +kernel
theorem dX3_append_13 : decode cX3_append 13 = .ok (.getfield 9, 3) := by decide +kernel
theorem dX3_append_16 : decode cX3_append 16 = .ok (.arraylength, 1) := by decide +kernel
theorem dX3_append_17 : decode cX3_append 17 = .ok (.ldc 40, 2) := by decide +kernel
theorem dX3_append_19 : decode cX3_append 19 = .ok (.if_icmp .ge 26, 3) := by decide +kernel
theorem dX3_append_22 : decode cX3_append 22 = .ok (.aload_n 0, 1) := by decide +kernel
theorem dX3_append_23 : decode cX3_append 23 = .ok (.aload_n 0, 1) := by decide +kernel
theorem dX3_append_24 : decode cX3_append 24 = .ok (.getfield 9, 3) := by decide +kernel
theorem dX3_append_27 : decode cX3_append 27 = .ok (.iconst 2, 1) := by decide +kernel
theorem dX3_append_28 : decode cX3_append 28 = .ok (.aload_n 0, 1) := by decide +kernel
theorem dX3_append_29 : decode cX3_append 29 = .ok (.getfield 9, 3) := by decide +kernel
theorem dX3_append_32 : decode cX3_append 32 = .ok (.arraylength, 1) := by decide +kernel
theorem dX3_append_33 : decode cX3_append 33 = .ok (.imul, 1) := by decide +kernel
theorem dX3_append_34 : decode cX3_append 34 = .ok (.ldc 40, 2) := by decide +kernel
theorem dX3_append_36 : decode cX3_append 36 = .ok (.invokestatic 41, 3) := by decide +kernel
theorem dX3_append_39 : decode cX3_append 39 = .ok (.invokestatic 47, 3) := by decide +kernel
theorem dX3_append_42 : decode cX3_append 42 = .ok (.putfield 9, 3) := by decide +kernel
theorem dX3_append_45 : decode cX3_append 45 = .ok (.aload_n 0, 1) := by decide +kernel
theorem dX3_append_46 : decode cX3_append 46 = .ok (.getfield 26, 3) := by decide +kernel
theorem dX3_append_49 : decode cX3_append 49 = .ok (.ifCond .lt 35, 3) := by decide +kernel
theorem dX3_append_52 : decode cX3_append 52 = .ok (.aload_n 0, 1) := by decide +kernel
theorem dX3_append_53 : decode cX3_append 53 = .ok (.getfield 26, 3) := by decide +kernel
theorem dX3_append_56 : decode cX3_append 56 = .ok (.aload_n 0, 1) := by decide +kernel
theorem dX3_append_57 : decode cX3_append 57 = .ok (.getfield 9, 3) := by decide +kernel
theorem dX3_append_60 : decode cX3_append 60 = .ok (.arraylength, 1) := by decide +kernel
theorem dX3_append_61 : decode cX3_append 61 = .ok (.if_icmp .ge 23, 3) := by decide +kernel
theorem dX3_append_64 : decode cX3_append 64 = .ok (.aload_n 0, 1) := by decide +kernel
theorem dX3_append_65 : decode cX3_append 65 = .ok (.getfield 9, 3) := by decide +kernel
theorem dX3_append_68 : decode cX3_append 68 = .ok (.aload_n 0, 1) := by decide +kernel
theorem dX3_append_69 : decode cX3_append 69 = .ok (.getfield 26, 3) := by decide +kernel
theorem dX3_append_72 : decode cX3_append 72 = .ok (.iload_n 1, 1) := by decide +kernel
theorem dX3_append_73 : decode cX3_append 73 = .ok (.iastore, 1) := by decide +kernel
theorem dX3_append_74 : decode cX3_append 74 = .ok (.aload_n 0, 1) := by decide +kernel
theorem dX3_append_75 : decode cX3_append 75 = .ok (.dup, 1) := by decide +kernel
theorem dX3_append_76 : decode cX3_append 76 = .ok (.getfield 26, 3) := by decide +kernel
theorem dX3_append_79 : decode cX3_append 79 = .ok (.iconst 1, 1) := by decide +kernel
theorem dX3_append_80 : decode cX3_append 80 = .ok (.iadd, 1) := by decide +kernel
theorem dX3_append_81 : decode cX3_append 81 = .ok (.putfield 26, 3) := by decide +kernel
theorem dX3_append_84 : decode cX3_append 84 = .ok (.return_, 1) := by decide +kernel
theorem dX4_init_0 : decode cX4_init 0 = .ok (.aload_n 0, 1) := by decide +kernel
theorem dX4_init_1 : decode cX4_init 1 = .ok (.invokespecial 1, 3) := by decide +kernel
theorem dX4_init_4 : decode cX4_init 4 = .ok (.aload_n 0, 1) := by decide +kernel
theorem dX4_init_5 : decode cX4_init 5 = .ok (.iload_n 1, 1) := by decide +kernel
theorem dX4_init_6 : decode cX4_init 6 = .ok (.putfield 7, 3) := by decide +kernel
theorem dX4_init_9 : decode cX4_init 9 = .ok (.aload_n 0, 1) := by decide +kernel
theorem dX4_init_10 : decode cX4_init 10 = .ok (.iload_n 2, 1) := by decide +kernel
theorem dX4_init_11 : decode cX4_init 11 = .ok (.putfield 13, 3) := by decide +kernel
theorem dX4_init_14 : decode cX4_init 14 = .ok (.aload_n 0, 1) := by decide +kernel
theorem dX4_init_15 : decode cX4_init 15 = .ok (.iload_n 3, 1) := by decide +kernel
theorem dX4_init_16 : decode cX4_init 16 = .ok (.putfield 16, 3) := by decide +kernel
theorem dX4_init_19 : decode cX4_init 19 = .ok (.aload_n 0, 1) := by decide +kernel
theorem dX4_init_20 : decode cX4_init 20 = .ok (.iload 4, 2) := by decide +kernel
theorem dX4_init_22 : decode cX4_init 22 = .ok (.putfield 19, 3) := by decide +kernel
theorem dX4_init_25 : decode cX4_init 25 = .ok (.aload_n 0, 1) := by decide +kernel
theorem dX4_init_26 : decode cX4_init 26 = .ok (.iload 5, 2) := by decide +kernel
theorem dX4_init_28 : decode cX4_init 28 = .ok (.putfield 22, 3) := by decide +kernel
theorem dX4_init_31 : decode cX4_init 31 = .ok (.return_, 1) := by decide +kernel
theorem dX4_distanceTo_0 : decode cX4_distanceTo 0 = .ok (.bipush 10, 2) := by decide +kernel
theorem dX4_distanceTo_2 : decode cX4_distanceTo 2 = .ok (.aload_n 0, 1) := by decide +kernel
theorem dX4_distanceTo_3 : decode cX4_distanceTo 3 = .ok (.getfield 7, 3) := by decide +kernel
theorem dX4_distanceTo_6 : decode cX4_distanceTo 6 = .ok (.aload_n 1, 1) := by decide +kernel
theorem dX4_distanceTo_7 : decode cX4_distanceTo 7 = .ok (.getfield 7, 3) := by decide +kernel
theorem dX4_distanceTo_10 : decode cX4_distanceTo 10 = .ok (.isub, 1) := by decide +kernel
theorem dX4_distanceTo_11 : decode cX4_distanceTo 11 = .ok (.invokestatic 25, 3) := by decide +kernel
theorem dX4_distanceTo_14 : decode cX4_distanceTo 14 = .ok (.imul, 1) := by decide +kernel
theorem dX4_distanceTo_15 : decode cX4_distanceTo 15 = .ok (.aload_n 0, 1) := by decide +kernel
theorem dX4_distanceTo_16 : decode cX4_distanceTo 16 = .ok (.getfield 13, 3) := by decide +kernel
theorem dX4_distanceTo_19 : decode cX4_distanceTo 19 = .ok (.aload_n 1, 1) := by decide +kernel
theorem dX4_distanceTo_20 : decode cX4_distanceTo 20 = .ok (.getfield 13, 3) := by decide +kernel
theorem dX4_distanceTo_23 : decode cX4_distanceTo 23 = .ok (.isub, 1) := by decide +kernel
theorem dX4_distanceTo_24 : decode cX4_distanceTo 24 = .ok (.invokestatic 25, 3) := by decide +kernel
theorem dX4_distanceTo_27 : decode cX4_distanceTo 27 = .ok (.iadd, 1) := by decide +kernel
theorem dX4_distanceTo_28 : decode cX4_distanceTo 28 = .ok (.ireturn, 1) := by decide +kernel
theorem dX5_init_0 : decode cX5_init 0 = .ok (.aload_n 0, 1) := by decide +kernel
theorem dX5_init_1 : decode cX5_init 1 = .ok (.invokespecial 3, 3) := by decide +kernel
theorem dX5_init_4 : decode cX5_init 4 = .ok (.aload_n 0, 1) := by decide +kernel
theorem dX5_init_5 : decode cX5_init 5 = .ok (.bipush 16, 2) := by decide +kernel
theorem dX5_init_7 : decode cX5_init 7 = .ok (.anewarray 9, 3) := by decide +kernel
theorem dX5_init_10 : decode cX5_init 10 = .ok (.putfield 11, 3) := by decide +kernel
theorem dX5_init_13 : decode cX5_init 13 = .ok (.aload_n 0, 1) := by decide +kernel
theorem dX5_init_14 : decode cX5_init 14 = .ok (.bipush 15, 2) := by decide +kernel
theorem dX5_init_16 : decode cX5_init 16 = .ok (.putfield 17, 3) := by decide +kernel
theorem dX5_init_19 : decode cX5_init 19 = .ok (.return_, 1) := by decide +kernel
theorem dX5_isFull_0 : decode cX5_isFull 0 = .ok (.aload_n 0, 1) := by decide +kernel
theorem dX5_isFull_1 : decode cX5_isFull 1 = .ok (.getfield 21, 3) := by decide +kernel
theorem dX5_isFull_4 : decode cX5_isFull 4 = .ok (.aload_n 0, 1) := by decide +kernel
theorem dX5_isFull_5 : decode cX5_isFull 5 = .ok (.getfield 11, 3) := by decide +kernel
theorem dX5_isFull_8 : decode cX5_isFull 8 = .ok (.arraylength, 1) := by decide +kernel
theorem dX5_isFull_9 : decode cX5_isFull 9 = .ok (.if_icmp .lt 7, 3) := by decide +kernel
theorem dX5_isFull_12 : decode cX5_isFull 12 = .ok (.iconst 1, 1) := by decide +kernel
theorem dX5_isFull_13 : decode cX5_isFull 13 = .ok (.goto 4, 3) := by decide +kernel
theorem dX5_isFull_16 : decode cX5_isFull 16 = .ok (.iconst 0, 1) := by decide +kernel
theorem dX5_isFull_17 : decode cX5_isFull 17 = .ok (.ireturn, 1) := by decide +kernel
theorem dX5_hang_0 : decode cX5_hang 0 = .ok (.aload_n 0, 1) := by decide +kernel
theorem dX5_hang_1 : decode cX5_hang 1 = .ok (.getfield 21, 3) := by decide +kernel
theorem dX5_hang_4 : decode cX5_hang 4 = .ok (.aload_n 0, 1) := by decide +kernel
theorem dX5_hang_5 : decode cX5_hang 5 = .ok (.getfield 11, 3) := by decide +kernel
theorem dX5_hang_8 : decode cX5_hang 8 = .ok (.arraylength, 1) := by decide +kernel
theorem dX5_hang_9 : decode cX5_hang 9 = .ok (.if_icmp .lt 5, 3) := by decide +kernel
theorem dX5_hang_12 : decode cX5_hang 12 = .ok (.iconst (-1), 1) := by decide +kernel
theorem dX5_hang_13 : decode cX5_hang 13 = .ok (.ireturn, 1) := by decide +kernel
theorem dX5_hang_14 : decode cX5_hang 14 = .ok (.aload_n 0, 1) := by decide +kernel
theorem dX5_hang_15 : decode cX5_hang 15 = .ok (.getfield 11, 3) := by decide +kernel
theorem dX5_hang_18 : decode cX5_hang 18 = .ok (.aload_n 0, 1) := by decide +kernel
theorem dX5_hang_19 : decode cX5_hang 19 = .ok (.getfield 21, 3) := by decide +kernel
theorem dX5_hang_22 : decode cX5_hang 22 = .ok (.aload_n 1, 1) := by decide +kernel
theorem dX5_hang_23 : decode cX5_hang 23 = .ok (.aastore, 1) := by decide +kernel
theorem dX5_hang_24 : decode cX5_hang 24 = .ok (.aload_n 0, 1) := by decide +kernel
theorem dX5_hang_25 : decode cX5_hang 25 = .ok (.dup, 1) := by decide +kernel
theorem dX5_hang_26 : decode cX5_hang 26 = .ok (.getfield 21, 3) := by decide +kernel
theorem dX5_hang_29 : decode cX5_hang 29 = .ok (.iconst 1, 1) := by decide +kernel
theorem dX5_hang_30 : decode cX5_hang 30 = .ok (.iadd, 1) := by decide +kernel
theorem dX5_hang_31 : decode cX5_hang 31 = .ok (.putfield 21, 3) := by decide +kernel
theorem dX5_hang_34 : decode cX5_hang 34 = .ok (.aload_n 0, 1) := by decide +kernel
theorem dX5_hang_35 : decode cX5_hang 35 = .ok (.getfield 21, 3) := by decide +kernel
theorem dX5_hang_38 : decode cX5_hang 38 = .ok (.iconst 1, 1) := by decide +kernel
theorem dX5_hang_39 : decode cX5_hang 39 = .ok (.isub, 1) := by decide +kernel
theorem dX5_hang_40 : decode cX5_hang 40 = .ok (.ireturn, 1) := by decide +kernel
theorem dX5_lampAt_0 : decode cX5_lampAt 0 = .ok (.iload_n 1, 1) := by decide +kernel
theorem dX5_lampAt_1 : decode cX5_lampAt 1 = .ok (.ifCond .lt 21, 3) := by decide +kernel
theorem dX5_lampAt_4 : decode cX5_lampAt 4 = .ok (.iload_n 1, 1) := by decide +kernel
theorem dX5_lampAt_5 : decode cX5_lampAt 5 = .ok (.aload_n 0, 1) := by decide +kernel
theorem dX5_lampAt_6 : decode cX5_lampAt 6 = .ok (.getfield 11, 3) := by decide +kernel
theorem dX5_lampAt_9 : decode cX5_lampAt 9 = .ok (.arraylength, 1) := by decide +kernel
theorem dX5_lampAt_10 : decode cX5_lampAt 10 = .ok (.if_icmp .ge 12, 3) := by decide +kernel
theorem dX5_lampAt_13 : decode cX5_lampAt 13 = .ok (.aload_n 0, 1) := by decide +kernel
theorem dX5_lampAt_14 : decode cX5_lampAt 14 = .ok (.getfield 11, 3) := by decide +kernel
theorem dX5_lampAt_17 : decode cX5_lampAt 17 = .ok (.iload_n 1, 1) := by decide +kernel
theorem dX5_lampAt_18 : decode cX5_lampAt 18 = .ok (.aaload, 1) := by decide +kernel
theorem dX5_lampAt_19 : decode cX5_lampAt 19 = .ok (.goto 4, 3) := by decide +kernel
theorem dX5_lampAt_22 : decode cX5_lampAt 22 = .ok (.aconst_null, 1) := by decide +kernel
theorem dX5_lampAt_23 : decode cX5_lampAt 23 = .ok (.areturn, 1) := by decide +kernel
theorem dX5_isUsable_0 : decode cX5_isUsable 0 = .ok (.aload_n 1, 1) := by decide +kernel
theorem dX5_isUsable_1 : decode cX5_isUsable 1 = .ok (.ifnull 29, 3) := by decide +kernel
theorem dX5_isUsable_4 : decode cX5_isUsable 4 = .ok (.aload_n 1, 1) := by decide +kernel
theorem dX5_isUsable_5 : decode cX5_isUsable 5 = .ok (.getfield 24, 3) := by decide +kernel
theorem dX5_isUsable_8 : decode cX5_isUsable 8 = .ok (.ifCond .ne 22, 3) := by decide +kernel
theorem dX5_isUsable_11 : decode cX5_isUsable 11 = .ok (.aload_n 0, 1) := by decide +kernel
theorem dX5_isUsable_12 : decode cX5_isUsable 12 = .ok (.getfield 17, 3) := by decide +kernel
theorem dX5_isUsable_15 : decode cX5_isUsable 15 = .ok (.aload_n 1, 1) := by decide +kernel
theorem dX5_isUsable_16 : decode cX5_isUsable 16 = .ok (.getfield 28, 3) := by decide +kernel
theorem dX5_isUsable_19 : decode cX5_isUsable 19 = .ok (.ishr, 1) := by decide +kernel
theorem dX5_isUsable_20 : decode cX5_isUsable 20 = .ok (.iconst 1, 1) := by decide +kernel
theorem dX5_isUsable_21 : decode cX5_isUsable 21 = .ok (.iand, 1) := by decide +kernel
theorem dX5_isUsable_22 : decode cX5_isUsable 22 = .ok (.iconst 1, 1) := by decide +kernel
theorem dX5_isUsable_23 : decode cX5_isUsable 23 = .ok (.if_icmp .ne 7, 3) := by decide +kernel
theorem dX5_isUsable_26 : decode cX5_isUsable 26 = .ok (.iconst 1, 1) := by decide +kernel
theorem dX5_isUsable_27 : decode cX5_isUsable 27 = .ok (.goto 4, 3) := by decide +kernel
theorem dX5_isUsable_30 : decode cX5_isUsable 30 = .ok (.iconst 0, 1) := by decide +kernel
theorem dX5_isUsable_31 : decode cX5_isUsable 31 = .ok (.ireturn, 1) := by decide +kernel
theorem dX5_countUsable_0 : decode cX5_countUsable 0 = .ok (.iconst 0, 1) := by decide +kernel
theorem dX5_countUsable_1 : decode cX5_countUsable 1 = .ok (.istore_n 1, 1) := by decide +kernel
theorem dX5_countUsable_2 : decode cX5_countUsable 2 = .ok (.iconst 0, 1) := by decide +kernel
theorem dX5_countUsable_3 : decode cX5_countUsable 3 = .ok (.istore_n 2, 1) := by decide +kernel
theorem dX5_countUsable_4 : decode cX5_countUsable 4 = .ok (.iload_n 2, 1) := by decide +kernel
theorem dX5_countUsable_5 : decode cX5_countUsable 5 = .ok (.aload_n 0, 1) := by decide +kernel
theorem dX5_countUsable_6 : decode cX5_countUsable 6 = .ok (.getfield 11, 3) := by decide +kernel
theorem dX5_countUsable_9 : decode cX5_countUsable 9 = .ok (.arraylength, 1) := by decide +kernel
theorem dX5_countUsable_10 : decode cX5_countUsable 10 = .ok (.if_icmp .ge 25, 3) := by decide +kernel
theorem dX5_countUsable_13 : decode cX5_countUsable 13 = .ok (.aload_n 0, 1) := by decide +kernel
theorem dX5_countUsable_14 : decode cX5_countUsable 14 = .ok (.aload_n 0, 1) := by decide +kernel
theorem dX5_countUsable_15 : decode cX5_countUsable 15 = .ok (.getfield 11, 3) := by decide +kernel
theorem dX5_countUsable_18 : decode cX5_countUsable 18 = .ok (.iload_n 2, 1) := by decide +kernel
theorem dX5_countUsable_19 : decode cX5_countUsable 19 = .ok (.aaload, 1) := by decide +kernel
theorem dX5_countUsable_20 : decode cX5_countUsable 20 = .ok (.invokevirtual 31, 3) := by decide +kernel
theorem dX5_countUsable_23 : decode cX5_countUsable 23 = .ok (.ifCond .eq 6, 3) := by decide +kernel
theorem dX5_countUsable_26 : decode cX5_countUsable 26 = .ok (.iinc 1 1, 3) := by decide +kernel
theorem dX5_countUsable_29 : decode cX5_countUsable 29 = .ok (.iinc 2 1, 3) := by decide +kernel
theorem dX5_countUsable_32 : decode cX5_countUsable 32 = .ok (.goto (-28), 3) := by decide +kernel
theorem dX5_countUsable_35 : decode cX5_countUsable 35 = .ok (.iload_n 1, 1) := by decide +kernel
theorem dX5_countUsable_36 : decode cX5_countUsable 36 = .ok (.ireturn, 1) := by decide +kernel
theorem dX5_nearestSpare_0 : decode cX5_nearestSpare 0 = .ok (.iconst (-1), 1) := by decide +kernel
theorem dX5_nearestSpare_1 : decode cX5_nearestSpare 1 = .ok (.istore_n 3, 1) := by decide +kernel
theorem dX5_nearestSpare_2 : decode cX5_nearestSpare 2 = .ok (.iconst 0, 1) := by decide +kernel
theorem dX5_nearestSpare_3 : decode cX5_nearestSpare 3 = .ok (.istore 4, 2) := by decide +kernel
theorem dX5_nearestSpare_5 : decode cX5_nearestSpare 5 = .ok (.iconst 0, 1) := by decide +kernel
theorem dX5_nearestSpare_6 : decode cX5_nearestSpare 6 = .ok (.istore 5, 2) := by decide +kernel
theorem dX5_nearestSpare_8 : decode cX5_nearestSpare 8 = .ok (.iload 5, 2) := by decide +kernel
theorem dX5_nearestSpare_10 : decode cX5_nearestSpare 10 = .ok (.aload_n 0, 1) := by decide +kernel
theorem dX5_nearestSpare_11 : decode cX5_nearestSpare 11 = .ok (.getfield 11, 3) := by decide +kernel
theorem dX5_nearestSpare_14 : decode cX5_nearestSpare 14 = .ok (.arraylength, 1) := by decide +kernel
theorem dX5_nearestSpare_15 : decode cX5_nearestSpare 15 = .ok (.if_icmp .ge 83, 3) := by decide +kernel
theorem dX5_nearestSpare_18 : decode cX5_nearestSpare 18 = .ok (.aload_n 0, 1) := by decide +kernel
theorem dX5_nearestSpare_19 : decode cX5_nearestSpare 19 = .ok (.getfield 11, 3) := by decide +kernel
theorem dX5_nearestSpare_22 : decode cX5_nearestSpare 22 = .ok (.iload 5, 2) := by decide +kernel
theorem dX5_nearestSpare_24 : decode cX5_nearestSpare 24 = .ok (.aaload, 1) := by decide +kernel
theorem dX5_nearestSpare_25 : decode cX5_nearestSpare 25 = .ok (.astore 6, 2) := by decide +kernel
theorem dX5_nearestSpare_27 : decode cX5_nearestSpare 27 = .ok (.aload 6, 2) := by decide +kernel
theorem dX5_nearestSpare_29 : decode cX5_nearestSpare 29 = .ok (.ifnull 63, 3) := by decide +kernel
theorem dX5_nearestSpare_32 : decode cX5_nearestSpare 32 = .ok (.aload_n 0, 1) := by decide +kernel
theorem dX5_nearestSpare_33 : decode cX5_nearestSpare 33 = .ok (.aload 6, 2) := by decide +kernel
theorem dX5_nearestSpare_35 : decode cX5_nearestSpare 35 = .ok (.invokevirtual 31, 3) := by decide +kernel
theorem dX5_nearestSpare_38 : decode cX5_nearestSpare 38 = .ok (.ifCond .eq 54, 3) := by decide +kernel
theorem dX5_nearestSpare_41 : decode cX5_nearestSpare 41 = .ok (.aload 6, 2) := by decide +kernel
theorem dX5_nearestSpare_43 : decode cX5_nearestSpare 43 = .ok (.getfield 35, 3) := by decide +kernel
theorem dX5_nearestSpare_46 : decode cX5_nearestSpare 46 = .ok (.aload_n 1, 1) := by decide +kernel
theorem dX5_nearestSpare_47 : decode cX5_nearestSpare 47 = .ok (.getfield 35, 3) := by decide +kernel
theorem dX5_nearestSpare_50 : decode cX5_nearestSpare 50 = .ok (.if_icmp .ne 42, 3) := by decide +kernel
theorem dX5_nearestSpare_53 : decode cX5_nearestSpare 53 = .ok (.aload_n 2, 1) := by decide +kernel
theorem dX5_nearestSpare_54 : decode cX5_nearestSpare 54 = .ok (.iload 5, 2) := by decide +kernel
theorem dX5_nearestSpare_56 : decode cX5_nearestSpare 56 = .ok (.invokevirtual 38, 3) := by decide +kernel
theorem dX5_nearestSpare_59 : decode cX5_nearestSpare 59 = .ok (.ifCond .ne 6, 3) := by decide +kernel
theorem dX5_nearestSpare_62 : decode cX5_nearestSpare 62 = .ok (.goto 30, 3) := by decide +kernel
theorem dX5_nearestSpare_65 : decode cX5_nearestSpare 65 = .ok (.aload_n 1, 1) := by decide +kernel
theorem dX5_nearestSpare_66 : decode cX5_nearestSpare 66 = .ok (.aload 6, 2) := by decide +kernel
theorem dX5_nearestSpare_68 : decode cX5_nearestSpare 68 = .ok (.invokevirtual 44, 3) := by decide +kernel
theorem dX5_nearestSpare_71 : decode cX5_nearestSpare 71 = .ok (.istore 7, 2) := by decide +kernel
theorem dX5_nearestSpare_73 : decode cX5_nearestSpare 73 = .ok (.iload_n 3, 1) := by decide +kernel
theorem dX5_nearestSpare_74 : decode cX5_nearestSpare 74 = .ok (.iconst (-1), 1) := by decide +kernel
theorem dX5_nearestSpare_75 : decode cX5_nearestSpare 75 = .ok (.if_icmp .eq 10, 3) := by decide +kernel
theorem dX5_nearestSpare_78 : decode cX5_nearestSpare 78 = .ok (.iload 7, 2) := by decide +kernel
theorem dX5_nearestSpare_80 : decode cX5_nearestSpare 80 = .ok (.iload 4, 2) := by decide +kernel
theorem dX5_nearestSpare_82 : decode cX5_nearestSpare 82 = .ok (.if_icmp .ge 10, 3) := by decide +kernel
theorem dX5_nearestSpare_85 : decode cX5_nearestSpare 85 = .ok (.iload 7, 2) := by decide +kernel
theorem dX5_nearestSpare_87 : decode cX5_nearestSpare 87 = .ok (.istore 4, 2) := by decide +kernel
theorem dX5_nearestSpare_89 : decode cX5_nearestSpare 89 = .ok (.iload 5, 2) := by decide +kernel
theorem dX5_nearestSpare_91 : decode cX5_nearestSpare 91 = .ok (.istore_n 3, 1) := by decide +kernel
theorem dX5_nearestSpare_92 : decode cX5_nearestSpare 92 = .ok (.iinc 5 1, 3) := by decide +kernel
theorem dX5_nearestSpare_95 : decode cX5_nearestSpare 95 = .ok (.goto (-87), 3) := by decide +kernel
theorem dX5_nearestSpare_98 : decode cX5_nearestSpare 98 = .ok (.iload_n 3, 1) := by decide +kernel
theorem dX5_nearestSpare_99 : decode cX5_nearestSpare 99 = .ok (.ireturn, 1) := by decide +kernel
theorem dX6_init_0 : decode cX6_init 0 = .ok (.aload_n 0, 1) := by decide +kernel
theorem dX6_init_1 : decode cX6_init 1 = .ok (.invokespecial 3, 3) := by decide +kernel
theorem dX6_init_4 : decode cX6_init 4 = .ok (.aload_n 0, 1) := by decide +kernel
theorem dX6_init_5 : decode cX6_init 5 = .ok (.sipush 512, 3) := by decide +kernel
theorem dX6_init_8 : decode cX6_init 8 = .ok (.anewarray 9, 3) := by decide +kernel
theorem dX6_init_11 : decode cX6_init 11 = .ok (.putfield 11, 3) := by decide +kernel
theorem dX6_init_14 : decode cX6_init 14 = .ok (.aload_n 0, 1) := by decide +kernel
theorem dX6_init_15 : decode cX6_init 15 = .ok (.sipush 512, 3) := by decide +kernel
theorem dX6_init_18 : decode cX6_init 18 = .ok (.newarray .int, 2) := by decide +kernel
theorem dX6_init_20 : decode cX6_init 20 = .ok (.putfield 17, 3) := by decide +kernel
theorem dX6_init_23 : decode cX6_init 23 = .ok (.aload_n 0, 1) := by decide +kernel
theorem dX6_init_24 : decode cX6_init 24 = .ok (.sipush 512, 3) := by decide +kernel
theorem dX6_init_27 : decode cX6_init 27 = .ok (.anewarray 9, 3) := by decide +kernel
theorem dX6_init_30 : decode cX6_init 30 = .ok (.putfield 21, 3) := by decide +kernel
theorem dX6_init_33 : decode cX6_init 33 = .ok (.return_, 1) := by decide +kernel
theorem dX6_note_0 : decode cX6_note 0 = .ok (.aload_n 0, 1) := by decide +kernel
theorem dX6_note_1 : decode cX6_note 1 = .ok (.getfield 24, 3) := by decide +kernel
theorem dX6_note_4 : decode cX6_note 4 = .ok (.aload_n 0, 1) := by decide +kernel
theorem dX6_note_5 : decode cX6_note 5 = .ok (.getfield 11, 3) := by decide +kernel
theorem dX6_note_8 : decode cX6_note 8 = .ok (.arraylength, 1) := by decide +kernel
theorem dX6_note_9 : decode cX6_note 9 = .ok (.if_icmp .ge 45, 3) := by decide +kernel
theorem dX6_note_12 : decode cX6_note 12 = .ok (.aload_n 0, 1) := by decide +kernel
theorem dX6_note_13 : decode cX6_note 13 = .ok (.getfield 24, 3) := by decide +kernel
theorem dX6_note_16 : decode cX6_note 16 = .ok (.aload_n 0, 1) := by decide +kernel
theorem dX6_note_17 : decode cX6_note 17 = .ok (.getfield 17, 3) := by decide +kernel
theorem dX6_note_20 : decode cX6_note 20 = .ok (.arraylength, 1) := by decide +kernel
theorem dX6_note_21 : decode cX6_note 21 = .ok (.if_icmp .ge 33, 3) := by decide +kernel
theorem dX6_note_24 : decode cX6_note 24 = .ok (.aload_n 0, 1) := by decide +kernel
theorem dX6_note_25 : decode cX6_note 25 = .ok (.getfield 11, 3) := by decide +kernel
theorem dX6_note_28 : decode cX6_note 28 = .ok (.aload_n 0, 1) := by decide +kernel
theorem dX6_note_29 : decode cX6_note 29 = .ok (.getfield 24, 3) := by decide +kernel
theorem dX6_note_32 : decode cX6_note 32 = .ok (.aload_n 1, 1) := by decide +kernel
theorem dX6_note_33 : decode cX6_note 33 = .ok (.aastore, 1) := by decide +kernel
theorem dX6_note_34 : decode cX6_note 34 = .ok (.aload_n 0, 1) := by decide +kernel
theorem dX6_note_35 : decode cX6_note 35 = .ok (.getfield 17, 3) := by decide +kernel
theorem dX6_note_38 : decode cX6_note 38 = .ok (.aload_n 0, 1) := by decide +kernel
theorem dX6_note_39 : decode cX6_note 39 = .ok (.getfield 24, 3) := by decide +kernel
theorem dX6_note_42 : decode cX6_note 42 = .ok (.iload_n 2, 1) := by decide +kernel
theorem dX6_note_43 : decode cX6_note 43 = .ok (.iastore, 1) := by decide +kernel
theorem dX6_note_44 : decode cX6_note 44 = .ok (.aload_n 0, 1) := by decide +kernel
theorem dX6_note_45 : decode cX6_note 45 = .ok (.dup, 1) := by decide +kernel
theorem dX6_note_46 : decode cX6_note 46 = .ok (.getfield 24, 3) := by decide +kernel
theorem dX6_note_49 : decode cX6_note 49 = .ok (.iconst 1, 1) := by decide +kernel
theorem dX6_note_50 : decode cX6_note 50 = .ok (.iadd, 1) := by decide +kernel
theorem dX6_note_51 : decode cX6_note 51 = .ok (.putfield 24, 3) := by decide +kernel
theorem dX6_note_54 : decode cX6_note 54 = .ok (.return_, 1) := by decide +kernel
theorem dX6_takeDue_0 : decode cX6_takeDue 0 = .ok (.iconst 0, 1) := by decide +kernel
theorem dX6_takeDue_1 : decode cX6_takeDue 1 = .ok (.istore_n 2, 1) := by decide +kernel
theorem dX6_takeDue_2 : decode cX6_takeDue 2 = .ok (.aload_n 0, 1) := by decide +kernel
theorem dX6_takeDue_3 : decode cX6_takeDue 3 = .ok (.iconst 0, 1) := by decide +kernel
theorem dX6_takeDue_4 : decode cX6_takeDue 4 = .ok (.putfield 28, 3) := by decide +kernel
theorem dX6_takeDue_7 : decode cX6_takeDue 7 = .ok (.iconst 0, 1) := by decide +kernel
theorem dX6_takeDue_8 : decode cX6_takeDue 8 = .ok (.istore_n 3, 1) := by decide +kernel
theorem dX6_takeDue_9 : decode cX6_takeDue 9 = .ok (.iload_n 3, 1) := by decide +kernel
theorem dX6_takeDue_10 : decode cX6_takeDue 10 = .ok (.aload_n 0, 1) := by decide +kernel
theorem dX6_takeDue_11 : decode cX6_takeDue 11 = .ok (.getfield 24, 3) := by decide +kernel
theorem dX6_takeDue_14 : decode cX6_takeDue 14 = .ok (.if_icmp .ge 104, 3) := by decide +kernel
theorem dX6_takeDue_17 : decode cX6_takeDue 17 = .ok (.iload_n 3, 1) := by decide +kernel
theorem dX6_takeDue_18 : decode cX6_takeDue 18 = .ok (.aload_n 0, 1) := by decide +kernel
theorem dX6_takeDue_19 : decode cX6_takeDue 19 = .ok (.getfield 11, 3) := by decide +kernel
theorem dX6_takeDue_22 : decode cX6_takeDue 22 = .ok (.arraylength, 1) := by decide +kernel
theorem dX6_takeDue_23 : decode cX6_takeDue 23 = .ok (.if_icmp .ge 95, 3) := by decide +kernel
theorem dX6_takeDue_26 : decode cX6_takeDue 26 = .ok (.iload_n 3, 1) := by decide +kernel
theorem dX6_takeDue_27 : decode cX6_takeDue 27 = .ok (.aload_n 0, 1) := by decide +kernel
theorem dX6_takeDue_28 : decode cX6_takeDue 28 = .ok (.getfield 17, 3) := by decide +kernel
theorem dX6_takeDue_31 : decode cX6_takeDue 31 = .ok (.arraylength, 1) := by decide +kernel
theorem dX6_takeDue_32 : decode cX6_takeDue 32 = .ok (.if_icmp .ge 86, 3) := by decide +kernel
theorem dX6_takeDue_35 : decode cX6_takeDue 35 = .ok (.aload_n 0, 1) := by decide +kernel
theorem dX6_takeDue_36 : decode cX6_takeDue 36 = .ok (.getfield 17, 3) := by decide +kernel
theorem dX6_takeDue_39 : decode cX6_takeDue 39 = .ok (.iload_n 3, 1) := by decide +kernel
theorem dX6_takeDue_40 : decode cX6_takeDue 40 = .ok (.iaload, 1) := by decide +kernel
theorem dX6_takeDue_41 : decode cX6_takeDue 41 = .ok (.iload_n 1, 1) := by decide +kernel
theorem dX6_takeDue_42 : decode cX6_takeDue 42 = .ok (.if_icmp .eq 33, 3) := by decide +kernel
theorem dX6_takeDue_45 : decode cX6_takeDue 45 = .ok (.aload_n 0, 1) := by decide +kernel
theorem dX6_takeDue_46 : decode cX6_takeDue 46 = .ok (.getfield 11, 3) := by decide +kernel
theorem dX6_takeDue_49 : decode cX6_takeDue 49 = .ok (.iload_n 2, 1) := by decide +kernel
theorem dX6_takeDue_50 : decode cX6_takeDue 50 = .ok (.aload_n 0, 1) := by decide +kernel
theorem dX6_takeDue_51 : decode cX6_takeDue 51 = .ok (.getfield 11, 3) := by decide +kernel
