theorem dX7_wattsAsked_62 : decode cX7_wattsAsked 62 = .ok (.iadd, 1) := by decide +kernel
theorem dX7_wattsAsked_63 : decode cX7_wattsAsked 63 = .ok (.istore_n 3, 1) := by decide +kernel
theorem dX7_wattsAsked_64 : decode cX7_wattsAsked 64 = .ok (.iinc 4 1, 3) := by decide +kernel
theorem dX7_wattsAsked_67 : decode cX7_wattsAsked 67 = .ok (.goto (-62), 3) := by decide +kernel
theorem dX7_wattsAsked_70 : decode cX7_wattsAsked 70 = .ok (.iload_n 3, 1) := by decide +kernel
theorem dX7_wattsAsked_71 : decode cX7_wattsAsked 71 = .ok (.bipush 99, 2) := by decide +kernel
theorem dX7_wattsAsked_73 : decode cX7_wattsAsked 73 = .ok (.iadd, 1) := by decide +kernel
theorem dX7_wattsAsked_74 : decode cX7_wattsAsked 74 = .ok (.bipush 100, 2) := by decide +kernel
theorem dX7_wattsAsked_76 : decode cX7_wattsAsked 76 = .ok (.idiv, 1) := by decide +kernel
theorem dX7_wattsAsked_77 : decode cX7_wattsAsked 77 = .ok (.ireturn, 1) := by decide +kernel
theorem dX7_begin_0 : decode cX7_begin 0 = .ok (.aload_n 0, 1) := by decide +kernel
theorem dX7_begin_1 : decode cX7_begin 1 = .ok (.getfield 35, 3) := by decide +kernel
theorem dX7_begin_4 : decode cX7_begin 4 = .ok (.aload_n 1, 1) := by decide +kernel
theorem dX7_begin_5 : decode cX7_begin 5 = .ok (.aload_n 0, 1) := by decide +kernel
theorem dX7_begin_6 : decode cX7_begin 6 = .ok (.getfield 186, 3) := by decide +kernel
theorem dX7_begin_9 : decode cX7_begin 9 = .ok (.invokevirtual 257, 3) := by decide +kernel
theorem dX7_begin_12 : decode cX7_begin 12 = .ok (.aload_n 0, 1) := by decide +kernel
theorem dX7_begin_13 : decode cX7_begin 13 = .ok (.getfield 52, 3) := by decide +kernel
theorem dX7_begin_16 : decode cX7_begin 16 = .ok (.aload_n 0, 1) := by decide +kernel
theorem dX7_begin_17 : decode cX7_begin 17 = .ok (.getfield 186, 3) := by decide +kernel
theorem dX7_begin_20 : decode cX7_begin 20 = .ok (.aload_n 1, 1) := by decide +kernel
theorem dX7_begin_21 : decode cX7_begin 21 = .ok (.getfield 159, 3) := by decide +kernel
theorem dX7_begin_24 : decode cX7_begin 24 = .ok (.invokevirtual 260, 3) := by decide +kernel
theorem dX7_begin_27 : decode cX7_begin 27 = .ok (.aload_n 1, 1) := by decide +kernel
theorem dX7_begin_28 : decode cX7_begin 28 = .ok (.getfield 152, 3) := by decide +kernel
theorem dX7_begin_31 : decode cX7_begin 31 = .ok (.ifnull 23, 3) := by decide +kernel
theorem dX7_begin_34 : decode cX7_begin 34 = .ok (.aload_n 0, 1) := by decide +kernel
theorem dX7_begin_35 : decode cX7_begin 35 = .ok (.getfield 45, 3) := by decide +kernel
theorem dX7_begin_38 : decode cX7_begin 38 = .ok (.aload_n 1, 1) := by decide +kernel
theorem dX7_begin_39 : decode cX7_begin 39 = .ok (.getfield 152, 3) := by decide +kernel
theorem dX7_begin_42 : decode cX7_begin 42 = .ok (.aload_n 0, 1) := by decide +kernel
theorem dX7_begin_43 : decode cX7_begin 43 = .ok (.getfield 186, 3) := by decide +kernel
theorem dX7_begin_46 : decode cX7_begin 46 = .ok (.aload_n 1, 1) := by decide +kernel
theorem dX7_begin_47 : decode cX7_begin 47 = .ok (.getfield 156, 3) := by decide +kernel
theorem dX7_begin_50 : decode cX7_begin 50 = .ok (.iadd, 1) := by decide +kernel
theorem dX7_begin_51 : decode cX7_begin 51 = .ok (.invokevirtual 263, 3) := by decide +kernel
theorem dX7_begin_54 : decode cX7_begin 54 = .ok (.return_, 1) := by decide +kernel
theorem dX7_passOne_0 : decode cX7_passOne 0 = .ok (.aload_n 0, 1) := by decide +kernel
theorem dX7_passOne_1 : decode cX7_passOne 1 = .ok (.dup, 1) := by decide +kernel
theorem dX7_passOne_2 : decode cX7_passOne 2 = .ok (.getfield 186, 3) := by decide +kernel
theorem dX7_passOne_5 : decode cX7_passOne 5 = .ok (.iconst 1, 1) := by decide +kernel
theorem dX7_passOne_6 : decode cX7_passOne 6 = .ok (.iadd, 1) := by decide +kernel
theorem dX7_passOne_7 : decode cX7_passOne 7 = .ok (.putfield 186, 3) := by decide +kernel
theorem dX7_passOne_10 : decode cX7_passOne 10 = .ok (.aload_n 0, 1) := by decide +kernel
theorem dX7_passOne_11 : decode cX7_passOne 11 = .ok (.getfield 35, 3) := by decide +kernel
theorem dX7_passOne_14 : decode cX7_passOne 14 = .ok (.aload_n 0, 1) := by decide +kernel
theorem dX7_passOne_15 : decode cX7_passOne 15 = .ok (.getfield 186, 3) := by decide +kernel
theorem dX7_passOne_18 : decode cX7_passOne 18 = .ok (.invokevirtual 197, 3) := by decide +kernel
theorem dX7_passOne_21 : decode cX7_passOne 21 = .ok (.aload_n 0, 1) := by decide +kernel
theorem dX7_passOne_22 : decode cX7_passOne 22 = .ok (.getfield 45, 3) := by decide +kernel
theorem dX7_passOne_25 : decode cX7_passOne 25 = .ok (.aload_n 0, 1) := by decide +kernel
theorem dX7_passOne_26 : decode cX7_passOne 26 = .ok (.getfield 186, 3) := by decide +kernel
theorem dX7_passOne_29 : decode cX7_passOne 29 = .ok (.invokevirtual 266, 3) := by decide +kernel
theorem dX7_passOne_32 : decode cX7_passOne 32 = .ok (.iconst 0, 1) := by decide +kernel
theorem dX7_passOne_33 : decode cX7_passOne 33 = .ok (.istore_n 1, 1) := by decide +kernel
theorem dX7_passOne_34 : decode cX7_passOne 34 = .ok (.iload_n 1, 1) := by decide +kernel
theorem dX7_passOne_35 : decode cX7_passOne 35 = .ok (.aload_n 0, 1) := by decide +kernel
theorem dX7_passOne_36 : decode cX7_passOne 36 = .ok (.getfield 45, 3) := by decide +kernel
theorem dX7_passOne_39 : decode cX7_passOne 39 = .ok (.getfield 269, 3) := by decide +kernel
theorem dX7_passOne_42 : decode cX7_passOne 42 = .ok (.if_icmp .ge 51, 3) := by decide +kernel
theorem dX7_passOne_45 : decode cX7_passOne 45 = .ok (.aload_n 0, 1) := by decide +kernel
theorem dX7_passOne_46 : decode cX7_passOne 46 = .ok (.getfield 45, 3) := by decide +kernel
theorem dX7_passOne_49 : decode cX7_passOne 49 = .ok (.iload_n 1, 1) := by decide +kernel
theorem dX7_passOne_50 : decode cX7_passOne 50 = .ok (.invokevirtual 272, 3) := by decide +kernel
theorem dX7_passOne_53 : decode cX7_passOne 53 = .ok (.astore_n 2, 1) := by decide +kernel
theorem dX7_passOne_54 : decode cX7_passOne 54 = .ok (.aload_n 2, 1) := by decide +kernel
theorem dX7_passOne_55 : decode cX7_passOne 55 = .ok (.ifnonnull 6, 3) := by decide +kernel
theorem dX7_passOne_58 : decode cX7_passOne 58 = .ok (.goto 29, 3) := by decide +kernel
theorem dX7_passOne_61 : decode cX7_passOne 61 = .ok (.aload_n 0, 1) := by decide +kernel
theorem dX7_passOne_62 : decode cX7_passOne 62 = .ok (.aload_n 2, 1) := by decide +kernel
theorem dX7_passOne_63 : decode cX7_passOne 63 = .ok (.invokevirtual 162, 3) := by decide +kernel
theorem dX7_passOne_66 : decode cX7_passOne 66 = .ok (.ifCond .eq 11, 3) := by decide +kernel
theorem dX7_passOne_69 : decode cX7_passOne 69 = .ok (.aload_n 0, 1) := by decide +kernel
theorem dX7_passOne_70 : decode cX7_passOne 70 = .ok (.aload_n 2, 1) := by decide +kernel
theorem dX7_passOne_71 : decode cX7_passOne 71 = .ok (.invokevirtual 168, 3) := by decide +kernel
theorem dX7_passOne_74 : decode cX7_passOne 74 = .ok (.goto 13, 3) := by decide +kernel
theorem dX7_passOne_77 : decode cX7_passOne 77 = .ok (.aload_n 0, 1) := by decide +kernel
theorem dX7_passOne_78 : decode cX7_passOne 78 = .ok (.dup, 1) := by decide +kernel
theorem dX7_passOne_79 : decode cX7_passOne 79 = .ok (.getfield 236, 3) := by decide +kernel
theorem dX7_passOne_82 : decode cX7_passOne 82 = .ok (.iconst 1, 1) := by decide +kernel
theorem dX7_passOne_83 : decode cX7_passOne 83 = .ok (.iadd, 1) := by decide +kernel
theorem dX7_passOne_84 : decode cX7_passOne 84 = .ok (.putfield 236, 3) := by decide +kernel
theorem dX7_passOne_87 : decode cX7_passOne 87 = .ok (.iinc 1 1, 3) := by decide +kernel
theorem dX7_passOne_90 : decode cX7_passOne 90 = .ok (.goto (-56), 3) := by decide +kernel
theorem dX7_passOne_93 : decode cX7_passOne 93 = .ok (.return_, 1) := by decide +kernel
theorem dX7_loadNow_0 : decode cX7_loadNow 0 = .ok (.fconst 0, 1) := by decide +kernel
theorem dX7_loadNow_1 : decode cX7_loadNow 1 = .ok (.fstore_n 2, 1) := by decide +kernel
theorem dX7_loadNow_2 : decode cX7_loadNow 2 = .ok (.iconst 0, 1) := by decide +kernel
theorem dX7_loadNow_3 : decode cX7_loadNow 3 = .ok (.istore_n 3, 1) := by decide +kernel
theorem dX7_loadNow_4 : decode cX7_loadNow 4 = .ok (.iload_n 3, 1) := by decide +kernel
theorem dX7_loadNow_5 : decode cX7_loadNow 5 = .ok (.bipush 16, 2) := by decide +kernel
theorem dX7_loadNow_7 : decode cX7_loadNow 7 = .ok (.if_icmp .ge 59, 3) := by decide +kernel
theorem dX7_loadNow_10 : decode cX7_loadNow 10 = .ok (.aload_n 0, 1) := by decide +kernel
theorem dX7_loadNow_11 : decode cX7_loadNow 11 = .ok (.getfield 10, 3) := by decide +kernel
theorem dX7_loadNow_14 : decode cX7_loadNow 14 = .ok (.iload_n 3, 1) := by decide +kernel
theorem dX7_loadNow_15 : decode cX7_loadNow 15 = .ok (.invokevirtual 95, 3) := by decide +kernel
theorem dX7_loadNow_18 : decode cX7_loadNow 18 = .ok (.astore 4, 2) := by decide +kernel
theorem dX7_loadNow_20 : decode cX7_loadNow 20 = .ok (.aload 4, 2) := by decide +kernel
theorem dX7_loadNow_22 : decode cX7_loadNow 22 = .ok (.ifnull 38, 3) := by decide +kernel
theorem dX7_loadNow_25 : decode cX7_loadNow 25 = .ok (.aload 4, 2) := by decide +kernel
theorem dX7_loadNow_27 : decode cX7_loadNow 27 = .ok (.getfield 240, 3) := by decide +kernel
theorem dX7_loadNow_30 : decode cX7_loadNow 30 = .ok (.iload_n 1, 1) := by decide +kernel
theorem dX7_loadNow_31 : decode cX7_loadNow 31 = .ok (.if_icmp .ne 29, 3) := by decide +kernel
theorem dX7_loadNow_34 : decode cX7_loadNow 34 = .ok (.fload_n 2, 1) := by decide +kernel
theorem dX7_loadNow_35 : decode cX7_loadNow 35 = .ok (.aload 4, 2) := by decide +kernel
theorem dX7_loadNow_37 : decode cX7_loadNow 37 = .ok (.getfield 243, 3) := by decide +kernel
theorem dX7_loadNow_40 : decode cX7_loadNow 40 = .ok (.i2f, 1) := by decide +kernel
theorem dX7_loadNow_41 : decode cX7_loadNow 41 = .ok (.aload_n 0, 1) := by decide +kernel
theorem dX7_loadNow_42 : decode cX7_loadNow 42 = .ok (.getfield 35, 3) := by decide +kernel
theorem dX7_loadNow_45 : decode cX7_loadNow 45 = .ok (.iload_n 3, 1) := by decide +kernel
theorem dX7_loadNow_46 : decode cX7_loadNow 46 = .ok (.aload_n 0, 1) := by decide +kernel
theorem dX7_loadNow_47 : decode cX7_loadNow 47 = .ok (.getfield 186, 3) := by decide +kernel
theorem dX7_loadNow_50 : decode cX7_loadNow 50 = .ok (.invokevirtual 203, 3) := by decide +kernel
theorem dX7_loadNow_53 : decode cX7_loadNow 53 = .ok (.fmul, 1) := by decide +kernel
theorem dX7_loadNow_54 : decode cX7_loadNow 54 = .ok (.ldc_w 275, 3) := by decide +kernel
theorem dX7_loadNow_57 : decode cX7_loadNow 57 = .ok (.fdiv, 1) := by decide +kernel
theorem dX7_loadNow_58 : decode cX7_loadNow 58 = .ok (.fadd, 1) := by decide +kernel
theorem dX7_loadNow_59 : decode cX7_loadNow 59 = .ok (.fstore_n 2, 1) := by decide +kernel
theorem dX7_loadNow_60 : decode cX7_loadNow 60 = .ok (.iinc 3 1, 3) := by decide +kernel
theorem dX7_loadNow_63 : decode cX7_loadNow 63 = .ok (.goto (-59), 3) := by decide +kernel
theorem dX7_loadNow_66 : decode cX7_loadNow 66 = .ok (.fload_n 2, 1) := by decide +kernel
theorem dX7_loadNow_67 : decode cX7_loadNow 67 = .ok (.freturn, 1) := by decide +kernel
theorem dX7_retell_0 : decode cX7_retell 0 = .ok (.aload_n 0, 1) := by decide +kernel
theorem dX7_retell_1 : decode cX7_retell 1 = .ok (.getfield 39, 3) := by decide +kernel
theorem dX7_retell_4 : decode cX7_retell 4 = .ok (.invokevirtual 276, 3) := by decide +kernel
theorem dX7_retell_7 : decode cX7_retell 7 = .ok (.iconst 0, 1) := by decide +kernel
theorem dX7_retell_8 : decode cX7_retell 8 = .ok (.istore_n 1, 1) := by decide +kernel
theorem dX7_retell_9 : decode cX7_retell 9 = .ok (.iload_n 1, 1) := by decide +kernel
theorem dX7_retell_10 : decode cX7_retell 10 = .ok (.aload_n 0, 1) := by decide +kernel
theorem dX7_retell_11 : decode cX7_retell 11 = .ok (.getfield 52, 3) := by decide +kernel
theorem dX7_retell_14 : decode cX7_retell 14 = .ok (.getfield 279, 3) := by decide +kernel
theorem dX7_retell_17 : decode cX7_retell 17 = .ok (.if_icmp .ge 68, 3) := by decide +kernel
theorem dX7_retell_20 : decode cX7_retell 20 = .ok (.aload_n 0, 1) := by decide +kernel
theorem dX7_retell_21 : decode cX7_retell 21 = .ok (.getfield 52, 3) := by decide +kernel
theorem dX7_retell_24 : decode cX7_retell 24 = .ok (.iload_n 1, 1) := by decide +kernel
theorem dX7_retell_25 : decode cX7_retell 25 = .ok (.invokevirtual 280, 3) := by decide +kernel
theorem dX7_retell_28 : decode cX7_retell 28 = .ok (.istore_n 2, 1) := by decide +kernel
theorem dX7_retell_29 : decode cX7_retell 29 = .ok (.aload_n 0, 1) := by decide +kernel
theorem dX7_retell_30 : decode cX7_retell 30 = .ok (.iload_n 2, 1) := by decide +kernel
theorem dX7_retell_31 : decode cX7_retell 31 = .ok (.invokestatic 283, 3) := by decide +kernel
theorem dX7_retell_34 : decode cX7_retell 34 = .ok (.invokevirtual 132, 3) := by decide +kernel
theorem dX7_retell_37 : decode cX7_retell 37 = .ok (.astore_n 3, 1) := by decide +kernel
theorem dX7_retell_38 : decode cX7_retell 38 = .ok (.aload_n 3, 1) := by decide +kernel
theorem dX7_retell_39 : decode cX7_retell 39 = .ok (.ifnonnull 6, 3) := by decide +kernel
theorem dX7_retell_42 : decode cX7_retell 42 = .ok (.goto 37, 3) := by decide +kernel
theorem dX7_retell_45 : decode cX7_retell 45 = .ok (.iload_n 2, 1) := by decide +kernel
theorem dX7_retell_46 : decode cX7_retell 46 = .ok (.invokestatic 286, 3) := by decide +kernel
theorem dX7_retell_49 : decode cX7_retell 49 = .ok (.ifCond .eq 18, 3) := by decide +kernel
theorem dX7_retell_52 : decode cX7_retell 52 = .ok (.aload_n 0, 1) := by decide +kernel
theorem dX7_retell_53 : decode cX7_retell 53 = .ok (.getfield 39, 3) := by decide +kernel
theorem dX7_retell_56 : decode cX7_retell 56 = .ok (.aload_n 3, 1) := by decide +kernel
theorem dX7_retell_57 : decode cX7_retell 57 = .ok (.iload_n 2, 1) := by decide +kernel
theorem dX7_retell_58 : decode cX7_retell 58 = .ok (.invokestatic 289, 3) := by decide +kernel
theorem dX7_retell_61 : decode cX7_retell 61 = .ok (.invokevirtual 292, 3) := by decide +kernel
theorem dX7_retell_64 : decode cX7_retell 64 = .ok (.goto 15, 3) := by decide +kernel
theorem dX7_retell_67 : decode cX7_retell 67 = .ok (.aload_n 0, 1) := by decide +kernel
theorem dX7_retell_68 : decode cX7_retell 68 = .ok (.getfield 39, 3) := by decide +kernel
theorem dX7_retell_71 : decode cX7_retell 71 = .ok (.aload_n 3, 1) := by decide +kernel
theorem dX7_retell_72 : decode cX7_retell 72 = .ok (.iload_n 2, 1) := by decide +kernel
theorem dX7_retell_73 : decode cX7_retell 73 = .ok (.invokestatic 289, 3) := by decide +kernel
theorem dX7_retell_76 : decode cX7_retell 76 = .ok (.invokevirtual 257, 3) := by decide +kernel
theorem dX7_retell_79 : decode cX7_retell 79 = .ok (.iinc 1 1, 3) := by decide +kernel
theorem dX7_retell_82 : decode cX7_retell 82 = .ok (.goto (-73), 3) := by decide +kernel
theorem dX7_retell_85 : decode cX7_retell 85 = .ok (.aload_n 0, 1) := by decide +kernel
theorem dX7_retell_86 : decode cX7_retell 86 = .ok (.getfield 39, 3) := by decide +kernel
theorem dX7_retell_89 : decode cX7_retell 89 = .ok (.aload_n 0, 1) := by decide +kernel
theorem dX7_retell_90 : decode cX7_retell 90 = .ok (.getfield 186, 3) := by decide +kernel
theorem dX7_retell_93 : decode cX7_retell 93 = .ok (.invokevirtual 197, 3) := by decide +kernel
theorem dX7_retell_96 : decode cX7_retell 96 = .ok (.return_, 1) := by decide +kernel
theorem dX8_init_0 : decode cX8_init 0 = .ok (.aload_n 0, 1) := by decide +kernel
theorem dX8_init_1 : decode cX8_init 1 = .ok (.invokespecial 1, 3) := by decide +kernel
theorem dX8_init_4 : decode cX8_init 4 = .ok (.aload_n 0, 1) := by decide +kernel
theorem dX8_init_5 : decode cX8_init 5 = .ok (.bipush 16, 2) := by decide +kernel
theorem dX8_init_7 : decode cX8_init 7 = .ok (.newarray .int, 2) := by decide +kernel
theorem dX8_init_9 : decode cX8_init 9 = .ok (.putfield 7, 3) := by decide +kernel
theorem dX8_init_12 : decode cX8_init 12 = .ok (.aload_n 0, 1) := by decide +kernel
theorem dX8_init_13 : decode cX8_init 13 = .ok (.bipush 16, 2) := by decide +kernel
theorem dX8_init_15 : decode cX8_init 15 = .ok (.newarray .int, 2) := by decide +kernel
theorem dX8_init_17 : decode cX8_init 17 = .ok (.putfield 13, 3) := by decide +kernel
theorem dX8_init_20 : decode cX8_init 20 = .ok (.aload_n 0, 1) := by decide +kernel
theorem dX8_init_21 : decode cX8_init 21 = .ok (.bipush 16, 2) := by decide +kernel
theorem dX8_init_23 : decode cX8_init 23 = .ok (.newarray .int, 2) := by decide +kernel
theorem dX8_init_25 : decode cX8_init 25 = .ok (.putfield 16, 3) := by decide +kernel
theorem dX8_init_28 : decode cX8_init 28 = .ok (.aload_n 0, 1) := by decide +kernel
theorem dX8_init_29 : decode cX8_init 29 = .ok (.bipush 16, 2) := by decide +kernel
theorem dX8_init_31 : decode cX8_init 31 = .ok (.newarray .int, 2) := by decide +kernel
theorem dX8_init_33 : decode cX8_init 33 = .ok (.putfield 19, 3) := by decide +kernel
theorem dX8_init_36 : decode cX8_init 36 = .ok (.aload_n 0, 1) := by decide +kernel
theorem dX8_init_37 : decode cX8_init 37 = .ok (.bipush 16, 2) := by decide +kernel
theorem dX8_init_39 : decode cX8_init 39 = .ok (.newarray .int, 2) := by decide +kernel
theorem dX8_init_41 : decode cX8_init 41 = .ok (.putfield 22, 3) := by decide +kernel
theorem dX8_init_44 : decode cX8_init 44 = .ok (.aload_n 0, 1) := by decide +kernel
theorem dX8_init_45 : decode cX8_init 45 = .ok (.bipush 16, 2) := by decide +kernel
theorem dX8_init_47 : decode cX8_init 47 = .ok (.newarray .boolean, 2) := by decide +kernel
theorem dX8_init_49 : decode cX8_init 49 = .ok (.putfield 25, 3) := by decide +kernel
theorem dX8_init_52 : decode cX8_init 52 = .ok (.aload_n 0, 1) := by decide +kernel
theorem dX8_init_53 : decode cX8_init 53 = .ok (.bipush 15, 2) := by decide +kernel
theorem dX8_init_55 : decode cX8_init 55 = .ok (.putfield 29, 3) := by decide +kernel
theorem dX8_init_58 : decode cX8_init 58 = .ok (.aload_n 0, 1) := by decide +kernel
theorem dX8_init_59 : decode cX8_init 59 = .ok (.iconst 3, 1) := by decide +kernel
theorem dX8_init_60 : decode cX8_init 60 = .ok (.newarray .int, 2) := by decide +kernel
theorem dX8_init_62 : decode cX8_init 62 = .ok (.putfield 33, 3) := by decide +kernel
theorem dX8_init_65 : decode cX8_init 65 = .ok (.aload_n 0, 1) := by decide +kernel
theorem dX8_init_66 : decode cX8_init 66 = .ok (.bipush 12, 2) := by decide +kernel
theorem dX8_init_68 : decode cX8_init 68 = .ok (.newarray .int, 2) := by decide +kernel
theorem dX8_init_70 : decode cX8_init 70 = .ok (.putfield 36, 3) := by decide +kernel
theorem dX8_init_73 : decode cX8_init 73 = .ok (.aload_n 0, 1) := by decide +kernel
theorem dX8_init_74 : decode cX8_init 74 = .ok (.bipush 12, 2) := by decide +kernel
theorem dX8_init_76 : decode cX8_init 76 = .ok (.newarray .int, 2) := by decide +kernel
theorem dX8_init_78 : decode cX8_init 78 = .ok (.putfield 39, 3) := by decide +kernel
theorem dX8_init_81 : decode cX8_init 81 = .ok (.aload_n 0, 1) := by decide +kernel
theorem dX8_init_82 : decode cX8_init 82 = .ok (.bipush 12, 2) := by decide +kernel
theorem dX8_init_84 : decode cX8_init 84 = .ok (.newarray .int, 2) := by decide +kernel
theorem dX8_init_86 : decode cX8_init 86 = .ok (.putfield 42, 3) := by decide +kernel
theorem dX8_init_89 : decode cX8_init 89 = .ok (.aload_n 0, 1) := by decide +kernel
theorem dX8_init_90 : decode cX8_init 90 = .ok (.sipush 192, 3) := by decide +kernel
theorem dX8_init_93 : decode cX8_init 93 = .ok (.newarray .int, 2) := by decide +kernel
theorem dX8_init_95 : decode cX8_init 95 = .ok (.putfield 45, 3) := by decide +kernel
theorem dX8_init_98 : decode cX8_init 98 = .ok (.aload_n 0, 1) := by decide +kernel
theorem dX8_init_99 : decode cX8_init 99 = .ok (.bipush 12, 2) := by decide +kernel
theorem dX8_init_101 : decode cX8_init 101 = .ok (.newarray .int, 2) := by decide +kernel
theorem dX8_init_103 : decode cX8_init 103 = .ok (.putfield 48, 3) := by decide +kernel
theorem dX8_init_106 : decode cX8_init 106 = .ok (.aload_n 0, 1) := by decide +kernel
theorem dX8_init_107 : decode cX8_init 107 = .ok (.bipush 12, 2) := by decide +kernel
theorem dX8_init_109 : decode cX8_init 109 = .ok (.newarray .int, 2) := by decide +kernel
theorem dX8_init_111 : decode cX8_init 111 = .ok (.putfield 51, 3) := by decide +kernel
theorem dX8_init_114 : decode cX8_init 114 = .ok (.aload_n 0, 1) := by decide +kernel
theorem dX8_init_115 : decode cX8_init 115 = .ok (.bipush 12, 2) := by decide +kernel
theorem dX8_init_117 : decode cX8_init 117 = .ok (.newarray .boolean, 2) := by decide +kernel
theorem dX8_init_119 : decode cX8_init 119 = .ok (.putfield 54, 3) := by decide +kernel
theorem dX8_init_122 : decode cX8_init 122 = .ok (.aload_n 0, 1) := by decide +kernel
theorem dX8_init_123 : decode cX8_init 123 = .ok (.bipush 12, 2) := by decide +kernel
theorem dX8_init_125 : decode cX8_init 125 = .ok (.newarray .int, 2) := by decide +kernel
theorem dX8_init_127 : decode cX8_init 127 = .ok (.putfield 57, 3) := by decide +kernel
theorem dX8_init_130 : decode cX8_init 130 = .ok (.aload_n 0, 1) := by decide +kernel
theorem dX8_init_131 : decode cX8_init 131 = .ok (.bipush 12, 2) := by decide +kernel
theorem dX8_init_133 : decode cX8_init 133 = .ok (.newarray .int, 2) := by decide +kernel
theorem dX8_init_135 : decode cX8_init 135 = .ok (.putfield 60, 3) := by decide +kernel
theorem dX8_init_138 : decode cX8_init 138 = .ok (.aload_n 0, 1) := by decide +kernel
theorem dX8_init_139 : decode cX8_init 139 = .ok (.bipush 12, 2) := by decide +kernel
theorem dX8_init_141 : decode cX8_init 141 = .ok (.newarray .int, 2) := by decide +kernel
theorem dX8_init_143 : decode cX8_init 143 = .ok (.putfield 63, 3) := by decide +kernel
theorem dX8_init_146 : decode cX8_init 146 = .ok (.aload_n 0, 1) := by decide +kernel
theorem dX8_init_147 : decode cX8_init 147 = .ok (.sipush 1024, 3) := by decide +kernel
theorem dX8_init_150 : decode cX8_init 150 = .ok (.newarray .int, 2) := by decide +kernel
theorem dX8_init_152 : decode cX8_init 152 = .ok (.putfield 66, 3) := by decide +kernel
theorem dX8_init_155 : decode cX8_init 155 = .ok (.aload_n 0, 1) := by decide +kernel
theorem dX8_init_156 : decode cX8_init 156 = .ok (.sipush 1024, 3) := by decide +kernel
theorem dX8_init_159 : decode cX8_init 159 = .ok (.newarray .int, 2) := by decide +kernel
theorem dX8_init_161 : decode cX8_init 161 = .ok (.putfield 69, 3) := by decide +kernel
theorem dX8_init_164 : decode cX8_init 164 = .ok (.aload_n 0, 1) := by decide +kernel
theorem dX8_init_165 : decode cX8_init 165 = .ok (.bipush 16, 2) := by decide +kernel
theorem dX8_init_167 : decode cX8_init 167 = .ok (.newarray .int, 2) := by decide +kernel
theorem dX8_init_169 : decode cX8_init 169 = .ok (.putfield 72, 3) := by decide +kernel
theorem dX8_init_172 : decode cX8_init 172 = .ok (.aload_n 0, 1) := by decide +kernel
theorem dX8_init_173 : decode cX8_init 173 = .ok (.bipush 16, 2) := by decide +kernel
theorem dX8_init_175 : decode cX8_init 175 = .ok (.newarray .int, 2) := by decide +kernel
theorem dX8_init_177 : decode cX8_init 177 = .ok (.putfield 75, 3) := by decide +kernel
theorem dX8_init_180 : decode cX8_init 180 = .ok (.aload_n 0, 1) := by decide +kernel
theorem dX8_init_181 : decode cX8_init 181 = .ok (.bipush 16, 2) := by decide +kernel
theorem dX8_init_183 : decode cX8_init 183 = .ok (.newarray .int, 2) := by decide +kernel
theorem dX8_init_185 : decode cX8_init 185 = .ok (.putfield 78, 3) := by decide +kernel
theorem dX8_init_188 : decode cX8_init 188 = .ok (.iconst 0, 1) := by decide +kernel
theorem dX8_init_189 : decode cX8_init 189 = .ok (.istore_n 1, 1) := by decide +kernel
theorem dX8_init_190 : decode cX8_init 190 = .ok (.iload_n 1, 1) := by decide +kernel
theorem dX8_init_191 : decode cX8_init 191 = .ok (.iconst 3, 1) := by decide +kernel
theorem dX8_init_192 : decode cX8_init 192 = .ok (.if_icmp .ge 18, 3) := by decide +kernel
theorem dX8_init_195 : decode cX8_init 195 = .ok (.aload_n 0, 1) := by decide +kernel
theorem dX8_init_196 : decode cX8_init 196 = .ok (.getfield 33, 3) := by decide +kernel
theorem dX8_init_199 : decode cX8_init 199 = .ok (.iload_n 1, 1) := by decide +kernel
theorem dX8_init_200 : decode cX8_init 200 = .ok (.sipush 5000, 3) := by decide +kernel
theorem dX8_init_203 : decode cX8_init 203 = .ok (.iastore, 1) := by decide +kernel
theorem dX8_init_204 : decode cX8_init 204 = .ok (.iinc 1 1, 3) := by decide +kernel
theorem dX8_init_207 : decode cX8_init 207 = .ok (.goto (-17), 3) := by decide +kernel
theorem dX8_init_210 : decode cX8_init 210 = .ok (.return_, 1) := by decide +kernel
theorem dX8_thrown_0 : decode cX8_thrown 0 = .ok (.aload_n 0, 1) := by decide +kernel
theorem dX8_thrown_1 : decode cX8_thrown 1 = .ok (.getfield 81, 3) := by decide +kernel
theorem dX8_thrown_4 : decode cX8_thrown 4 = .ok (.ireturn, 1) := by decide +kernel
theorem dX8_can_0 : decode cX8_can 0 = .ok (.aload_n 0, 1) := by decide +kernel
theorem dX8_can_1 : decode cX8_can 1 = .ok (.iload_n 1, 1) := by decide +kernel
theorem dX8_can_2 : decode cX8_can 2 = .ok (.putfield 81, 3) := by decide +kernel
theorem dX8_can_5 : decode cX8_can 5 = .ok (.iload_n 1, 1) := by decide +kernel
theorem dX8_can_6 : decode cX8_can 6 = .ok (.ifCond .ne 7, 3) := by decide +kernel
theorem dX8_can_9 : decode cX8_can 9 = .ok (.iconst 1, 1) := by decide +kernel
theorem dX8_can_10 : decode cX8_can 10 = .ok (.goto 4, 3) := by decide +kernel
theorem dX8_can_13 : decode cX8_can 13 = .ok (.iconst 0, 1) := by decide +kernel
theorem dX8_can_14 : decode cX8_can 14 = .ok (.ireturn, 1) := by decide +kernel
theorem dX8_isIn_0 : decode cX8_isIn 0 = .ok (.iload_n 0, 1) := by decide +kernel
theorem dX8_isIn_1 : decode cX8_isIn 1 = .ok (.iload_n 1, 1) := by decide +kernel
theorem dX8_isIn_2 : decode cX8_isIn 2 = .ok (.if_icmp .lt 12, 3) := by decide +kernel
theorem dX8_isIn_5 : decode cX8_isIn 5 = .ok (.iload_n 0, 1) := by decide +kernel
theorem dX8_isIn_6 : decode cX8_isIn 6 = .ok (.iload_n 2, 1) := by decide +kernel
theorem dX8_isIn_7 : decode cX8_isIn 7 = .ok (.if_icmp .gt 7, 3) := by decide +kernel
theorem dX8_isIn_10 : decode cX8_isIn 10 = .ok (.iconst 1, 1) := by decide +kernel
theorem dX8_isIn_11 : decode cX8_isIn 11 = .ok (.goto 4, 3) := by decide +kernel
theorem dX8_isIn_14 : decode cX8_isIn 14 = .ok (.iconst 0, 1) := by decide +kernel
theorem dX8_isIn_15 : decode cX8_isIn 15 = .ok (.ireturn, 1) := by decide +kernel
theorem dX8_isLamp_0 : decode cX8_isLamp 0 = .ok (.iload_n 1, 1) := by decide +kernel
theorem dX8_isLamp_1 : decode cX8_isLamp 1 = .ok (.iconst 0, 1) := by decide +kernel
theorem dX8_isLamp_2 : decode cX8_isLamp 2 = .ok (.aload_n 0, 1) := by decide +kernel
theorem dX8_isLamp_3 : decode cX8_isLamp 3 = .ok (.getfield 84, 3) := by decide +kernel
theorem dX8_isLamp_6 : decode cX8_isLamp 6 = .ok (.iconst 1, 1) := by decide +kernel
theorem dX8_isLamp_7 : decode cX8_isLamp 7 = .ok (.isub, 1) := by decide +kernel
theorem dX8_isLamp_8 : decode cX8_isLamp 8 = .ok (.invokestatic 87, 3) := by decide +kernel
theorem dX8_isLamp_11 : decode cX8_isLamp 11 = .ok (.ireturn, 1) := by decide +kernel
theorem dX8_isCue_0 : decode cX8_isCue 0 = .ok (.iload_n 1, 1) := by decide +kernel
theorem dX8_isCue_1 : decode cX8_isCue 1 = .ok (.iconst 0, 1) := by decide +kernel
theorem dX8_isCue_2 : decode cX8_isCue 2 = .ok (.aload_n 0, 1) := by decide +kernel
theorem dX8_isCue_3 : decode cX8_isCue 3 = .ok (.getfield 91, 3) := by decide +kernel
theorem dX8_isCue_6 : decode cX8_isCue 6 = .ok (.iconst 1, 1) := by decide +kernel
theorem dX8_isCue_7 : decode cX8_isCue 7 = .ok (.isub, 1) := by decide +kernel
theorem dX8_isCue_8 : decode cX8_isCue 8 = .ok (.invokestatic 87, 3) := by decide +kernel
theorem dX8_isCue_11 : decode cX8_isCue 11 = .ok (.ireturn, 1) := by decide +kernel
theorem dX8_isPhase_0 : decode cX8_isPhase 0 = .ok (.iload_n 0, 1) := by decide +kernel
theorem dX8_isPhase_1 : decode cX8_isPhase 1 = .ok (.iconst 0, 1) := by decide +kernel
theorem dX8_isPhase_2 : decode cX8_isPhase 2 = .ok (.iconst 2, 1) := by decide +kernel
theorem dX8_isPhase_3 : decode cX8_isPhase 3 = .ok (.invokestatic 87, 3) := by decide +kernel
theorem dX8_isPhase_6 : decode cX8_isPhase 6 = .ok (.ireturn, 1) := by decide +kernel
theorem dX8_size_0 : decode cX8_size 0 = .ok (.iload_n 0, 1) := by decide +kernel
theorem dX8_size_1 : decode cX8_size 1 = .ok (.ifCond .ge 8, 3) := by decide +kernel
theorem dX8_size_4 : decode cX8_size 4 = .ok (.iload_n 0, 1) := by decide +kernel
theorem dX8_size_5 : decode cX8_size 5 = .ok (.ineg, 1) := by decide +kernel
theorem dX8_size_6 : decode cX8_size 6 = .ok (.goto 4, 3) := by decide +kernel
theorem dX8_size_9 : decode cX8_size 9 = .ok (.iload_n 0, 1) := by decide +kernel
theorem dX8_size_10 : decode cX8_size 10 = .ok (.ireturn, 1) := by decide +kernel
theorem dX8_lamp_0 : decode cX8_lamp 0 = .ok (.iload_n 1, 1) := by decide +kernel
theorem dX8_lamp_1 : decode cX8_lamp 1 = .ok (.iconst 0, 1) := by decide +kernel
theorem dX8_lamp_2 : decode cX8_lamp 2 = .ok (.iconst 3, 1) := by decide +kernel
theorem dX8_lamp_3 : decode cX8_lamp 3 = .ok (.invokestatic 87, 3) := by decide +kernel
theorem dX8_lamp_6 : decode cX8_lamp 6 = .ok (.ifCond .eq 57, 3) := by decide +kernel
theorem dX8_lamp_9 : decode cX8_lamp 9 = .ok (.iload_n 2, 1) := by decide +kernel
theorem dX8_lamp_10 : decode cX8_lamp 10 = .ok (.iconst 0, 1) := by decide +kernel
theorem dX8_lamp_11 : decode cX8_lamp 11 = .ok (.bipush 9, 2) := by decide +kernel
theorem dX8_lamp_13 : decode cX8_lamp 13 = .ok (.invokestatic 87, 3) := by decide +kernel
theorem dX8_lamp_16 : decode cX8_lamp 16 = .ok (.ifCond .eq 47, 3) := by decide +kernel
theorem dX8_lamp_19 : decode cX8_lamp 19 = .ok (.iload_n 3, 1) := by decide +kernel
theorem dX8_lamp_20 : decode cX8_lamp 20 = .ok (.iconst 0, 1) := by decide +kernel
theorem dX8_lamp_21 : decode cX8_lamp 21 = .ok (.bipush 55, 2) := by decide +kernel
theorem dX8_lamp_23 : decode cX8_lamp 23 = .ok (.invokestatic 87, 3) := by decide +kernel
theorem dX8_lamp_26 : decode cX8_lamp 26 = .ok (.ifCond .eq 37, 3) := by decide +kernel
theorem dX8_lamp_29 : decode cX8_lamp 29 = .ok (.iload_n 3, 1) := by decide +kernel
theorem dX8_lamp_30 : decode cX8_lamp 30 = .ok (.bipush 10, 2) := by decide +kernel
theorem dX8_lamp_32 : decode cX8_lamp 32 = .ok (.irem, 1) := by decide +kernel
theorem dX8_lamp_33 : decode cX8_lamp 33 = .ok (.bipush 6, 2) := by decide +kernel
theorem dX8_lamp_35 : decode cX8_lamp 35 = .ok (.if_icmp .ge 28, 3) := by decide +kernel
theorem dX8_lamp_38 : decode cX8_lamp 38 = .ok (.iload 4, 2) := by decide +kernel
theorem dX8_lamp_40 : decode cX8_lamp 40 = .ok (.bipush 100, 2) := by decide +kernel
theorem dX8_lamp_42 : decode cX8_lamp 42 = .ok (.sipush 2000, 3) := by decide +kernel
theorem dX8_lamp_45 : decode cX8_lamp 45 = .ok (.invokestatic 87, 3) := by decide +kernel
theorem dX8_lamp_48 : decode cX8_lamp 48 = .ok (.ifCond .eq 15, 3) := by decide +kernel
theorem dX8_lamp_51 : decode cX8_lamp 51 = .ok (.iload 5, 2) := by decide +kernel
theorem dX8_lamp_53 : decode cX8_lamp 53 = .ok (.invokestatic 94, 3) := by decide +kernel
theorem dX8_lamp_56 : decode cX8_lamp 56 = .ok (.ifCond .eq 7, 3) := by decide +kernel
theorem dX8_lamp_59 : decode cX8_lamp 59 = .ok (.iconst 1, 1) := by decide +kernel
theorem dX8_lamp_60 : decode cX8_lamp 60 = .ok (.goto 4, 3) := by decide +kernel
theorem dX8_lamp_63 : decode cX8_lamp 63 = .ok (.iconst 0, 1) := by decide +kernel
theorem dX8_lamp_64 : decode cX8_lamp 64 = .ok (.istore 6, 2) := by decide +kernel
theorem dX8_lamp_66 : decode cX8_lamp 66 = .ok (.aload_n 0, 1) := by decide +kernel
theorem dX8_lamp_67 : decode cX8_lamp 67 = .ok (.iload 6, 2) := by decide +kernel
theorem dX8_lamp_69 : decode cX8_lamp 69 = .ok (.ifCond .ne 7, 3) := by decide +kernel
theorem dX8_lamp_72 : decode cX8_lamp 72 = .ok (.iconst 1, 1) := by decide +kernel
theorem dX8_lamp_73 : decode cX8_lamp 73 = .ok (.goto 17, 3) := by decide +kernel
theorem dX8_lamp_76 : decode cX8_lamp 76 = .ok (.aload_n 0, 1) := by decide +kernel
theorem dX8_lamp_77 : decode cX8_lamp 77 = .ok (.getfield 84, 3) := by decide +kernel
theorem dX8_lamp_80 : decode cX8_lamp 80 = .ok (.bipush 16, 2) := by decide +kernel
theorem dX8_lamp_82 : decode cX8_lamp 82 = .ok (.if_icmp .ne 7, 3) := by decide +kernel
theorem dX8_lamp_85 : decode cX8_lamp 85 = .ok (.iconst 2, 1) := by decide +kernel
theorem dX8_lamp_86 : decode cX8_lamp 86 = .ok (.goto 4, 3) := by decide +kernel
theorem dX8_lamp_89 : decode cX8_lamp 89 = .ok (.iconst 0, 1) := by decide +kernel
theorem dX8_lamp_90 : decode cX8_lamp 90 = .ok (.invokevirtual 98, 3) := by decide +kernel
theorem dX8_lamp_93 : decode cX8_lamp 93 = .ok (.ifCond .ne 5, 3) := by decide +kernel
theorem dX8_lamp_96 : decode cX8_lamp 96 = .ok (.iconst 0, 1) := by decide +kernel
theorem dX8_lamp_97 : decode cX8_lamp 97 = .ok (.ireturn, 1) := by decide +kernel
theorem dX8_lamp_98 : decode cX8_lamp 98 = .ok (.aload_n 0, 1) := by decide +kernel
theorem dX8_lamp_99 : decode cX8_lamp 99 = .ok (.getfield 7, 3) := by decide +kernel
theorem dX8_lamp_102 : decode cX8_lamp 102 = .ok (.aload_n 0, 1) := by decide +kernel
theorem dX8_lamp_103 : decode cX8_lamp 103 = .ok (.getfield 84, 3) := by decide +kernel
theorem dX8_lamp_106 : decode cX8_lamp 106 = .ok (.iload_n 1, 1) := by decide +kernel
theorem dX8_lamp_107 : decode cX8_lamp 107 = .ok (.iastore, 1) := by decide +kernel
theorem dX8_lamp_108 : decode cX8_lamp 108 = .ok (.aload_n 0, 1) := by decide +kernel
theorem dX8_lamp_109 : decode cX8_lamp 109 = .ok (.getfield 13, 3) := by decide +kernel
theorem dX8_lamp_112 : decode cX8_lamp 112 = .ok (.aload_n 0, 1) := by decide +kernel
theorem dX8_lamp_113 : decode cX8_lamp 113 = .ok (.getfield 84, 3) := by decide +kernel
theorem dX8_lamp_116 : decode cX8_lamp 116 = .ok (.iload_n 2, 1) := by decide +kernel
theorem dX8_lamp_117 : decode cX8_lamp 117 = .ok (.iastore, 1) := by decide +kernel
theorem dX8_lamp_118 : decode cX8_lamp 118 = .ok (.aload_n 0, 1) := by decide +kernel
theorem dX8_lamp_119 : decode cX8_lamp 119 = .ok (.getfield 16, 3) := by decide +kernel
theorem dX8_lamp_122 : decode cX8_lamp 122 = .ok (.aload_n 0, 1) := by decide +kernel
theorem dX8_lamp_123 : decode cX8_lamp 123 = .ok (.getfield 84, 3) := by decide +kernel
theorem dX8_lamp_126 : decode cX8_lamp 126 = .ok (.iload_n 3, 1) := by decide +kernel
theorem dX8_lamp_127 : decode cX8_lamp 127 = .ok (.iastore, 1) := by decide +kernel
theorem dX8_lamp_128 : decode cX8_lamp 128 = .ok (.aload_n 0, 1) := by decide +kernel
theorem dX8_lamp_129 : decode cX8_lamp 129 = .ok (.getfield 19, 3) := by decide +kernel
theorem dX8_lamp_132 : decode cX8_lamp 132 = .ok (.aload_n 0, 1) := by decide +kernel
theorem dX8_lamp_133 : decode cX8_lamp 133 = .ok (.getfield 84, 3) := by decide +kernel
theorem dX8_lamp_136 : decode cX8_lamp 136 = .ok (.iload 4, 2) := by decide +kernel
theorem dX8_lamp_138 : decode cX8_lamp 138 = .ok (.iastore, 1) := by decide +kernel
theorem dX8_lamp_139 : decode cX8_lamp 139 = .ok (.aload_n 0, 1) := by decide +kernel
theorem dX8_lamp_140 : decode cX8_lamp 140 = .ok (.getfield 22, 3) := by decide +kernel
theorem dX8_lamp_143 : decode cX8_lamp 143 = .ok (.aload_n 0, 1) := by decide +kernel
theorem dX8_lamp_144 : decode cX8_lamp 144 = .ok (.getfield 84, 3) := by decide +kernel
theorem dX8_lamp_147 : decode cX8_lamp 147 = .ok (.iload 5, 2) := by decide +kernel
theorem dX8_lamp_149 : decode cX8_lamp 149 = .ok (.iastore, 1) := by decide +kernel
theorem dX8_lamp_150 : decode cX8_lamp 150 = .ok (.aload_n 0, 1) := by decide +kernel
theorem dX8_lamp_151 : decode cX8_lamp 151 = .ok (.dup, 1) := by decide +kernel
theorem dX8_lamp_152 : decode cX8_lamp 152 = .ok (.getfield 84, 3) := by decide +kernel
theorem dX8_lamp_155 : decode cX8_lamp 155 = .ok (.iconst 1, 1) := by decide +kernel
theorem dX8_lamp_156 : decode cX8_lamp 156 = .ok (.iadd, 1) := by decide +kernel
theorem dX8_lamp_157 : decode cX8_lamp 157 = .ok (.putfield 84, 3) := by decide +kernel
theorem dX8_lamp_160 : decode cX8_lamp 160 = .ok (.aload_n 0, 1) := by decide +kernel
theorem dX8_lamp_161 : decode cX8_lamp 161 = .ok (.getfield 84, 3) := by decide +kernel
theorem dX8_lamp_164 : decode cX8_lamp 164 = .ok (.iconst 1, 1) := by decide +kernel
theorem dX8_lamp_165 : decode cX8_lamp 165 = .ok (.isub, 1) := by decide +kernel
theorem dX8_lamp_166 : decode cX8_lamp 166 = .ok (.ireturn, 1) := by decide +kernel
theorem dX8_isUsable_0 : decode cX8_isUsable 0 = .ok (.aload_n 0, 1) := by decide +kernel
theorem dX8_isUsable_1 : decode cX8_isUsable 1 = .ok (.getfield 25, 3) := by decide +kernel
theorem dX8_isUsable_4 : decode cX8_isUsable 4 = .ok (.iload_n 1, 1) := by decide +kernel
theorem dX8_isUsable_5 : decode cX8_isUsable 5 = .ok (.baload, 1) := by decide +kernel
theorem dX8_isUsable_6 : decode cX8_isUsable 6 = .ok (.ifCond .ne 24, 3) := by decide +kernel
theorem dX8_isUsable_9 : decode cX8_isUsable 9 = .ok (.aload_n 0, 1) := by decide +kernel
theorem dX8_isUsable_10 : decode cX8_isUsable 10 = .ok (.getfield 29, 3) := by decide +kernel
theorem dX8_isUsable_13 : decode cX8_isUsable 13 = .ok (.aload_n 0, 1) := by decide +kernel
theorem dX8_isUsable_14 : decode cX8_isUsable 14 = .ok (.getfield 7, 3) := by decide +kernel
theorem dX8_isUsable_17 : decode cX8_isUsable 17 = .ok (.iload_n 1, 1) := by decide +kernel
theorem dX8_isUsable_18 : decode cX8_isUsable 18 = .ok (.iaload, 1) := by decide +kernel
theorem dX8_isUsable_19 : decode cX8_isUsable 19 = .ok (.ishr, 1) := by decide +kernel
theorem dX8_isUsable_20 : decode cX8_isUsable 20 = .ok (.iconst 1, 1) := by decide +kernel
theorem dX8_isUsable_21 : decode cX8_isUsable 21 = .ok (.iand, 1) := by decide +kernel
theorem dX8_isUsable_22 : decode cX8_isUsable 22 = .ok (.iconst 1, 1) := by decide +kernel
theorem dX8_isUsable_23 : decode cX8_isUsable 23 = .ok (.if_icmp .ne 7, 3) := by decide +kernel
theorem dX8_isUsable_26 : decode cX8_isUsable 26 = .ok (.iconst 1, 1) := by decide +kernel
theorem dX8_isUsable_27 : decode cX8_isUsable 27 = .ok (.goto 4, 3) := by decide +kernel
theorem dX8_isUsable_30 : decode cX8_isUsable 30 = .ok (.iconst 0, 1) := by decide +kernel
theorem dX8_isUsable_31 : decode cX8_isUsable 31 = .ok (.ireturn, 1) := by decide +kernel
theorem dX8_die_0 : decode cX8_die 0 = .ok (.aload_n 0, 1) := by decide +kernel
theorem dX8_die_1 : decode cX8_die 1 = .ok (.aload_n 0, 1) := by decide +kernel
theorem dX8_die_2 : decode cX8_die 2 = .ok (.iload_n 1, 1) := by decide +kernel
theorem dX8_die_3 : decode cX8_die 3 = .ok (.invokevirtual 101, 3) := by decide +kernel
theorem dX8_die_6 : decode cX8_die 6 = .ok (.ifCond .eq 7, 3) := by decide +kernel
theorem dX8_die_9 : decode cX8_die 9 = .ok (.iconst 0, 1) := by decide +kernel
theorem dX8_die_10 : decode cX8_die 10 = .ok (.goto 4, 3) := by decide +kernel
theorem dX8_die_13 : decode cX8_die 13 = .ok (.iconst 1, 1) := by decide +kernel
theorem dX8_die_14 : decode cX8_die 14 = .ok (.invokevirtual 98, 3) := by decide +kernel
theorem dX8_die_17 : decode cX8_die 17 = .ok (.ifCond .ne 5, 3) := by decide +kernel
theorem dX8_die_20 : decode cX8_die 20 = .ok (.iconst 0, 1) := by decide +kernel
theorem dX8_die_21 : decode cX8_die 21 = .ok (.ireturn, 1) := by decide +kernel
theorem dX8_die_22 : decode cX8_die 22 = .ok (.aload_n 0, 1) := by decide +kernel
theorem dX8_die_23 : decode cX8_die 23 = .ok (.getfield 25, 3) := by decide +kernel
theorem dX8_die_26 : decode cX8_die 26 = .ok (.iload_n 1, 1) := by decide +kernel
theorem dX8_die_27 : decode cX8_die 27 = .ok (.aload_n 0, 1) := by decide +kernel
theorem dX8_die_28 : decode cX8_die 28 = .ok (.getfield 25, 3) := by decide +kernel
theorem dX8_die_31 : decode cX8_die 31 = .ok (.iload_n 1, 1) := by decide +kernel
theorem dX8_die_32 : decode cX8_die 32 = .ok (.baload, 1) := by decide +kernel
theorem dX8_die_33 : decode cX8_die 33 = .ok (.ifCond .ne 7, 3) := by decide +kernel
theorem dX8_die_36 : decode cX8_die 36 = .ok (.iconst 1, 1) := by decide +kernel
theorem dX8_die_37 : decode cX8_die 37 = .ok (.goto 4, 3) := by decide +kernel
theorem dX8_die_40 : decode cX8_die 40 = .ok (.iconst 0, 1) := by decide +kernel
theorem dX8_die_41 : decode cX8_die 41 = .ok (.bastore, 1) := by decide +kernel
theorem dX8_die_42 : decode cX8_die 42 = .ok (.aload_n 0, 1) := by decide +kernel
theorem dX8_die_43 : decode cX8_die 43 = .ok (.getfield 25, 3) := by decide +kernel
theorem dX8_die_46 : decode cX8_die 46 = .ok (.iload_n 1, 1) := by decide +kernel
theorem dX8_die_47 : decode cX8_die 47 = .ok (.baload, 1) := by decide +kernel
theorem dX8_die_48 : decode cX8_die 48 = .ok (.ireturn, 1) := by decide +kernel
theorem dX8_house_0 : decode cX8_house 0 = .ok (.aload_n 0, 1) := by decide +kernel
theorem dX8_house_1 : decode cX8_house 1 = .ok (.iload_n 1, 1) := by decide +kernel
theorem dX8_house_2 : decode cX8_house 2 = .ok (.iconst 0, 1) := by decide +kernel
theorem dX8_house_3 : decode cX8_house 3 = .ok (.bipush 15, 2) := by decide +kernel
theorem dX8_house_5 : decode cX8_house 5 = .ok (.invokestatic 87, 3) := by decide +kernel
theorem dX8_house_8 : decode cX8_house 8 = .ok (.ifCond .eq 7, 3) := by decide +kernel
theorem dX8_house_11 : decode cX8_house 11 = .ok (.iconst 0, 1) := by decide +kernel
theorem dX8_house_12 : decode cX8_house 12 = .ok (.goto 4, 3) := by decide +kernel
theorem dX8_house_15 : decode cX8_house 15 = .ok (.iconst 1, 1) := by decide +kernel
theorem dX8_house_16 : decode cX8_house 16 = .ok (.invokevirtual 98, 3) := by decide +kernel
theorem dX8_house_19 : decode cX8_house 19 = .ok (.ifCond .ne 5, 3) := by decide +kernel
theorem dX8_house_22 : decode cX8_house 22 = .ok (.iconst 0, 1) := by decide +kernel
theorem dX8_house_23 : decode cX8_house 23 = .ok (.ireturn, 1) := by decide +kernel
theorem dX8_house_24 : decode cX8_house 24 = .ok (.aload_n 0, 1) := by decide +kernel
theorem dX8_house_25 : decode cX8_house 25 = .ok (.iload_n 1, 1) := by decide +kernel
theorem dX8_house_26 : decode cX8_house 26 = .ok (.putfield 29, 3) := by decide +kernel
theorem dX8_house_29 : decode cX8_house 29 = .ok (.iconst 0, 1) := by decide +kernel
theorem dX8_house_30 : decode cX8_house 30 = .ok (.istore_n 2, 1) := by decide +kernel
theorem dX8_house_31 : decode cX8_house 31 = .ok (.iconst 0, 1) := by decide +kernel
theorem dX8_house_32 : decode cX8_house 32 = .ok (.istore_n 3, 1) := by decide +kernel
theorem dX8_house_33 : decode cX8_house 33 = .ok (.iload_n 3, 1) := by decide +kernel
theorem dX8_house_34 : decode cX8_house 34 = .ok (.aload_n 0, 1) := by decide +kernel
theorem dX8_house_35 : decode cX8_house 35 = .ok (.getfield 84, 3) := by decide +kernel
theorem dX8_house_38 : decode cX8_house 38 = .ok (.if_icmp .ge 25, 3) := by decide +kernel
theorem dX8_house_41 : decode cX8_house 41 = .ok (.iload_n 2, 1) := by decide +kernel
theorem dX8_house_42 : decode cX8_house 42 = .ok (.aload_n 0, 1) := by decide +kernel
theorem dX8_house_43 : decode cX8_house 43 = .ok (.iload_n 3, 1) := by decide +kernel
theorem dX8_house_44 : decode cX8_house 44 = .ok (.invokevirtual 104, 3) := by decide +kernel
theorem dX8_house_47 : decode cX8_house 47 = .ok (.ifCond .eq 7, 3) := by decide +kernel
theorem dX8_house_50 : decode cX8_house 50 = .ok (.iconst 1, 1) := by decide +kernel
theorem dX8_house_51 : decode cX8_house 51 = .ok (.goto 4, 3) := by decide +kernel
theorem dX8_house_54 : decode cX8_house 54 = .ok (.iconst 0, 1) := by decide +kernel
theorem dX8_house_55 : decode cX8_house 55 = .ok (.iadd, 1) := by decide +kernel
theorem dX8_house_56 : decode cX8_house 56 = .ok (.istore_n 2, 1) := by decide +kernel
theorem dX8_house_57 : decode cX8_house 57 = .ok (.iinc 3 1, 3) := by decide +kernel
theorem dX8_house_60 : decode cX8_house 60 = .ok (.goto (-27), 3) := by decide +kernel
theorem dX8_house_63 : decode cX8_house 63 = .ok (.iload_n 2, 1) := by decide +kernel
theorem dX8_house_64 : decode cX8_house 64 = .ok (.ireturn, 1) := by decide +kernel
theorem dX8_power_0 : decode cX8_power 0 = .ok (.aload_n 0, 1) := by decide +kernel
theorem dX8_power_1 : decode cX8_power 1 = .ok (.iload_n 1, 1) := by decide +kernel
theorem dX8_power_2 : decode cX8_power 2 = .ok (.invokestatic 94, 3) := by decide +kernel
theorem dX8_power_5 : decode cX8_power 5 = .ok (.ifCond .ne 7, 3) := by decide +kernel
theorem dX8_power_8 : decode cX8_power 8 = .ok (.iconst 1, 1) := by decide +kernel
theorem dX8_power_9 : decode cX8_power 9 = .ok (.goto 19, 3) := by decide +kernel
theorem dX8_power_12 : decode cX8_power 12 = .ok (.iload_n 2, 1) := by decide +kernel
theorem dX8_power_13 : decode cX8_power 13 = .ok (.iconst 0, 1) := by decide +kernel
theorem dX8_power_14 : decode cX8_power 14 = .ok (.sipush 20000, 3) := by decide +kernel
theorem dX8_power_17 : decode cX8_power 17 = .ok (.invokestatic 87, 3) := by decide +kernel
theorem dX8_power_20 : decode cX8_power 20 = .ok (.ifCond .eq 7, 3) := by decide +kernel
theorem dX8_power_23 : decode cX8_power 23 = .ok (.iconst 0, 1) := by decide +kernel
theorem dX8_power_24 : decode cX8_power 24 = .ok (.goto 4, 3) := by decide +kernel
theorem dX8_power_27 : decode cX8_power 27 = .ok (.iconst 2, 1) := by decide +kernel
theorem dX8_power_28 : decode cX8_power 28 = .ok (.invokevirtual 98, 3) := by decide +kernel
theorem dX8_power_31 : decode cX8_power 31 = .ok (.ifCond .ne 5, 3) := by decide +kernel
theorem dX8_power_34 : decode cX8_power 34 = .ok (.iconst 0, 1) := by decide +kernel
theorem dX8_power_35 : decode cX8_power 35 = .ok (.ireturn, 1) := by decide +kernel
theorem dX8_power_36 : decode cX8_power 36 = .ok (.aload_n 0, 1) := by decide +kernel
theorem dX8_power_37 : decode cX8_power 37 = .ok (.getfield 33, 3) := by decide +kernel
theorem dX8_power_40 : decode cX8_power 40 = .ok (.iload_n 1, 1) := by decide +kernel
theorem dX8_power_41 : decode cX8_power 41 = .ok (.iaload, 1) := by decide +kernel
theorem dX8_power_42 : decode cX8_power 42 = .ok (.istore_n 3, 1) := by decide +kernel
theorem dX8_power_43 : decode cX8_power 43 = .ok (.aload_n 0, 1) := by decide +kernel
theorem dX8_power_44 : decode cX8_power 44 = .ok (.getfield 33, 3) := by decide +kernel
theorem dX8_power_47 : decode cX8_power 47 = .ok (.iload_n 1, 1) := by decide +kernel
theorem dX8_power_48 : decode cX8_power 48 = .ok (.iload_n 2, 1) := by decide +kernel
theorem dX8_power_49 : decode cX8_power 49 = .ok (.iastore, 1) := by decide +kernel
theorem dX8_power_50 : decode cX8_power 50 = .ok (.iload_n 3, 1) := by decide +kernel
theorem dX8_power_51 : decode cX8_power 51 = .ok (.ireturn, 1) := by decide +kernel
theorem dX8_cue_0 : decode cX8_cue 0 = .ok (.iload_n 1, 1) := by decide +kernel
theorem dX8_cue_1 : decode cX8_cue 1 = .ok (.iconst 0, 1) := by decide +kernel
theorem dX8_cue_2 : decode cX8_cue 2 = .ok (.iconst 1, 1) := by decide +kernel
theorem dX8_cue_3 : decode cX8_cue 3 = .ok (.invokestatic 87, 3) := by decide +kernel
theorem dX8_cue_6 : decode cX8_cue 6 = .ok (.ifCond .eq 27, 3) := by decide +kernel
theorem dX8_cue_9 : decode cX8_cue 9 = .ok (.iload_n 2, 1) := by decide +kernel
theorem dX8_cue_10 : decode cX8_cue 10 = .ok (.iconst 0, 1) := by decide +kernel
theorem dX8_cue_11 : decode cX8_cue 11 = .ok (.bipush 60, 2) := by decide +kernel
theorem dX8_cue_13 : decode cX8_cue 13 = .ok (.invokestatic 87, 3) := by decide +kernel
theorem dX8_cue_16 : decode cX8_cue 16 = .ok (.ifCond .eq 17, 3) := by decide +kernel
theorem dX8_cue_19 : decode cX8_cue 19 = .ok (.iload_n 3, 1) := by decide +kernel
theorem dX8_cue_20 : decode cX8_cue 20 = .ok (.iconst 0, 1) := by decide +kernel
theorem dX8_cue_21 : decode cX8_cue 21 = .ok (.bipush 60, 2) := by decide +kernel
theorem dX8_cue_23 : decode cX8_cue 23 = .ok (.invokestatic 87, 3) := by decide +kernel
theorem dX8_cue_26 : decode cX8_cue 26 = .ok (.ifCond .eq 7, 3) := by decide +kernel
theorem dX8_cue_29 : decode cX8_cue 29 = .ok (.iconst 1, 1) := by decide +kernel
theorem dX8_cue_30 : decode cX8_cue 30 = .ok (.goto 4, 3) := by decide +kernel
theorem dX8_cue_33 : decode cX8_cue 33 = .ok (.iconst 0, 1) := by decide +kernel
theorem dX8_cue_34 : decode cX8_cue 34 = .ok (.istore 4, 2) := by decide +kernel
theorem dX8_cue_36 : decode cX8_cue 36 = .ok (.aload_n 0, 1) := by decide +kernel
theorem dX8_cue_37 : decode cX8_cue 37 = .ok (.iload 4, 2) := by decide +kernel
theorem dX8_cue_39 : decode cX8_cue 39 = .ok (.ifCond .ne 7, 3) := by decide +kernel
theorem dX8_cue_42 : decode cX8_cue 42 = .ok (.iconst 1, 1) := by decide +kernel
theorem dX8_cue_43 : decode cX8_cue 43 = .ok (.goto 17, 3) := by decide +kernel
theorem dX8_cue_46 : decode cX8_cue 46 = .ok (.aload_n 0, 1) := by decide +kernel
theorem dX8_cue_47 : decode cX8_cue 47 = .ok (.getfield 91, 3) := by decide +kernel
theorem dX8_cue_50 : decode cX8_cue 50 = .ok (.bipush 12, 2) := by decide +kernel
theorem dX8_cue_52 : decode cX8_cue 52 = .ok (.if_icmp .ne 7, 3) := by decide +kernel
theorem dX8_cue_55 : decode cX8_cue 55 = .ok (.iconst 2, 1) := by decide +kernel
theorem dX8_cue_56 : decode cX8_cue 56 = .ok (.goto 4, 3) := by decide +kernel
theorem dX8_cue_59 : decode cX8_cue 59 = .ok (.iconst 0, 1) := by decide +kernel
theorem dX8_cue_60 : decode cX8_cue 60 = .ok (.invokevirtual 98, 3) := by decide +kernel
theorem dX8_cue_63 : decode cX8_cue 63 = .ok (.ifCond .ne 5, 3) := by decide +kernel
theorem dX8_cue_66 : decode cX8_cue 66 = .ok (.iconst 0, 1) := by decide +kernel
theorem dX8_cue_67 : decode cX8_cue 67 = .ok (.ireturn, 1) := by decide +kernel
theorem dX8_cue_68 : decode cX8_cue 68 = .ok (.aload_n 0, 1) := by decide +kernel
theorem dX8_cue_69 : decode cX8_cue 69 = .ok (.getfield 36, 3) := by decide +kernel
theorem dX8_cue_72 : decode cX8_cue 72 = .ok (.aload_n 0, 1) := by decide +kernel
theorem dX8_cue_73 : decode cX8_cue 73 = .ok (.getfield 91, 3) := by decide +kernel
theorem dX8_cue_76 : decode cX8_cue 76 = .ok (.iload_n 1, 1) := by decide +kernel
theorem dX8_cue_77 : decode cX8_cue 77 = .ok (.iastore, 1) := by decide +kernel
theorem dX8_cue_78 : decode cX8_cue 78 = .ok (.aload_n 0, 1) := by decide +kernel
theorem dX8_cue_79 : decode cX8_cue 79 = .ok (.getfield 39, 3) := by decide +kernel
theorem dX8_cue_82 : decode cX8_cue 82 = .ok (.aload_n 0, 1) := by decide +kernel
theorem dX8_cue_83 : decode cX8_cue 83 = .ok (.getfield 91, 3) := by decide +kernel
theorem dX8_cue_86 : decode cX8_cue 86 = .ok (.iload_n 2, 1) := by decide +kernel
theorem dX8_cue_87 : decode cX8_cue 87 = .ok (.iastore, 1) := by decide +kernel
theorem dX8_cue_88 : decode cX8_cue 88 = .ok (.aload_n 0, 1) := by decide +kernel
theorem dX8_cue_89 : decode cX8_cue 89 = .ok (.getfield 42, 3) := by decide +kernel
theorem dX8_cue_92 : decode cX8_cue 92 = .ok (.aload_n 0, 1) := by decide +kernel
theorem dX8_cue_93 : decode cX8_cue 93 = .ok (.getfield 91, 3) := by decide +kernel
theorem dX8_cue_96 : decode cX8_cue 96 = .ok (.iload_n 3, 1) := by decide +kernel
theorem dX8_cue_97 : decode cX8_cue 97 = .ok (.iastore, 1) := by decide +kernel
theorem dX8_cue_98 : decode cX8_cue 98 = .ok (.aload_n 0, 1) := by decide +kernel
theorem dX8_cue_99 : decode cX8_cue 99 = .ok (.getfield 48, 3) := by decide +kernel
theorem dX8_cue_102 : decode cX8_cue 102 = .ok (.aload_n 0, 1) := by decide +kernel
theorem dX8_cue_103 : decode cX8_cue 103 = .ok (.getfield 91, 3) := by decide +kernel
theorem dX8_cue_106 : decode cX8_cue 106 = .ok (.iconst (-1), 1) := by decide +kernel
theorem dX8_cue_107 : decode cX8_cue 107 = .ok (.iastore, 1) := by decide +kernel
theorem dX8_cue_108 : decode cX8_cue 108 = .ok (.aload_n 0, 1) := by decide +kernel
theorem dX8_cue_109 : decode cX8_cue 109 = .ok (.getfield 63, 3) := by decide +kernel
theorem dX8_cue_112 : decode cX8_cue 112 = .ok (.aload_n 0, 1) := by decide +kernel
theorem dX8_cue_113 : decode cX8_cue 113 = .ok (.getfield 91, 3) := by decide +kernel
theorem dX8_cue_116 : decode cX8_cue 116 = .ok (.iconst (-1), 1) := by decide +kernel
theorem dX8_cue_117 : decode cX8_cue 117 = .ok (.iastore, 1) := by decide +kernel
theorem dX8_cue_118 : decode cX8_cue 118 = .ok (.aload_n 0, 1) := by decide +kernel
theorem dX8_cue_119 : decode cX8_cue 119 = .ok (.dup, 1) := by decide +kernel
theorem dX8_cue_120 : decode cX8_cue 120 = .ok (.getfield 91, 3) := by decide +kernel
theorem dX8_cue_123 : decode cX8_cue 123 = .ok (.iconst 1, 1) := by decide +kernel
theorem dX8_cue_124 : decode cX8_cue 124 = .ok (.iadd, 1) := by decide +kernel
theorem dX8_cue_125 : decode cX8_cue 125 = .ok (.putfield 91, 3) := by decide +kernel
theorem dX8_cue_128 : decode cX8_cue 128 = .ok (.aload_n 0, 1) := by decide +kernel
theorem dX8_cue_129 : decode cX8_cue 129 = .ok (.getfield 91, 3) := by decide +kernel
theorem dX8_cue_132 : decode cX8_cue 132 = .ok (.iconst 1, 1) := by decide +kernel
theorem dX8_cue_133 : decode cX8_cue 133 = .ok (.isub, 1) := by decide +kernel
theorem dX8_cue_134 : decode cX8_cue 134 = .ok (.ireturn, 1) := by decide +kernel
theorem dX8_level_0 : decode cX8_level 0 = .ok (.aload_n 0, 1) := by decide +kernel
theorem dX8_level_1 : decode cX8_level 1 = .ok (.iload_n 1, 1) := by decide +kernel
theorem dX8_level_2 : decode cX8_level 2 = .ok (.invokevirtual 107, 3) := by decide +kernel
theorem dX8_level_5 : decode cX8_level 5 = .ok (.ifCond .eq 15, 3) := by decide +kernel
theorem dX8_level_8 : decode cX8_level 8 = .ok (.aload_n 0, 1) := by decide +kernel
theorem dX8_level_9 : decode cX8_level 9 = .ok (.iload_n 2, 1) := by decide +kernel
theorem dX8_level_10 : decode cX8_level 10 = .ok (.invokevirtual 101, 3) := by decide +kernel
theorem dX8_level_13 : decode cX8_level 13 = .ok (.ifCond .eq 7, 3) := by decide +kernel
theorem dX8_level_16 : decode cX8_level 16 = .ok (.iconst 1, 1) := by decide +kernel
theorem dX8_level_17 : decode cX8_level 17 = .ok (.goto 4, 3) := by decide +kernel
theorem dX8_level_20 : decode cX8_level 20 = .ok (.iconst 0, 1) := by decide +kernel
theorem dX8_level_21 : decode cX8_level 21 = .ok (.istore 4, 2) := by decide +kernel
theorem dX8_level_23 : decode cX8_level 23 = .ok (.aload_n 0, 1) := by decide +kernel
theorem dX8_level_24 : decode cX8_level 24 = .ok (.iload 4, 2) := by decide +kernel
theorem dX8_level_26 : decode cX8_level 26 = .ok (.ifCond .ne 7, 3) := by decide +kernel
theorem dX8_level_29 : decode cX8_level 29 = .ok (.iconst 1, 1) := by decide +kernel
theorem dX8_level_30 : decode cX8_level 30 = .ok (.goto 18, 3) := by decide +kernel
theorem dX8_level_33 : decode cX8_level 33 = .ok (.iload_n 3, 1) := by decide +kernel
theorem dX8_level_34 : decode cX8_level 34 = .ok (.iconst 0, 1) := by decide +kernel
theorem dX8_level_35 : decode cX8_level 35 = .ok (.bipush 100, 2) := by decide +kernel
theorem dX8_level_37 : decode cX8_level 37 = .ok (.invokestatic 87, 3) := by decide +kernel
theorem dX8_level_40 : decode cX8_level 40 = .ok (.ifCond .eq 7, 3) := by decide +kernel
theorem dX8_level_43 : decode cX8_level 43 = .ok (.iconst 0, 1) := by decide +kernel
theorem dX8_level_44 : decode cX8_level 44 = .ok (.goto 4, 3) := by decide +kernel
theorem dX8_level_47 : decode cX8_level 47 = .ok (.iconst 2, 1) := by decide +kernel
theorem dX8_level_48 : decode cX8_level 48 = .ok (.invokevirtual 98, 3) := by decide +kernel
theorem dX8_level_51 : decode cX8_level 51 = .ok (.ifCond .ne 5, 3) := by decide +kernel
theorem dX8_level_54 : decode cX8_level 54 = .ok (.iconst 0, 1) := by decide +kernel
theorem dX8_level_55 : decode cX8_level 55 = .ok (.ireturn, 1) := by decide +kernel
theorem dX8_level_56 : decode cX8_level 56 = .ok (.aload_n 0, 1) := by decide +kernel
theorem dX8_level_57 : decode cX8_level 57 = .ok (.getfield 45, 3) := by decide +kernel
theorem dX8_level_60 : decode cX8_level 60 = .ok (.bipush 16, 2) := by decide +kernel
theorem dX8_level_62 : decode cX8_level 62 = .ok (.iload_n 1, 1) := by decide +kernel
theorem dX8_level_63 : decode cX8_level 63 = .ok (.imul, 1) := by decide +kernel
theorem dX8_level_64 : decode cX8_level 64 = .ok (.iload_n 2, 1) := by decide +kernel
theorem dX8_level_65 : decode cX8_level 65 = .ok (.iadd, 1) := by decide +kernel
theorem dX8_level_66 : decode cX8_level 66 = .ok (.iaload, 1) := by decide +kernel
theorem dX8_level_67 : decode cX8_level 67 = .ok (.istore 5, 2) := by decide +kernel
theorem dX8_level_69 : decode cX8_level 69 = .ok (.aload_n 0, 1) := by decide +kernel
theorem dX8_level_70 : decode cX8_level 70 = .ok (.getfield 45, 3) := by decide +kernel
theorem dX8_level_73 : decode cX8_level 73 = .ok (.bipush 16, 2) := by decide +kernel
theorem dX8_level_75 : decode cX8_level 75 = .ok (.iload_n 1, 1) := by decide +kernel
theorem dX8_level_76 : decode cX8_level 76 = .ok (.imul, 1) := by decide +kernel
theorem dX8_level_77 : decode cX8_level 77 = .ok (.iload_n 2, 1) := by decide +kernel
theorem dX8_level_78 : decode cX8_level 78 = .ok (.iadd, 1) := by decide +kernel
theorem dX8_level_79 : decode cX8_level 79 = .ok (.iload_n 3, 1) := by decide +kernel
theorem dX8_level_80 : decode cX8_level 80 = .ok (.iastore, 1) := by decide +kernel
theorem dX8_level_81 : decode cX8_level 81 = .ok (.iload 5, 2) := by decide +kernel
theorem dX8_level_83 : decode cX8_level 83 = .ok (.ireturn, 1) := by decide +kernel
theorem dX8_follow_0 : decode cX8_follow 0 = .ok (.aload_n 0, 1) := by decide +kernel
theorem dX8_follow_1 : decode cX8_follow 1 = .ok (.iload_n 1, 1) := by decide +kernel
theorem dX8_follow_2 : decode cX8_follow 2 = .ok (.invokevirtual 107, 3) := by decide +kernel
theorem dX8_follow_5 : decode cX8_follow 5 = .ok (.ifCond .eq 20, 3) := by decide +kernel
theorem dX8_follow_8 : decode cX8_follow 8 = .ok (.iload_n 2, 1) := by decide +kernel
theorem dX8_follow_9 : decode cX8_follow 9 = .ok (.iconst (-1), 1) := by decide +kernel
theorem dX8_follow_10 : decode cX8_follow 10 = .ok (.if_icmp .eq 11, 3) := by decide +kernel
theorem dX8_follow_13 : decode cX8_follow 13 = .ok (.aload_n 0, 1) := by decide +kernel
theorem dX8_follow_14 : decode cX8_follow 14 = .ok (.iload_n 2, 1) := by decide +kernel
theorem dX8_follow_15 : decode cX8_follow 15 = .ok (.invokevirtual 107, 3) := by decide +kernel
theorem dX8_follow_18 : decode cX8_follow 18 = .ok (.ifCond .eq 7, 3) := by decide +kernel
theorem dX8_follow_21 : decode cX8_follow 21 = .ok (.iconst 1, 1) := by decide +kernel
theorem dX8_follow_22 : decode cX8_follow 22 = .ok (.goto 4, 3) := by decide +kernel
theorem dX8_follow_25 : decode cX8_follow 25 = .ok (.iconst 0, 1) := by decide +kernel
theorem dX8_follow_26 : decode cX8_follow 26 = .ok (.istore 4, 2) := by decide +kernel
theorem dX8_follow_28 : decode cX8_follow 28 = .ok (.aload_n 0, 1) := by decide +kernel
theorem dX8_follow_29 : decode cX8_follow 29 = .ok (.iload 4, 2) := by decide +kernel
theorem dX8_follow_31 : decode cX8_follow 31 = .ok (.ifCond .ne 7, 3) := by decide +kernel
theorem dX8_follow_34 : decode cX8_follow 34 = .ok (.iconst 1, 1) := by decide +kernel
theorem dX8_follow_35 : decode cX8_follow 35 = .ok (.goto 18, 3) := by decide +kernel
theorem dX8_follow_38 : decode cX8_follow 38 = .ok (.iload_n 3, 1) := by decide +kernel
theorem dX8_follow_39 : decode cX8_follow 39 = .ok (.iconst 1, 1) := by decide +kernel
theorem dX8_follow_40 : decode cX8_follow 40 = .ok (.bipush 60, 2) := by decide +kernel
theorem dX8_follow_42 : decode cX8_follow 42 = .ok (.invokestatic 87, 3) := by decide +kernel
theorem dX8_follow_45 : decode cX8_follow 45 = .ok (.ifCond .eq 7, 3) := by decide +kernel
theorem dX8_follow_48 : decode cX8_follow 48 = .ok (.iconst 0, 1) := by decide +kernel
theorem dX8_follow_49 : decode cX8_follow 49 = .ok (.goto 4, 3) := by decide +kernel
theorem dX8_follow_52 : decode cX8_follow 52 = .ok (.iconst 2, 1) := by decide +kernel
theorem dX8_follow_53 : decode cX8_follow 53 = .ok (.invokevirtual 98, 3) := by decide +kernel
theorem dX8_follow_56 : decode cX8_follow 56 = .ok (.ifCond .ne 5, 3) := by decide +kernel
theorem dX8_follow_59 : decode cX8_follow 59 = .ok (.iconst 0, 1) := by decide +kernel
theorem dX8_follow_60 : decode cX8_follow 60 = .ok (.ireturn, 1) := by decide +kernel
theorem dX8_follow_61 : decode cX8_follow 61 = .ok (.aload_n 0, 1) := by decide +kernel
theorem dX8_follow_62 : decode cX8_follow 62 = .ok (.getfield 48, 3) := by decide +kernel
theorem dX8_follow_65 : decode cX8_follow 65 = .ok (.iload_n 1, 1) := by decide +kernel
theorem dX8_follow_66 : decode cX8_follow 66 = .ok (.iaload, 1) := by decide +kernel
theorem dX8_follow_67 : decode cX8_follow 67 = .ok (.istore 5, 2) := by decide +kernel
theorem dX8_follow_69 : decode cX8_follow 69 = .ok (.aload_n 0, 1) := by decide +kernel
theorem dX8_follow_70 : decode cX8_follow 70 = .ok (.getfield 48, 3) := by decide +kernel
theorem dX8_follow_73 : decode cX8_follow 73 = .ok (.iload_n 1, 1) := by decide +kernel
theorem dX8_follow_74 : decode cX8_follow 74 = .ok (.iload_n 2, 1) := by decide +kernel
theorem dX8_follow_75 : decode cX8_follow 75 = .ok (.iastore, 1) := by decide +kernel
theorem dX8_follow_76 : decode cX8_follow 76 = .ok (.aload_n 0, 1) := by decide +kernel
theorem dX8_follow_77 : decode cX8_follow 77 = .ok (.getfield 51, 3) := by decide +kernel
theorem dX8_follow_80 : decode cX8_follow 80 = .ok (.iload_n 1, 1) := by decide +kernel
theorem dX8_follow_81 : decode cX8_follow 81 = .ok (.iload_n 3, 1) := by decide +kernel
theorem dX8_follow_82 : decode cX8_follow 82 = .ok (.iastore, 1) := by decide +kernel
theorem dX8_follow_83 : decode cX8_follow 83 = .ok (.iload 5, 2) := by decide +kernel
theorem dX8_follow_85 : decode cX8_follow 85 = .ok (.ireturn, 1) := by decide +kernel
theorem dX8_distance_0 : decode cX8_distance 0 = .ok (.bipush 10, 2) := by decide +kernel
theorem dX8_distance_2 : decode cX8_distance 2 = .ok (.aload_n 0, 1) := by decide +kernel
theorem dX8_distance_3 : decode cX8_distance 3 = .ok (.getfield 7, 3) := by decide +kernel
theorem dX8_distance_6 : decode cX8_distance 6 = .ok (.iload_n 1, 1) := by decide +kernel
theorem dX8_distance_7 : decode cX8_distance 7 = .ok (.iaload, 1) := by decide +kernel
theorem dX8_distance_8 : decode cX8_distance 8 = .ok (.aload_n 0, 1) := by decide +kernel
theorem dX8_distance_9 : decode cX8_distance 9 = .ok (.getfield 7, 3) := by decide +kernel
theorem dX8_distance_12 : decode cX8_distance 12 = .ok (.iload_n 2, 1) := by decide +kernel
theorem dX8_distance_13 : decode cX8_distance 13 = .ok (.iaload, 1) := by decide +kernel
theorem dX8_distance_14 : decode cX8_distance 14 = .ok (.isub, 1) := by decide +kernel
theorem dX8_distance_15 : decode cX8_distance 15 = .ok (.invokestatic 110, 3) := by decide +kernel
theorem dX8_distance_18 : decode cX8_distance 18 = .ok (.imul, 1) := by decide +kernel
theorem dX8_distance_19 : decode cX8_distance 19 = .ok (.aload_n 0, 1) := by decide +kernel
theorem dX8_distance_20 : decode cX8_distance 20 = .ok (.getfield 13, 3) := by decide +kernel
theorem dX8_distance_23 : decode cX8_distance 23 = .ok (.iload_n 1, 1) := by decide +kernel
theorem dX8_distance_24 : decode cX8_distance 24 = .ok (.iaload, 1) := by decide +kernel
theorem dX8_distance_25 : decode cX8_distance 25 = .ok (.aload_n 0, 1) := by decide +kernel
theorem dX8_distance_26 : decode cX8_distance 26 = .ok (.getfield 13, 3) := by decide +kernel
theorem dX8_distance_29 : decode cX8_distance 29 = .ok (.iload_n 2, 1) := by decide +kernel
theorem dX8_distance_30 : decode cX8_distance 30 = .ok (.iaload, 1) := by decide +kernel
theorem dX8_distance_31 : decode cX8_distance 31 = .ok (.isub, 1) := by decide +kernel
theorem dX8_distance_32 : decode cX8_distance 32 = .ok (.invokestatic 110, 3) := by decide +kernel
theorem dX8_distance_35 : decode cX8_distance 35 = .ok (.iadd, 1) := by decide +kernel
theorem dX8_distance_36 : decode cX8_distance 36 = .ok (.ireturn, 1) := by decide +kernel
theorem dX8_nearest_0 : decode cX8_nearest 0 = .ok (.iconst (-1), 1) := by decide +kernel
theorem dX8_nearest_1 : decode cX8_nearest 1 = .ok (.istore_n 3, 1) := by decide +kernel
theorem dX8_nearest_2 : decode cX8_nearest 2 = .ok (.iconst 0, 1) := by decide +kernel
theorem dX8_nearest_3 : decode cX8_nearest 3 = .ok (.istore 4, 2) := by decide +kernel
theorem dX8_nearest_5 : decode cX8_nearest 5 = .ok (.iload 4, 2) := by decide +kernel
theorem dX8_nearest_7 : decode cX8_nearest 7 = .ok (.aload_n 0, 1) := by decide +kernel
theorem dX8_nearest_8 : decode cX8_nearest 8 = .ok (.getfield 84, 3) := by decide +kernel
theorem dX8_nearest_11 : decode cX8_nearest 11 = .ok (.if_icmp .ge 99, 3) := by decide +kernel
theorem dX8_nearest_14 : decode cX8_nearest 14 = .ok (.aload_n 0, 1) := by decide +kernel
theorem dX8_nearest_15 : decode cX8_nearest 15 = .ok (.iload 4, 2) := by decide +kernel
theorem dX8_nearest_17 : decode cX8_nearest 17 = .ok (.invokevirtual 104, 3) := by decide +kernel
theorem dX8_nearest_20 : decode cX8_nearest 20 = .ok (.ifCond .eq 48, 3) := by decide +kernel
theorem dX8_nearest_23 : decode cX8_nearest 23 = .ok (.aload_n 0, 1) := by decide +kernel
theorem dX8_nearest_24 : decode cX8_nearest 24 = .ok (.getfield 16, 3) := by decide +kernel
theorem dX8_nearest_27 : decode cX8_nearest 27 = .ok (.iload 4, 2) := by decide +kernel
theorem dX8_nearest_29 : decode cX8_nearest 29 = .ok (.iaload, 1) := by decide +kernel
theorem dX8_nearest_30 : decode cX8_nearest 30 = .ok (.aload_n 0, 1) := by decide +kernel
theorem dX8_nearest_31 : decode cX8_nearest 31 = .ok (.getfield 16, 3) := by decide +kernel
theorem dX8_nearest_34 : decode cX8_nearest 34 = .ok (.iload_n 2, 1) := by decide +kernel
theorem dX8_nearest_35 : decode cX8_nearest 35 = .ok (.iaload, 1) := by decide +kernel
theorem dX8_nearest_36 : decode cX8_nearest 36 = .ok (.if_icmp .ne 32, 3) := by decide +kernel
theorem dX8_nearest_39 : decode cX8_nearest 39 = .ok (.aload_n 0, 1) := by decide +kernel
theorem dX8_nearest_40 : decode cX8_nearest 40 = .ok (.getfield 45, 3) := by decide +kernel
theorem dX8_nearest_43 : decode cX8_nearest 43 = .ok (.bipush 16, 2) := by decide +kernel
theorem dX8_nearest_45 : decode cX8_nearest 45 = .ok (.iload_n 1, 1) := by decide +kernel
theorem dX8_nearest_46 : decode cX8_nearest 46 = .ok (.imul, 1) := by decide +kernel
theorem dX8_nearest_47 : decode cX8_nearest 47 = .ok (.iload 4, 2) := by decide +kernel
theorem dX8_nearest_49 : decode cX8_nearest 49 = .ok (.iadd, 1) := by decide +kernel
theorem dX8_nearest_50 : decode cX8_nearest 50 = .ok (.iaload, 1) := by decide +kernel
theorem dX8_nearest_51 : decode cX8_nearest 51 = .ok (.ifCond .ne 17, 3) := by decide +kernel
theorem dX8_nearest_54 : decode cX8_nearest 54 = .ok (.aload_n 0, 1) := by decide +kernel
theorem dX8_nearest_55 : decode cX8_nearest 55 = .ok (.getfield 72, 3) := by decide +kernel
theorem dX8_nearest_58 : decode cX8_nearest 58 = .ok (.iload 4, 2) := by decide +kernel
theorem dX8_nearest_60 : decode cX8_nearest 60 = .ok (.iaload, 1) := by decide +kernel
theorem dX8_nearest_61 : decode cX8_nearest 61 = .ok (.ifCond .ne 7, 3) := by decide +kernel
theorem dX8_nearest_64 : decode cX8_nearest 64 = .ok (.iconst 1, 1) := by decide +kernel
theorem dX8_nearest_65 : decode cX8_nearest 65 = .ok (.goto 4, 3) := by decide +kernel
theorem dX8_nearest_68 : decode cX8_nearest 68 = .ok (.iconst 0, 1) := by decide +kernel
theorem dX8_nearest_69 : decode cX8_nearest 69 = .ok (.istore 5, 2) := by decide +kernel
theorem dX8_nearest_71 : decode cX8_nearest 71 = .ok (.iload 5, 2) := by decide +kernel
theorem dX8_nearest_73 : decode cX8_nearest 73 = .ok (.ifCond .eq 29, 3) := by decide +kernel
theorem dX8_nearest_76 : decode cX8_nearest 76 = .ok (.iload_n 3, 1) := by decide +kernel
theorem dX8_nearest_77 : decode cX8_nearest 77 = .ok (.iconst (-1), 1) := by decide +kernel
theorem dX8_nearest_78 : decode cX8_nearest 78 = .ok (.if_icmp .eq 19, 3) := by decide +kernel
theorem dX8_nearest_81 : decode cX8_nearest 81 = .ok (.aload_n 0, 1) := by decide +kernel
theorem dX8_nearest_82 : decode cX8_nearest 82 = .ok (.iload 4, 2) := by decide +kernel
theorem dX8_nearest_84 : decode cX8_nearest 84 = .ok (.iload_n 2, 1) := by decide +kernel
theorem dX8_nearest_85 : decode cX8_nearest 85 = .ok (.invokevirtual 114, 3) := by decide +kernel
theorem dX8_nearest_88 : decode cX8_nearest 88 = .ok (.aload_n 0, 1) := by decide +kernel
theorem dX8_nearest_89 : decode cX8_nearest 89 = .ok (.iload_n 3, 1) := by decide +kernel
theorem dX8_nearest_90 : decode cX8_nearest 90 = .ok (.iload_n 2, 1) := by decide +kernel
theorem dX8_nearest_91 : decode cX8_nearest 91 = .ok (.invokevirtual 114, 3) := by decide +kernel
theorem dX8_nearest_94 : decode cX8_nearest 94 = .ok (.if_icmp .ge 8, 3) := by decide +kernel
theorem dX8_nearest_97 : decode cX8_nearest 97 = .ok (.iload 4, 2) := by decide +kernel
theorem dX8_nearest_99 : decode cX8_nearest 99 = .ok (.goto 4, 3) := by decide +kernel
theorem dX8_nearest_102 : decode cX8_nearest 102 = .ok (.iload_n 3, 1) := by decide +kernel
theorem dX8_nearest_103 : decode cX8_nearest 103 = .ok (.istore_n 3, 1) := by decide +kernel
theorem dX8_nearest_104 : decode cX8_nearest 104 = .ok (.iinc 4 1, 3) := by decide +kernel
theorem dX8_nearest_107 : decode cX8_nearest 107 = .ok (.goto (-102), 3) := by decide +kernel
theorem dX8_nearest_110 : decode cX8_nearest 110 = .ok (.iload_n 3, 1) := by decide +kernel
theorem dX8_nearest_111 : decode cX8_nearest 111 = .ok (.ireturn, 1) := by decide +kernel
theorem dX8_finds_0 : decode cX8_finds 0 = .ok (.iconst 0, 1) := by decide +kernel
theorem dX8_finds_1 : decode cX8_finds 1 = .ok (.istore_n 2, 1) := by decide +kernel
theorem dX8_finds_2 : decode cX8_finds 2 = .ok (.iload_n 2, 1) := by decide +kernel
theorem dX8_finds_3 : decode cX8_finds 3 = .ok (.aload_n 0, 1) := by decide +kernel
theorem dX8_finds_4 : decode cX8_finds 4 = .ok (.getfield 84, 3) := by decide +kernel
theorem dX8_finds_7 : decode cX8_finds 7 = .ok (.if_icmp .ge 77, 3) := by decide +kernel
theorem dX8_finds_10 : decode cX8_finds 10 = .ok (.aload_n 0, 1) := by decide +kernel
theorem dX8_finds_11 : decode cX8_finds 11 = .ok (.iload_n 2, 1) := by decide +kernel
theorem dX8_finds_12 : decode cX8_finds 12 = .ok (.invokevirtual 104, 3) := by decide +kernel
theorem dX8_finds_15 : decode cX8_finds 15 = .ok (.ifCond .eq 21, 3) := by decide +kernel
theorem dX8_finds_18 : decode cX8_finds 18 = .ok (.aload_n 0, 1) := by decide +kernel
theorem dX8_finds_19 : decode cX8_finds 19 = .ok (.getfield 45, 3) := by decide +kernel
theorem dX8_finds_22 : decode cX8_finds 22 = .ok (.bipush 16, 2) := by decide +kernel
theorem dX8_finds_24 : decode cX8_finds 24 = .ok (.iload_n 1, 1) := by decide +kernel
theorem dX8_finds_25 : decode cX8_finds 25 = .ok (.imul, 1) := by decide +kernel
theorem dX8_finds_26 : decode cX8_finds 26 = .ok (.iload_n 2, 1) := by decide +kernel
theorem dX8_finds_27 : decode cX8_finds 27 = .ok (.iadd, 1) := by decide +kernel
theorem dX8_finds_28 : decode cX8_finds 28 = .ok (.iaload, 1) := by decide +kernel
theorem dX8_finds_29 : decode cX8_finds 29 = .ok (.ifCond .le 7, 3) := by decide +kernel
theorem dX8_finds_32 : decode cX8_finds 32 = .ok (.iconst 1, 1) := by decide +kernel
theorem dX8_finds_33 : decode cX8_finds 33 = .ok (.goto 4, 3) := by decide +kernel
theorem dX8_finds_36 : decode cX8_finds 36 = .ok (.iconst 0, 1) := by decide +kernel
theorem dX8_finds_37 : decode cX8_finds 37 = .ok (.istore_n 3, 1) := by decide +kernel
theorem dX8_finds_38 : decode cX8_finds 38 = .ok (.aload_n 0, 1) := by decide +kernel
theorem dX8_finds_39 : decode cX8_finds 39 = .ok (.getfield 72, 3) := by decide +kernel
theorem dX8_finds_42 : decode cX8_finds 42 = .ok (.iload_n 2, 1) := by decide +kernel
theorem dX8_finds_43 : decode cX8_finds 43 = .ok (.iload_n 3, 1) := by decide +kernel
theorem dX8_finds_44 : decode cX8_finds 44 = .ok (.ifCond .eq 17, 3) := by decide +kernel
theorem dX8_finds_47 : decode cX8_finds 47 = .ok (.aload_n 0, 1) := by decide +kernel
theorem dX8_finds_48 : decode cX8_finds 48 = .ok (.getfield 45, 3) := by decide +kernel
theorem dX8_finds_51 : decode cX8_finds 51 = .ok (.bipush 16, 2) := by decide +kernel
theorem dX8_finds_53 : decode cX8_finds 53 = .ok (.iload_n 1, 1) := by decide +kernel
theorem dX8_finds_54 : decode cX8_finds 54 = .ok (.imul, 1) := by decide +kernel
theorem dX8_finds_55 : decode cX8_finds 55 = .ok (.iload_n 2, 1) := by decide +kernel
theorem dX8_finds_56 : decode cX8_finds 56 = .ok (.iadd, 1) := by decide +kernel
theorem dX8_finds_57 : decode cX8_finds 57 = .ok (.iaload, 1) := by decide +kernel
theorem dX8_finds_58 : decode cX8_finds 58 = .ok (.goto 4, 3) := by decide +kernel
theorem dX8_finds_61 : decode cX8_finds 61 = .ok (.iconst 0, 1) := by decide +kernel
theorem dX8_finds_62 : decode cX8_finds 62 = .ok (.iastore, 1) := by decide +kernel
theorem dX8_finds_63 : decode cX8_finds 63 = .ok (.aload_n 0, 1) := by decide +kernel
theorem dX8_finds_64 : decode cX8_finds 64 = .ok (.getfield 75, 3) := by decide +kernel
theorem dX8_finds_67 : decode cX8_finds 67 = .ok (.iload_n 2, 1) := by decide +kernel
theorem dX8_finds_68 : decode cX8_finds 68 = .ok (.iload_n 3, 1) := by decide +kernel
theorem dX8_finds_69 : decode cX8_finds 69 = .ok (.ifCond .eq 7, 3) := by decide +kernel
theorem dX8_finds_72 : decode cX8_finds 72 = .ok (.iload_n 2, 1) := by decide +kernel
theorem dX8_finds_73 : decode cX8_finds 73 = .ok (.goto 4, 3) := by decide +kernel
theorem dX8_finds_76 : decode cX8_finds 76 = .ok (.iconst (-1), 1) := by decide +kernel
theorem dX8_finds_77 : decode cX8_finds 77 = .ok (.iastore, 1) := by decide +kernel
theorem dX8_finds_78 : decode cX8_finds 78 = .ok (.iinc 2 1, 3) := by decide +kernel
theorem dX8_finds_81 : decode cX8_finds 81 = .ok (.goto (-79), 3) := by decide +kernel
theorem dX8_finds_84 : decode cX8_finds 84 = .ok (.iconst 0, 1) := by decide +kernel
theorem dX8_finds_85 : decode cX8_finds 85 = .ok (.istore_n 2, 1) := by decide +kernel
theorem dX8_finds_86 : decode cX8_finds 86 = .ok (.iload_n 2, 1) := by decide +kernel
theorem dX8_finds_87 : decode cX8_finds 87 = .ok (.aload_n 0, 1) := by decide +kernel
theorem dX8_finds_88 : decode cX8_finds 88 = .ok (.getfield 84, 3) := by decide +kernel
theorem dX8_finds_91 : decode cX8_finds 91 = .ok (.if_icmp .ge 67, 3) := by decide +kernel
theorem dX8_finds_94 : decode cX8_finds 94 = .ok (.aload_n 0, 1) := by decide +kernel
theorem dX8_finds_95 : decode cX8_finds 95 = .ok (.iload_n 2, 1) := by decide +kernel
theorem dX8_finds_96 : decode cX8_finds 96 = .ok (.invokevirtual 104, 3) := by decide +kernel
theorem dX8_finds_99 : decode cX8_finds 99 = .ok (.ifCond .ne 53, 3) := by decide +kernel
theorem dX8_finds_102 : decode cX8_finds 102 = .ok (.aload_n 0, 1) := by decide +kernel
theorem dX8_finds_103 : decode cX8_finds 103 = .ok (.getfield 45, 3) := by decide +kernel
theorem dX8_finds_106 : decode cX8_finds 106 = .ok (.bipush 16, 2) := by decide +kernel
theorem dX8_finds_108 : decode cX8_finds 108 = .ok (.iload_n 1, 1) := by decide +kernel
theorem dX8_finds_109 : decode cX8_finds 109 = .ok (.imul, 1) := by decide +kernel
theorem dX8_finds_110 : decode cX8_finds 110 = .ok (.iload_n 2, 1) := by decide +kernel
theorem dX8_finds_111 : decode cX8_finds 111 = .ok (.iadd, 1) := by decide +kernel
theorem dX8_finds_112 : decode cX8_finds 112 = .ok (.iaload, 1) := by decide +kernel
theorem dX8_finds_113 : decode cX8_finds 113 = .ok (.ifCond .le 39, 3) := by decide +kernel
theorem dX8_finds_116 : decode cX8_finds 116 = .ok (.aload_n 0, 1) := by decide +kernel
theorem dX8_finds_117 : decode cX8_finds 117 = .ok (.iload_n 1, 1) := by decide +kernel
theorem dX8_finds_118 : decode cX8_finds 118 = .ok (.iload_n 2, 1) := by decide +kernel
theorem dX8_finds_119 : decode cX8_finds 119 = .ok (.invokevirtual 118, 3) := by decide +kernel
theorem dX8_finds_122 : decode cX8_finds 122 = .ok (.istore_n 3, 1) := by decide +kernel
theorem dX8_finds_123 : decode cX8_finds 123 = .ok (.aload_n 0, 1) := by decide +kernel
theorem dX8_finds_124 : decode cX8_finds 124 = .ok (.getfield 75, 3) := by decide +kernel
theorem dX8_finds_127 : decode cX8_finds 127 = .ok (.iload_n 2, 1) := by decide +kernel
theorem dX8_finds_128 : decode cX8_finds 128 = .ok (.iload_n 3, 1) := by decide +kernel
theorem dX8_finds_129 : decode cX8_finds 129 = .ok (.iastore, 1) := by decide +kernel
theorem dX8_finds_130 : decode cX8_finds 130 = .ok (.iload_n 3, 1) := by decide +kernel
theorem dX8_finds_131 : decode cX8_finds 131 = .ok (.iconst (-1), 1) := by decide +kernel
theorem dX8_finds_132 : decode cX8_finds 132 = .ok (.if_icmp .eq 20, 3) := by decide +kernel
theorem dX8_finds_135 : decode cX8_finds 135 = .ok (.aload_n 0, 1) := by decide +kernel
theorem dX8_finds_136 : decode cX8_finds 136 = .ok (.getfield 72, 3) := by decide +kernel
theorem dX8_finds_139 : decode cX8_finds 139 = .ok (.iload_n 3, 1) := by decide +kernel
theorem dX8_finds_140 : decode cX8_finds 140 = .ok (.aload_n 0, 1) := by decide +kernel
theorem dX8_finds_141 : decode cX8_finds 141 = .ok (.getfield 45, 3) := by decide +kernel
theorem dX8_finds_144 : decode cX8_finds 144 = .ok (.bipush 16, 2) := by decide +kernel
theorem dX8_finds_146 : decode cX8_finds 146 = .ok (.iload_n 1, 1) := by decide +kernel
theorem dX8_finds_147 : decode cX8_finds 147 = .ok (.imul, 1) := by decide +kernel
theorem dX8_finds_148 : decode cX8_finds 148 = .ok (.iload_n 2, 1) := by decide +kernel
theorem dX8_finds_149 : decode cX8_finds 149 = .ok (.iadd, 1) := by decide +kernel
theorem dX8_finds_150 : decode cX8_finds 150 = .ok (.iaload, 1) := by decide +kernel
theorem dX8_finds_151 : decode cX8_finds 151 = .ok (.iastore, 1) := by decide +kernel
theorem dX8_finds_152 : decode cX8_finds 152 = .ok (.iinc 2 1, 3) := by decide +kernel
theorem dX8_finds_155 : decode cX8_finds 155 = .ok (.goto (-69), 3) := by decide +kernel
theorem dX8_finds_158 : decode cX8_finds 158 = .ok (.return_, 1) := by decide +kernel
theorem dX8_raises_0 : decode cX8_raises 0 = .ok (.aload_n 0, 1) := by decide +kernel
theorem dX8_raises_1 : decode cX8_raises 1 = .ok (.iload_n 1, 1) := by decide +kernel
theorem dX8_raises_2 : decode cX8_raises 2 = .ok (.invokevirtual 121, 3) := by decide +kernel
theorem dX8_raises_5 : decode cX8_raises 5 = .ok (.iconst 0, 1) := by decide +kernel
theorem dX8_raises_6 : decode cX8_raises 6 = .ok (.istore_n 2, 1) := by decide +kernel
theorem dX8_raises_7 : decode cX8_raises 7 = .ok (.iload_n 2, 1) := by decide +kernel
theorem dX8_raises_8 : decode cX8_raises 8 = .ok (.aload_n 0, 1) := by decide +kernel
theorem dX8_raises_9 : decode cX8_raises 9 = .ok (.getfield 84, 3) := by decide +kernel
theorem dX8_raises_12 : decode cX8_raises 12 = .ok (.if_icmp .ge 45, 3) := by decide +kernel
theorem dX8_raises_15 : decode cX8_raises 15 = .ok (.aload_n 0, 1) := by decide +kernel
theorem dX8_raises_16 : decode cX8_raises 16 = .ok (.getfield 78, 3) := by decide +kernel
theorem dX8_raises_19 : decode cX8_raises 19 = .ok (.iload_n 2, 1) := by decide +kernel
theorem dX8_raises_20 : decode cX8_raises 20 = .ok (.aload_n 0, 1) := by decide +kernel
theorem dX8_raises_21 : decode cX8_raises 21 = .ok (.getfield 72, 3) := by decide +kernel
theorem dX8_raises_24 : decode cX8_raises 24 = .ok (.iload_n 2, 1) := by decide +kernel
theorem dX8_raises_25 : decode cX8_raises 25 = .ok (.iaload, 1) := by decide +kernel
theorem dX8_raises_26 : decode cX8_raises 26 = .ok (.aload_n 0, 1) := by decide +kernel
theorem dX8_raises_27 : decode cX8_raises 27 = .ok (.getfield 78, 3) := by decide +kernel
theorem dX8_raises_30 : decode cX8_raises 30 = .ok (.iload_n 2, 1) := by decide +kernel
theorem dX8_raises_31 : decode cX8_raises 31 = .ok (.iaload, 1) := by decide +kernel
theorem dX8_raises_32 : decode cX8_raises 32 = .ok (.if_icmp .le 12, 3) := by decide +kernel
theorem dX8_raises_35 : decode cX8_raises 35 = .ok (.aload_n 0, 1) := by decide +kernel
theorem dX8_raises_36 : decode cX8_raises 36 = .ok (.getfield 72, 3) := by decide +kernel
theorem dX8_raises_39 : decode cX8_raises 39 = .ok (.iload_n 2, 1) := by decide +kernel
theorem dX8_raises_40 : decode cX8_raises 40 = .ok (.iaload, 1) := by decide +kernel
theorem dX8_raises_41 : decode cX8_raises 41 = .ok (.goto 9, 3) := by decide +kernel
theorem dX8_raises_44 : decode cX8_raises 44 = .ok (.aload_n 0, 1) := by decide +kernel
theorem dX8_raises_45 : decode cX8_raises 45 = .ok (.getfield 78, 3) := by decide +kernel
theorem dX8_raises_48 : decode cX8_raises 48 = .ok (.iload_n 2, 1) := by decide +kernel
theorem dX8_raises_49 : decode cX8_raises 49 = .ok (.iaload, 1) := by decide +kernel
theorem dX8_raises_50 : decode cX8_raises 50 = .ok (.iastore, 1) := by decide +kernel
theorem dX8_raises_51 : decode cX8_raises 51 = .ok (.iinc 2 1, 3) := by decide +kernel
theorem dX8_raises_54 : decode cX8_raises 54 = .ok (.goto (-47), 3) := by decide +kernel
theorem dX8_raises_57 : decode cX8_raises 57 = .ok (.return_, 1) := by decide +kernel
theorem dX8_asked_0 : decode cX8_asked 0 = .ok (.iconst 0, 1) := by decide +kernel
theorem dX8_asked_1 : decode cX8_asked 1 = .ok (.istore_n 3, 1) := by decide +kernel
theorem dX8_asked_2 : decode cX8_asked 2 = .ok (.iload_n 3, 1) := by decide +kernel
theorem dX8_asked_3 : decode cX8_asked 3 = .ok (.aload_n 0, 1) := by decide +kernel
theorem dX8_asked_4 : decode cX8_asked 4 = .ok (.getfield 84, 3) := by decide +kernel
theorem dX8_asked_7 : decode cX8_asked 7 = .ok (.if_icmp .ge 16, 3) := by decide +kernel
theorem dX8_asked_10 : decode cX8_asked 10 = .ok (.aload_n 0, 1) := by decide +kernel
theorem dX8_asked_11 : decode cX8_asked 11 = .ok (.getfield 78, 3) := by decide +kernel
theorem dX8_asked_14 : decode cX8_asked 14 = .ok (.iload_n 3, 1) := by decide +kernel
theorem dX8_asked_15 : decode cX8_asked 15 = .ok (.iconst 0, 1) := by decide +kernel
theorem dX8_asked_16 : decode cX8_asked 16 = .ok (.iastore, 1) := by decide +kernel
theorem dX8_asked_17 : decode cX8_asked 17 = .ok (.iinc 3 1, 3) := by decide +kernel
theorem dX8_asked_20 : decode cX8_asked 20 = .ok (.goto (-18), 3) := by decide +kernel
theorem dX8_asked_23 : decode cX8_asked 23 = .ok (.aload_n 0, 1) := by decide +kernel
theorem dX8_asked_24 : decode cX8_asked 24 = .ok (.iload_n 1, 1) := by decide +kernel
theorem dX8_asked_25 : decode cX8_asked 25 = .ok (.invokevirtual 125, 3) := by decide +kernel
theorem dX8_asked_28 : decode cX8_asked 28 = .ok (.iconst 0, 1) := by decide +kernel
theorem dX8_asked_29 : decode cX8_asked 29 = .ok (.istore_n 3, 1) := by decide +kernel
theorem dX8_asked_30 : decode cX8_asked 30 = .ok (.iload_n 3, 1) := by decide +kernel
theorem dX8_asked_31 : decode cX8_asked 31 = .ok (.aload_n 0, 1) := by decide +kernel
theorem dX8_asked_32 : decode cX8_asked 32 = .ok (.getfield 91, 3) := by decide +kernel
theorem dX8_asked_35 : decode cX8_asked 35 = .ok (.if_icmp .ge 33, 3) := by decide +kernel
theorem dX8_asked_38 : decode cX8_asked 38 = .ok (.aload_n 0, 1) := by decide +kernel
theorem dX8_asked_39 : decode cX8_asked 39 = .ok (.getfield 54, 3) := by decide +kernel
theorem dX8_asked_42 : decode cX8_asked 42 = .ok (.iload_n 3, 1) := by decide +kernel
theorem dX8_asked_43 : decode cX8_asked 43 = .ok (.baload, 1) := by decide +kernel
theorem dX8_asked_44 : decode cX8_asked 44 = .ok (.ifCond .eq 18, 3) := by decide +kernel
theorem dX8_asked_47 : decode cX8_asked 47 = .ok (.aload_n 0, 1) := by decide +kernel
theorem dX8_asked_48 : decode cX8_asked 48 = .ok (.getfield 63, 3) := by decide +kernel
theorem dX8_asked_51 : decode cX8_asked 51 = .ok (.iload_n 3, 1) := by decide +kernel
theorem dX8_asked_52 : decode cX8_asked 52 = .ok (.iaload, 1) := by decide +kernel
theorem dX8_asked_53 : decode cX8_asked 53 = .ok (.iconst (-1), 1) := by decide +kernel
theorem dX8_asked_54 : decode cX8_asked 54 = .ok (.if_icmp .ne 8, 3) := by decide +kernel
theorem dX8_asked_57 : decode cX8_asked 57 = .ok (.aload_n 0, 1) := by decide +kernel
theorem dX8_asked_58 : decode cX8_asked 58 = .ok (.iload_n 3, 1) := by decide +kernel
theorem dX8_asked_59 : decode cX8_asked 59 = .ok (.invokevirtual 125, 3) := by decide +kernel
theorem dX8_asked_62 : decode cX8_asked 62 = .ok (.iinc 3 1, 3) := by decide +kernel
theorem dX8_asked_65 : decode cX8_asked 65 = .ok (.goto (-35), 3) := by decide +kernel
theorem dX8_asked_68 : decode cX8_asked 68 = .ok (.iconst 0, 1) := by decide +kernel
theorem dX8_asked_69 : decode cX8_asked 69 = .ok (.istore_n 3, 1) := by decide +kernel
theorem dX8_asked_70 : decode cX8_asked 70 = .ok (.iconst 0, 1) := by decide +kernel
theorem dX8_asked_71 : decode cX8_asked 71 = .ok (.istore 4, 2) := by decide +kernel
theorem dX8_asked_73 : decode cX8_asked 73 = .ok (.iload 4, 2) := by decide +kernel
theorem dX8_asked_75 : decode cX8_asked 75 = .ok (.aload_n 0, 1) := by decide +kernel
theorem dX8_asked_76 : decode cX8_asked 76 = .ok (.getfield 84, 3) := by decide +kernel
theorem dX8_asked_79 : decode cX8_asked 79 = .ok (.if_icmp .ge 42, 3) := by decide +kernel
theorem dX8_asked_82 : decode cX8_asked 82 = .ok (.iload_n 3, 1) := by decide +kernel
theorem dX8_asked_83 : decode cX8_asked 83 = .ok (.aload_n 0, 1) := by decide +kernel
theorem dX8_asked_84 : decode cX8_asked 84 = .ok (.getfield 22, 3) := by decide +kernel
theorem dX8_asked_87 : decode cX8_asked 87 = .ok (.iload 4, 2) := by decide +kernel
theorem dX8_asked_89 : decode cX8_asked 89 = .ok (.iaload, 1) := by decide +kernel
theorem dX8_asked_90 : decode cX8_asked 90 = .ok (.iload_n 2, 1) := by decide +kernel
theorem dX8_asked_91 : decode cX8_asked 91 = .ok (.if_icmp .ne 21, 3) := by decide +kernel
theorem dX8_asked_94 : decode cX8_asked 94 = .ok (.aload_n 0, 1) := by decide +kernel
theorem dX8_asked_95 : decode cX8_asked 95 = .ok (.getfield 19, 3) := by decide +kernel
theorem dX8_asked_98 : decode cX8_asked 98 = .ok (.iload 4, 2) := by decide +kernel
theorem dX8_asked_100 : decode cX8_asked 100 = .ok (.iaload, 1) := by decide +kernel
theorem dX8_asked_101 : decode cX8_asked 101 = .ok (.aload_n 0, 1) := by decide +kernel
theorem dX8_asked_102 : decode cX8_asked 102 = .ok (.getfield 78, 3) := by decide +kernel
theorem dX8_asked_105 : decode cX8_asked 105 = .ok (.iload 4, 2) := by decide +kernel
theorem dX8_asked_107 : decode cX8_asked 107 = .ok (.iaload, 1) := by decide +kernel
theorem dX8_asked_108 : decode cX8_asked 108 = .ok (.imul, 1) := by decide +kernel
theorem dX8_asked_109 : decode cX8_asked 109 = .ok (.goto 4, 3) := by decide +kernel
theorem dX8_asked_112 : decode cX8_asked 112 = .ok (.iconst 0, 1) := by decide +kernel
theorem dX8_asked_113 : decode cX8_asked 113 = .ok (.iadd, 1) := by decide +kernel
theorem dX8_asked_114 : decode cX8_asked 114 = .ok (.istore_n 3, 1) := by decide +kernel
theorem dX8_asked_115 : decode cX8_asked 115 = .ok (.iinc 4 1, 3) := by decide +kernel
theorem dX8_asked_118 : decode cX8_asked 118 = .ok (.goto (-45), 3) := by decide +kernel
theorem dX8_asked_121 : decode cX8_asked 121 = .ok (.iload_n 3, 1) := by decide +kernel
theorem dX8_asked_122 : decode cX8_asked 122 = .ok (.bipush 99, 2) := by decide +kernel
theorem dX8_asked_124 : decode cX8_asked 124 = .ok (.iadd, 1) := by decide +kernel
theorem dX8_asked_125 : decode cX8_asked 125 = .ok (.bipush 100, 2) := by decide +kernel
theorem dX8_asked_127 : decode cX8_asked 127 = .ok (.idiv, 1) := by decide +kernel
theorem dX8_asked_128 : decode cX8_asked 128 = .ok (.ireturn, 1) := by decide +kernel
theorem dX8_mayGo_0 : decode cX8_mayGo 0 = .ok (.iconst 1, 1) := by decide +kernel
theorem dX8_mayGo_1 : decode cX8_mayGo 1 = .ok (.istore_n 2, 1) := by decide +kernel
theorem dX8_mayGo_2 : decode cX8_mayGo 2 = .ok (.iconst 0, 1) := by decide +kernel
theorem dX8_mayGo_3 : decode cX8_mayGo 3 = .ok (.istore_n 3, 1) := by decide +kernel
theorem dX8_mayGo_4 : decode cX8_mayGo 4 = .ok (.iload_n 3, 1) := by decide +kernel
theorem dX8_mayGo_5 : decode cX8_mayGo 5 = .ok (.iconst 3, 1) := by decide +kernel
theorem dX8_mayGo_6 : decode cX8_mayGo 6 = .ok (.if_icmp .ge 34, 3) := by decide +kernel
theorem dX8_mayGo_9 : decode cX8_mayGo 9 = .ok (.iload_n 2, 1) := by decide +kernel
theorem dX8_mayGo_10 : decode cX8_mayGo 10 = .ok (.ifCond .eq 22, 3) := by decide +kernel
theorem dX8_mayGo_13 : decode cX8_mayGo 13 = .ok (.aload_n 0, 1) := by decide +kernel
theorem dX8_mayGo_14 : decode cX8_mayGo 14 = .ok (.iload_n 1, 1) := by decide +kernel
theorem dX8_mayGo_15 : decode cX8_mayGo 15 = .ok (.iload_n 3, 1) := by decide +kernel
theorem dX8_mayGo_16 : decode cX8_mayGo 16 = .ok (.invokevirtual 128, 3) := by decide +kernel
theorem dX8_mayGo_19 : decode cX8_mayGo 19 = .ok (.aload_n 0, 1) := by decide +kernel
theorem dX8_mayGo_20 : decode cX8_mayGo 20 = .ok (.getfield 33, 3) := by decide +kernel
theorem dX8_mayGo_23 : decode cX8_mayGo 23 = .ok (.iload_n 3, 1) := by decide +kernel
theorem dX8_mayGo_24 : decode cX8_mayGo 24 = .ok (.iaload, 1) := by decide +kernel
theorem dX8_mayGo_25 : decode cX8_mayGo 25 = .ok (.if_icmp .gt 7, 3) := by decide +kernel
theorem dX8_mayGo_28 : decode cX8_mayGo 28 = .ok (.iconst 1, 1) := by decide +kernel
theorem dX8_mayGo_29 : decode cX8_mayGo 29 = .ok (.goto 4, 3) := by decide +kernel
theorem dX8_mayGo_32 : decode cX8_mayGo 32 = .ok (.iconst 0, 1) := by decide +kernel
theorem dX8_mayGo_33 : decode cX8_mayGo 33 = .ok (.istore_n 2, 1) := by decide +kernel
theorem dX8_mayGo_34 : decode cX8_mayGo 34 = .ok (.iinc 3 1, 3) := by decide +kernel
theorem dX8_mayGo_37 : decode cX8_mayGo 37 = .ok (.goto (-33), 3) := by decide +kernel
theorem dX8_mayGo_40 : decode cX8_mayGo 40 = .ok (.iload_n 2, 1) := by decide +kernel
theorem dX8_mayGo_41 : decode cX8_mayGo 41 = .ok (.ireturn, 1) := by decide +kernel
theorem dX8_active_0 : decode cX8_active 0 = .ok (.iconst 0, 1) := by decide +kernel
theorem dX8_active_1 : decode cX8_active 1 = .ok (.istore_n 1, 1) := by decide +kernel
theorem dX8_active_2 : decode cX8_active 2 = .ok (.iconst 0, 1) := by decide +kernel
theorem dX8_active_3 : decode cX8_active 3 = .ok (.istore_n 2, 1) := by decide +kernel
theorem dX8_active_4 : decode cX8_active 4 = .ok (.iload_n 2, 1) := by decide +kernel
theorem dX8_active_5 : decode cX8_active 5 = .ok (.aload_n 0, 1) := by decide +kernel
theorem dX8_active_6 : decode cX8_active 6 = .ok (.getfield 91, 3) := by decide +kernel
theorem dX8_active_9 : decode cX8_active 9 = .ok (.if_icmp .ge 26, 3) := by decide +kernel
theorem dX8_active_12 : decode cX8_active 12 = .ok (.iload_n 1, 1) := by decide +kernel
theorem dX8_active_13 : decode cX8_active 13 = .ok (.aload_n 0, 1) := by decide +kernel
theorem dX8_active_14 : decode cX8_active 14 = .ok (.getfield 54, 3) := by decide +kernel
theorem dX8_active_17 : decode cX8_active 17 = .ok (.iload_n 2, 1) := by decide +kernel
theorem dX8_active_18 : decode cX8_active 18 = .ok (.baload, 1) := by decide +kernel
theorem dX8_active_19 : decode cX8_active 19 = .ok (.ifCond .eq 7, 3) := by decide +kernel
theorem dX8_active_22 : decode cX8_active 22 = .ok (.iconst 1, 1) := by decide +kernel
theorem dX8_active_23 : decode cX8_active 23 = .ok (.goto 4, 3) := by decide +kernel
theorem dX8_active_26 : decode cX8_active 26 = .ok (.iconst 0, 1) := by decide +kernel
theorem dX8_active_27 : decode cX8_active 27 = .ok (.iadd, 1) := by decide +kernel
theorem dX8_active_28 : decode cX8_active 28 = .ok (.istore_n 1, 1) := by decide +kernel
theorem dX8_active_29 : decode cX8_active 29 = .ok (.iinc 2 1, 3) := by decide +kernel
theorem dX8_active_32 : decode cX8_active 32 = .ok (.goto (-28), 3) := by decide +kernel
theorem dX8_active_35 : decode cX8_active 35 = .ok (.iload_n 1, 1) := by decide +kernel
theorem dX8_active_36 : decode cX8_active 36 = .ok (.ireturn, 1) := by decide +kernel
theorem dX8_goes_0 : decode cX8_goes 0 = .ok (.aload_n 0, 1) := by decide +kernel
theorem dX8_goes_1 : decode cX8_goes 1 = .ok (.getfield 54, 3) := by decide +kernel
theorem dX8_goes_4 : decode cX8_goes 4 = .ok (.iload_n 1, 1) := by decide +kernel
theorem dX8_goes_5 : decode cX8_goes 5 = .ok (.iconst 1, 1) := by decide +kernel
theorem dX8_goes_6 : decode cX8_goes 6 = .ok (.bastore, 1) := by decide +kernel
theorem dX8_goes_7 : decode cX8_goes 7 = .ok (.aload_n 0, 1) := by decide +kernel
theorem dX8_goes_8 : decode cX8_goes 8 = .ok (.getfield 57, 3) := by decide +kernel
theorem dX8_goes_11 : decode cX8_goes 11 = .ok (.iload_n 1, 1) := by decide +kernel
theorem dX8_goes_12 : decode cX8_goes 12 = .ok (.aload_n 0, 1) := by decide +kernel
theorem dX8_goes_13 : decode cX8_goes 13 = .ok (.getfield 131, 3) := by decide +kernel
theorem dX8_goes_16 : decode cX8_goes 16 = .ok (.iastore, 1) := by decide +kernel
theorem dX8_goes_17 : decode cX8_goes 17 = .ok (.aload_n 0, 1) := by decide +kernel
theorem dX8_goes_18 : decode cX8_goes 18 = .ok (.getfield 63, 3) := by decide +kernel
theorem dX8_goes_21 : decode cX8_goes 21 = .ok (.iload_n 1, 1) := by decide +kernel
theorem dX8_goes_22 : decode cX8_goes 22 = .ok (.iconst (-1), 1) := by decide +kernel
theorem dX8_goes_23 : decode cX8_goes 23 = .ok (.iastore, 1) := by decide +kernel
theorem dX8_goes_24 : decode cX8_goes 24 = .ok (.aload_n 0, 1) := by decide +kernel
theorem dX8_goes_25 : decode cX8_goes 25 = .ok (.getfield 60, 3) := by decide +kernel
theorem dX8_goes_28 : decode cX8_goes 28 = .ok (.iload_n 1, 1) := by decide +kernel
theorem dX8_goes_29 : decode cX8_goes 29 = .ok (.aload_n 0, 1) := by decide +kernel
theorem dX8_goes_30 : decode cX8_goes 30 = .ok (.getfield 134, 3) := by decide +kernel
theorem dX8_goes_33 : decode cX8_goes 33 = .ok (.iastore, 1) := by decide +kernel
theorem dX8_goes_34 : decode cX8_goes 34 = .ok (.aload_n 0, 1) := by decide +kernel
theorem dX8_goes_35 : decode cX8_goes 35 = .ok (.dup, 1) := by decide +kernel
theorem dX8_goes_36 : decode cX8_goes 36 = .ok (.getfield 134, 3) := by decide +kernel
theorem dX8_goes_39 : decode cX8_goes 39 = .ok (.iconst 1, 1) := by decide +kernel
theorem dX8_goes_40 : decode cX8_goes 40 = .ok (.iadd, 1) := by decide +kernel
theorem dX8_goes_41 : decode cX8_goes 41 = .ok (.putfield 134, 3) := by decide +kernel
theorem dX8_goes_44 : decode cX8_goes 44 = .ok (.aload_n 0, 1) := by decide +kernel
theorem dX8_goes_45 : decode cX8_goes 45 = .ok (.getfield 48, 3) := by decide +kernel
theorem dX8_goes_48 : decode cX8_goes 48 = .ok (.iload_n 1, 1) := by decide +kernel
theorem dX8_goes_49 : decode cX8_goes 49 = .ok (.iaload, 1) := by decide +kernel
theorem dX8_goes_50 : decode cX8_goes 50 = .ok (.iconst (-1), 1) := by decide +kernel
theorem dX8_goes_51 : decode cX8_goes 51 = .ok (.if_icmp .eq 48, 3) := by decide +kernel
theorem dX8_goes_54 : decode cX8_goes 54 = .ok (.aload_n 0, 1) := by decide +kernel
theorem dX8_goes_55 : decode cX8_goes 55 = .ok (.getfield 66, 3) := by decide +kernel
theorem dX8_goes_58 : decode cX8_goes 58 = .ok (.aload_n 0, 1) := by decide +kernel
theorem dX8_goes_59 : decode cX8_goes 59 = .ok (.getfield 137, 3) := by decide +kernel
theorem dX8_goes_62 : decode cX8_goes 62 = .ok (.aload_n 0, 1) := by decide +kernel
theorem dX8_goes_63 : decode cX8_goes 63 = .ok (.getfield 48, 3) := by decide +kernel
theorem dX8_goes_66 : decode cX8_goes 66 = .ok (.iload_n 1, 1) := by decide +kernel
theorem dX8_goes_67 : decode cX8_goes 67 = .ok (.iaload, 1) := by decide +kernel
theorem dX8_goes_68 : decode cX8_goes 68 = .ok (.iastore, 1) := by decide +kernel
theorem dX8_goes_69 : decode cX8_goes 69 = .ok (.aload_n 0, 1) := by decide +kernel
theorem dX8_goes_70 : decode cX8_goes 70 = .ok (.getfield 69, 3) := by decide +kernel
theorem dX8_goes_73 : decode cX8_goes 73 = .ok (.aload_n 0, 1) := by decide +kernel
theorem dX8_goes_74 : decode cX8_goes 74 = .ok (.getfield 137, 3) := by decide +kernel
theorem dX8_goes_77 : decode cX8_goes 77 = .ok (.aload_n 0, 1) := by decide +kernel
theorem dX8_goes_78 : decode cX8_goes 78 = .ok (.getfield 131, 3) := by decide +kernel
theorem dX8_goes_81 : decode cX8_goes 81 = .ok (.aload_n 0, 1) := by decide +kernel
theorem dX8_goes_82 : decode cX8_goes 82 = .ok (.getfield 51, 3) := by decide +kernel
theorem dX8_goes_85 : decode cX8_goes 85 = .ok (.iload_n 1, 1) := by decide +kernel
theorem dX8_goes_86 : decode cX8_goes 86 = .ok (.iaload, 1) := by decide +kernel
theorem dX8_goes_87 : decode cX8_goes 87 = .ok (.iadd, 1) := by decide +kernel
theorem dX8_goes_88 : decode cX8_goes 88 = .ok (.iastore, 1) := by decide +kernel
theorem dX8_goes_89 : decode cX8_goes 89 = .ok (.aload_n 0, 1) := by decide +kernel
theorem dX8_goes_90 : decode cX8_goes 90 = .ok (.dup, 1) := by decide +kernel
theorem dX8_goes_91 : decode cX8_goes 91 = .ok (.getfield 137, 3) := by decide +kernel
theorem dX8_goes_94 : decode cX8_goes 94 = .ok (.iconst 1, 1) := by decide +kernel
theorem dX8_goes_95 : decode cX8_goes 95 = .ok (.iadd, 1) := by decide +kernel
theorem dX8_goes_96 : decode cX8_goes 96 = .ok (.putfield 137, 3) := by decide +kernel
theorem dX8_goes_99 : decode cX8_goes 99 = .ok (.return_, 1) := by decide +kernel
theorem dX8_go_0 : decode cX8_go 0 = .ok (.aload_n 0, 1) := by decide +kernel
theorem dX8_go_1 : decode cX8_go 1 = .ok (.iload_n 1, 1) := by decide +kernel
theorem dX8_go_2 : decode cX8_go 2 = .ok (.invokevirtual 107, 3) := by decide +kernel
theorem dX8_go_5 : decode cX8_go 5 = .ok (.istore_n 2, 1) := by decide +kernel
theorem dX8_go_6 : decode cX8_go 6 = .ok (.aload_n 0, 1) := by decide +kernel
theorem dX8_go_7 : decode cX8_go 7 = .ok (.iload_n 2, 1) := by decide +kernel
theorem dX8_go_8 : decode cX8_go 8 = .ok (.ifCond .ne 7, 3) := by decide +kernel
theorem dX8_go_11 : decode cX8_go 11 = .ok (.iconst 1, 1) := by decide +kernel
theorem dX8_go_12 : decode cX8_go 12 = .ok (.goto 16, 3) := by decide +kernel
theorem dX8_go_15 : decode cX8_go 15 = .ok (.aload_n 0, 1) := by decide +kernel
theorem dX8_go_16 : decode cX8_go 16 = .ok (.iload_n 1, 1) := by decide +kernel
theorem dX8_go_17 : decode cX8_go 17 = .ok (.invokevirtual 140, 3) := by decide +kernel
theorem dX8_go_20 : decode cX8_go 20 = .ok (.ifCond .eq 7, 3) := by decide +kernel
theorem dX8_go_23 : decode cX8_go 23 = .ok (.iconst 0, 1) := by decide +kernel
theorem dX8_go_24 : decode cX8_go 24 = .ok (.goto 4, 3) := by decide +kernel
theorem dX8_go_27 : decode cX8_go 27 = .ok (.iconst 2, 1) := by decide +kernel
theorem dX8_go_28 : decode cX8_go 28 = .ok (.invokevirtual 98, 3) := by decide +kernel
theorem dX8_go_31 : decode cX8_go 31 = .ok (.ifCond .ne 5, 3) := by decide +kernel
theorem dX8_go_34 : decode cX8_go 34 = .ok (.iconst 0, 1) := by decide +kernel
theorem dX8_go_35 : decode cX8_go 35 = .ok (.ireturn, 1) := by decide +kernel
theorem dX8_go_36 : decode cX8_go 36 = .ok (.aload_n 0, 1) := by decide +kernel
theorem dX8_go_37 : decode cX8_go 37 = .ok (.iload_n 1, 1) := by decide +kernel
theorem dX8_go_38 : decode cX8_go 38 = .ok (.invokevirtual 143, 3) := by decide +kernel
theorem dX8_go_41 : decode cX8_go 41 = .ok (.aload_n 0, 1) := by decide +kernel
theorem dX8_go_42 : decode cX8_go 42 = .ok (.invokevirtual 146, 3) := by decide +kernel
theorem dX8_go_45 : decode cX8_go 45 = .ok (.ireturn, 1) := by decide +kernel
theorem dX8_ends_0 : decode cX8_ends 0 = .ok (.aload_n 0, 1) := by decide +kernel
theorem dX8_ends_1 : decode cX8_ends 1 = .ok (.getfield 54, 3) := by decide +kernel
theorem dX8_ends_4 : decode cX8_ends 4 = .ok (.iload_n 1, 1) := by decide +kernel
theorem dX8_ends_5 : decode cX8_ends 5 = .ok (.aload_n 0, 1) := by decide +kernel
theorem dX8_ends_6 : decode cX8_ends 6 = .ok (.getfield 54, 3) := by decide +kernel
theorem dX8_ends_9 : decode cX8_ends 9 = .ok (.iload_n 1, 1) := by decide +kernel
theorem dX8_ends_10 : decode cX8_ends 10 = .ok (.baload, 1) := by decide +kernel
theorem dX8_ends_11 : decode cX8_ends 11 = .ok (.ifCond .eq 37, 3) := by decide +kernel
theorem dX8_ends_14 : decode cX8_ends 14 = .ok (.aload_n 0, 1) := by decide +kernel
theorem dX8_ends_15 : decode cX8_ends 15 = .ok (.getfield 63, 3) := by decide +kernel
theorem dX8_ends_18 : decode cX8_ends 18 = .ok (.iload_n 1, 1) := by decide +kernel
theorem dX8_ends_19 : decode cX8_ends 19 = .ok (.iaload, 1) := by decide +kernel
theorem dX8_ends_20 : decode cX8_ends 20 = .ok (.iconst (-1), 1) := by decide +kernel
theorem dX8_ends_21 : decode cX8_ends 21 = .ok (.if_icmp .eq 23, 3) := by decide +kernel
theorem dX8_ends_24 : decode cX8_ends 24 = .ok (.aload_n 0, 1) := by decide +kernel
theorem dX8_ends_25 : decode cX8_ends 25 = .ok (.getfield 131, 3) := by decide +kernel
theorem dX8_ends_28 : decode cX8_ends 28 = .ok (.aload_n 0, 1) := by decide +kernel
theorem dX8_ends_29 : decode cX8_ends 29 = .ok (.getfield 63, 3) := by decide +kernel
theorem dX8_ends_32 : decode cX8_ends 32 = .ok (.iload_n 1, 1) := by decide +kernel
theorem dX8_ends_33 : decode cX8_ends 33 = .ok (.iaload, 1) := by decide +kernel
theorem dX8_ends_34 : decode cX8_ends 34 = .ok (.isub, 1) := by decide +kernel
theorem dX8_ends_35 : decode cX8_ends 35 = .ok (.aload_n 0, 1) := by decide +kernel
theorem dX8_ends_36 : decode cX8_ends 36 = .ok (.getfield 42, 3) := by decide +kernel
theorem dX8_ends_39 : decode cX8_ends 39 = .ok (.iload_n 1, 1) := by decide +kernel
theorem dX8_ends_40 : decode cX8_ends 40 = .ok (.iaload, 1) := by decide +kernel
theorem dX8_ends_41 : decode cX8_ends 41 = .ok (.if_icmp .ge 7, 3) := by decide +kernel
theorem dX8_ends_44 : decode cX8_ends 44 = .ok (.iconst 1, 1) := by decide +kernel
theorem dX8_ends_45 : decode cX8_ends 45 = .ok (.goto 4, 3) := by decide +kernel
theorem dX8_ends_48 : decode cX8_ends 48 = .ok (.iconst 0, 1) := by decide +kernel
theorem dX8_ends_49 : decode cX8_ends 49 = .ok (.bastore, 1) := by decide +kernel
theorem dX8_ends_50 : decode cX8_ends 50 = .ok (.return_, 1) := by decide +kernel
theorem dX8_release_0 : decode cX8_release 0 = .ok (.aload_n 0, 1) := by decide +kernel
theorem dX8_release_1 : decode cX8_release 1 = .ok (.iload_n 1, 1) := by decide +kernel
theorem dX8_release_2 : decode cX8_release 2 = .ok (.invokevirtual 107, 3) := by decide +kernel
theorem dX8_release_5 : decode cX8_release 5 = .ok (.istore_n 2, 1) := by decide +kernel
theorem dX8_release_6 : decode cX8_release 6 = .ok (.aload_n 0, 1) := by decide +kernel
theorem dX8_release_7 : decode cX8_release 7 = .ok (.iload_n 2, 1) := by decide +kernel
theorem dX8_release_8 : decode cX8_release 8 = .ok (.ifCond .ne 7, 3) := by decide +kernel
theorem dX8_release_11 : decode cX8_release 11 = .ok (.iconst 1, 1) := by decide +kernel
theorem dX8_release_12 : decode cX8_release 12 = .ok (.goto 27, 3) := by decide +kernel
theorem dX8_release_15 : decode cX8_release 15 = .ok (.aload_n 0, 1) := by decide +kernel
theorem dX8_release_16 : decode cX8_release 16 = .ok (.getfield 54, 3) := by decide +kernel
theorem dX8_release_19 : decode cX8_release 19 = .ok (.iload_n 1, 1) := by decide +kernel
theorem dX8_release_20 : decode cX8_release 20 = .ok (.baload, 1) := by decide +kernel
theorem dX8_release_21 : decode cX8_release 21 = .ok (.ifCond .eq 13, 3) := by decide +kernel
theorem dX8_release_24 : decode cX8_release 24 = .ok (.aload_n 0, 1) := by decide +kernel
theorem dX8_release_25 : decode cX8_release 25 = .ok (.getfield 63, 3) := by decide +kernel
theorem dX8_release_28 : decode cX8_release 28 = .ok (.iload_n 1, 1) := by decide +kernel
theorem dX8_release_29 : decode cX8_release 29 = .ok (.iaload, 1) := by decide +kernel
theorem dX8_release_30 : decode cX8_release 30 = .ok (.iconst (-1), 1) := by decide +kernel
theorem dX8_release_31 : decode cX8_release 31 = .ok (.if_icmp .eq 7, 3) := by decide +kernel
theorem dX8_release_34 : decode cX8_release 34 = .ok (.iconst 2, 1) := by decide +kernel
theorem dX8_release_35 : decode cX8_release 35 = .ok (.goto 4, 3) := by decide +kernel
theorem dX8_release_38 : decode cX8_release 38 = .ok (.iconst 0, 1) := by decide +kernel
theorem dX8_release_39 : decode cX8_release 39 = .ok (.invokevirtual 98, 3) := by decide +kernel
theorem dX8_release_42 : decode cX8_release 42 = .ok (.ifCond .ne 5, 3) := by decide +kernel
theorem dX8_release_45 : decode cX8_release 45 = .ok (.iconst 0, 1) := by decide +kernel
theorem dX8_release_46 : decode cX8_release 46 = .ok (.ireturn, 1) := by decide +kernel
theorem dX8_release_47 : decode cX8_release 47 = .ok (.aload_n 0, 1) := by decide +kernel
theorem dX8_release_48 : decode cX8_release 48 = .ok (.getfield 63, 3) := by decide +kernel
theorem dX8_release_51 : decode cX8_release 51 = .ok (.iload_n 1, 1) := by decide +kernel
theorem dX8_release_52 : decode cX8_release 52 = .ok (.aload_n 0, 1) := by decide +kernel
theorem dX8_release_53 : decode cX8_release 53 = .ok (.getfield 131, 3) := by decide +kernel
theorem dX8_release_56 : decode cX8_release 56 = .ok (.iastore, 1) := by decide +kernel
theorem dX8_release_57 : decode cX8_release 57 = .ok (.aload_n 0, 1) := by decide +kernel
theorem dX8_release_58 : decode cX8_release 58 = .ok (.iload_n 1, 1) := by decide +kernel
theorem dX8_release_59 : decode cX8_release 59 = .ok (.invokevirtual 150, 3) := by decide +kernel
theorem dX8_release_62 : decode cX8_release 62 = .ok (.aload_n 0, 1) := by decide +kernel
theorem dX8_release_63 : decode cX8_release 63 = .ok (.getfield 54, 3) := by decide +kernel
theorem dX8_release_66 : decode cX8_release 66 = .ok (.iload_n 1, 1) := by decide +kernel
theorem dX8_release_67 : decode cX8_release 67 = .ok (.baload, 1) := by decide +kernel
theorem dX8_release_68 : decode cX8_release 68 = .ok (.ireturn, 1) := by decide +kernel
theorem dX8_follows_0 : decode cX8_follows 0 = .ok (.aload_n 0, 1) := by decide +kernel
theorem dX8_follows_1 : decode cX8_follows 1 = .ok (.getfield 137, 3) := by decide +kernel
theorem dX8_follows_4 : decode cX8_follows 4 = .ok (.istore_n 1, 1) := by decide +kernel
theorem dX8_follows_5 : decode cX8_follows 5 = .ok (.iconst 0, 1) := by decide +kernel
theorem dX8_follows_6 : decode cX8_follows 6 = .ok (.istore_n 2, 1) := by decide +kernel
theorem dX8_follows_7 : decode cX8_follows 7 = .ok (.aload_n 0, 1) := by decide +kernel
theorem dX8_follows_8 : decode cX8_follows 8 = .ok (.getfield 137, 3) := by decide +kernel
theorem dX8_follows_11 : decode cX8_follows 11 = .ok (.istore_n 3, 1) := by decide +kernel
theorem dX8_follows_12 : decode cX8_follows 12 = .ok (.iconst 0, 1) := by decide +kernel
theorem dX8_follows_13 : decode cX8_follows 13 = .ok (.istore 4, 2) := by decide +kernel
theorem dX8_follows_15 : decode cX8_follows 15 = .ok (.iload 4, 2) := by decide +kernel
theorem dX8_follows_17 : decode cX8_follows 17 = .ok (.iload_n 1, 1) := by decide +kernel
theorem dX8_follows_18 : decode cX8_follows 18 = .ok (.if_icmp .ge 93, 3) := by decide +kernel
theorem dX8_follows_21 : decode cX8_follows 21 = .ok (.aload_n 0, 1) := by decide +kernel
theorem dX8_follows_22 : decode cX8_follows 22 = .ok (.getfield 69, 3) := by decide +kernel
theorem dX8_follows_25 : decode cX8_follows 25 = .ok (.iload 4, 2) := by decide +kernel
theorem dX8_follows_27 : decode cX8_follows 27 = .ok (.iaload, 1) := by decide +kernel
theorem dX8_follows_28 : decode cX8_follows 28 = .ok (.aload_n 0, 1) := by decide +kernel
theorem dX8_follows_29 : decode cX8_follows 29 = .ok (.getfield 131, 3) := by decide +kernel
theorem dX8_follows_32 : decode cX8_follows 32 = .ok (.if_icmp .ne 44, 3) := by decide +kernel
theorem dX8_follows_35 : decode cX8_follows 35 = .ok (.aload_n 0, 1) := by decide +kernel
theorem dX8_follows_36 : decode cX8_follows 36 = .ok (.aload_n 0, 1) := by decide +kernel
theorem dX8_follows_37 : decode cX8_follows 37 = .ok (.getfield 66, 3) := by decide +kernel
theorem dX8_follows_40 : decode cX8_follows 40 = .ok (.iload 4, 2) := by decide +kernel
theorem dX8_follows_42 : decode cX8_follows 42 = .ok (.iaload, 1) := by decide +kernel
theorem dX8_follows_43 : decode cX8_follows 43 = .ok (.invokevirtual 140, 3) := by decide +kernel
theorem dX8_follows_46 : decode cX8_follows 46 = .ok (.ifCond .eq 17, 3) := by decide +kernel
theorem dX8_follows_49 : decode cX8_follows 49 = .ok (.aload_n 0, 1) := by decide +kernel
theorem dX8_follows_50 : decode cX8_follows 50 = .ok (.aload_n 0, 1) := by decide +kernel
theorem dX8_follows_51 : decode cX8_follows 51 = .ok (.getfield 66, 3) := by decide +kernel
theorem dX8_follows_54 : decode cX8_follows 54 = .ok (.iload 4, 2) := by decide +kernel
theorem dX8_follows_56 : decode cX8_follows 56 = .ok (.iaload, 1) := by decide +kernel
theorem dX8_follows_57 : decode cX8_follows 57 = .ok (.invokevirtual 143, 3) := by decide +kernel
theorem dX8_follows_60 : decode cX8_follows 60 = .ok (.goto 45, 3) := by decide +kernel
theorem dX8_follows_63 : decode cX8_follows 63 = .ok (.aload_n 0, 1) := by decide +kernel
theorem dX8_follows_64 : decode cX8_follows 64 = .ok (.dup, 1) := by decide +kernel
theorem dX8_follows_65 : decode cX8_follows 65 = .ok (.getfield 153, 3) := by decide +kernel
theorem dX8_follows_68 : decode cX8_follows 68 = .ok (.iconst 1, 1) := by decide +kernel
theorem dX8_follows_69 : decode cX8_follows 69 = .ok (.iadd, 1) := by decide +kernel
theorem dX8_follows_70 : decode cX8_follows 70 = .ok (.putfield 153, 3) := by decide +kernel
theorem dX8_follows_73 : decode cX8_follows 73 = .ok (.goto 32, 3) := by decide +kernel
theorem dX8_follows_76 : decode cX8_follows 76 = .ok (.aload_n 0, 1) := by decide +kernel
theorem dX8_follows_77 : decode cX8_follows 77 = .ok (.getfield 66, 3) := by decide +kernel
theorem dX8_follows_80 : decode cX8_follows 80 = .ok (.iload_n 2, 1) := by decide +kernel
theorem dX8_follows_81 : decode cX8_follows 81 = .ok (.aload_n 0, 1) := by decide +kernel
theorem dX8_follows_82 : decode cX8_follows 82 = .ok (.getfield 66, 3) := by decide +kernel
theorem dX8_follows_85 : decode cX8_follows 85 = .ok (.iload 4, 2) := by decide +kernel
theorem dX8_follows_87 : decode cX8_follows 87 = .ok (.iaload, 1) := by decide +kernel
theorem dX8_follows_88 : decode cX8_follows 88 = .ok (.iastore, 1) := by decide +kernel
theorem dX8_follows_89 : decode cX8_follows 89 = .ok (.aload_n 0, 1) := by decide +kernel
theorem dX8_follows_90 : decode cX8_follows 90 = .ok (.getfield 69, 3) := by decide +kernel
theorem dX8_follows_93 : decode cX8_follows 93 = .ok (.iload_n 2, 1) := by decide +kernel
theorem dX8_follows_94 : decode cX8_follows 94 = .ok (.aload_n 0, 1) := by decide +kernel
theorem dX8_follows_95 : decode cX8_follows 95 = .ok (.getfield 69, 3) := by decide +kernel
theorem dX8_follows_98 : decode cX8_follows 98 = .ok (.iload 4, 2) := by decide +kernel
theorem dX8_follows_100 : decode cX8_follows 100 = .ok (.iaload, 1) := by decide +kernel
theorem dX8_follows_101 : decode cX8_follows 101 = .ok (.iastore, 1) := by decide +kernel
theorem dX8_follows_102 : decode cX8_follows 102 = .ok (.iinc 2 1, 3) := by decide +kernel
theorem dX8_follows_105 : decode cX8_follows 105 = .ok (.iinc 4 1, 3) := by decide +kernel
theorem dX8_follows_108 : decode cX8_follows 108 = .ok (.goto (-93), 3) := by decide +kernel
theorem dX8_follows_111 : decode cX8_follows 111 = .ok (.iload_n 3, 1) := by decide +kernel
theorem dX8_follows_112 : decode cX8_follows 112 = .ok (.istore 4, 2) := by decide +kernel
theorem dX8_follows_114 : decode cX8_follows 114 = .ok (.iload 4, 2) := by decide +kernel
theorem dX8_follows_116 : decode cX8_follows 116 = .ok (.aload_n 0, 1) := by decide +kernel
theorem dX8_follows_117 : decode cX8_follows 117 = .ok (.getfield 137, 3) := by decide +kernel
theorem dX8_follows_120 : decode cX8_follows 120 = .ok (.if_icmp .ge 38, 3) := by decide +kernel
theorem dX8_follows_123 : decode cX8_follows 123 = .ok (.aload_n 0, 1) := by decide +kernel
theorem dX8_follows_124 : decode cX8_follows 124 = .ok (.getfield 66, 3) := by decide +kernel
theorem dX8_follows_127 : decode cX8_follows 127 = .ok (.iload_n 2, 1) := by decide +kernel
theorem dX8_follows_128 : decode cX8_follows 128 = .ok (.aload_n 0, 1) := by decide +kernel
theorem dX8_follows_129 : decode cX8_follows 129 = .ok (.getfield 66, 3) := by decide +kernel
theorem dX8_follows_132 : decode cX8_follows 132 = .ok (.iload 4, 2) := by decide +kernel
theorem dX8_follows_134 : decode cX8_follows 134 = .ok (.iaload, 1) := by decide +kernel
theorem dX8_follows_135 : decode cX8_follows 135 = .ok (.iastore, 1) := by decide +kernel
theorem dX8_follows_136 : decode cX8_follows 136 = .ok (.aload_n 0, 1) := by decide +kernel
theorem dX8_follows_137 : decode cX8_follows 137 = .ok (.getfield 69, 3) := by decide +kernel
theorem dX8_follows_140 : decode cX8_follows 140 = .ok (.iload_n 2, 1) := by decide +kernel
theorem dX8_follows_141 : decode cX8_follows 141 = .ok (.aload_n 0, 1) := by decide +kernel
theorem dX8_follows_142 : decode cX8_follows 142 = .ok (.getfield 69, 3) := by decide +kernel
theorem dX8_follows_145 : decode cX8_follows 145 = .ok (.iload 4, 2) := by decide +kernel
theorem dX8_follows_147 : decode cX8_follows 147 = .ok (.iaload, 1) := by decide +kernel
theorem dX8_follows_148 : decode cX8_follows 148 = .ok (.iastore, 1) := by decide +kernel
theorem dX8_follows_149 : decode cX8_follows 149 = .ok (.iinc 2 1, 3) := by decide +kernel
theorem dX8_follows_152 : decode cX8_follows 152 = .ok (.iinc 4 1, 3) := by decide +kernel
theorem dX8_follows_155 : decode cX8_follows 155 = .ok (.goto (-41), 3) := by decide +kernel
theorem dX8_follows_158 : decode cX8_follows 158 = .ok (.aload_n 0, 1) := by decide +kernel
theorem dX8_follows_159 : decode cX8_follows 159 = .ok (.iload_n 2, 1) := by decide +kernel
theorem dX8_follows_160 : decode cX8_follows 160 = .ok (.putfield 137, 3) := by decide +kernel
theorem dX8_follows_163 : decode cX8_follows 163 = .ok (.return_, 1) := by decide +kernel
theorem dX8_pass_0 : decode cX8_pass 0 = .ok (.aload_n 0, 1) := by decide +kernel
theorem dX8_pass_1 : decode cX8_pass 1 = .ok (.iload_n 1, 1) := by decide +kernel
theorem dX8_pass_2 : decode cX8_pass 2 = .ok (.iconst 1, 1) := by decide +kernel
theorem dX8_pass_3 : decode cX8_pass 3 = .ok (.bipush 20, 2) := by decide +kernel
theorem dX8_pass_5 : decode cX8_pass 5 = .ok (.invokestatic 87, 3) := by decide +kernel
theorem dX8_pass_8 : decode cX8_pass 8 = .ok (.ifCond .eq 7, 3) := by decide +kernel
theorem dX8_pass_11 : decode cX8_pass 11 = .ok (.iconst 0, 1) := by decide +kernel
theorem dX8_pass_12 : decode cX8_pass 12 = .ok (.goto 4, 3) := by decide +kernel
theorem dX8_pass_15 : decode cX8_pass 15 = .ok (.iconst 1, 1) := by decide +kernel
theorem dX8_pass_16 : decode cX8_pass 16 = .ok (.invokevirtual 98, 3) := by decide +kernel
theorem dX8_pass_19 : decode cX8_pass 19 = .ok (.ifCond .ne 5, 3) := by decide +kernel
theorem dX8_pass_22 : decode cX8_pass 22 = .ok (.iconst 0, 1) := by decide +kernel
theorem dX8_pass_23 : decode cX8_pass 23 = .ok (.ireturn, 1) := by decide +kernel
theorem dX8_pass_24 : decode cX8_pass 24 = .ok (.iconst 0, 1) := by decide +kernel
theorem dX8_pass_25 : decode cX8_pass 25 = .ok (.istore_n 2, 1) := by decide +kernel
theorem dX8_pass_26 : decode cX8_pass 26 = .ok (.iload_n 2, 1) := by decide +kernel
theorem dX8_pass_27 : decode cX8_pass 27 = .ok (.iload_n 1, 1) := by decide +kernel
theorem dX8_pass_28 : decode cX8_pass 28 = .ok (.if_icmp .ge 44, 3) := by decide +kernel
theorem dX8_pass_31 : decode cX8_pass 31 = .ok (.aload_n 0, 1) := by decide +kernel
theorem dX8_pass_32 : decode cX8_pass 32 = .ok (.dup, 1) := by decide +kernel
theorem dX8_pass_33 : decode cX8_pass 33 = .ok (.getfield 131, 3) := by decide +kernel
theorem dX8_pass_36 : decode cX8_pass 36 = .ok (.iconst 1, 1) := by decide +kernel
theorem dX8_pass_37 : decode cX8_pass 37 = .ok (.iadd, 1) := by decide +kernel
theorem dX8_pass_38 : decode cX8_pass 38 = .ok (.putfield 131, 3) := by decide +kernel
theorem dX8_pass_41 : decode cX8_pass 41 = .ok (.iconst 0, 1) := by decide +kernel
theorem dX8_pass_42 : decode cX8_pass 42 = .ok (.istore_n 3, 1) := by decide +kernel
theorem dX8_pass_43 : decode cX8_pass 43 = .ok (.iload_n 3, 1) := by decide +kernel
theorem dX8_pass_44 : decode cX8_pass 44 = .ok (.aload_n 0, 1) := by decide +kernel
theorem dX8_pass_45 : decode cX8_pass 45 = .ok (.getfield 91, 3) := by decide +kernel
theorem dX8_pass_48 : decode cX8_pass 48 = .ok (.if_icmp .ge 14, 3) := by decide +kernel
theorem dX8_pass_51 : decode cX8_pass 51 = .ok (.aload_n 0, 1) := by decide +kernel
theorem dX8_pass_52 : decode cX8_pass 52 = .ok (.iload_n 3, 1) := by decide +kernel
theorem dX8_pass_53 : decode cX8_pass 53 = .ok (.invokevirtual 150, 3) := by decide +kernel
theorem dX8_pass_56 : decode cX8_pass 56 = .ok (.iinc 3 1, 3) := by decide +kernel
theorem dX8_pass_59 : decode cX8_pass 59 = .ok (.goto (-16), 3) := by decide +kernel
theorem dX8_pass_62 : decode cX8_pass 62 = .ok (.aload_n 0, 1) := by decide +kernel
theorem dX8_pass_63 : decode cX8_pass 63 = .ok (.invokevirtual 156, 3) := by decide +kernel
theorem dX8_pass_66 : decode cX8_pass 66 = .ok (.iinc 2 1, 3) := by decide +kernel
theorem dX8_pass_69 : decode cX8_pass 69 = .ok (.goto (-43), 3) := by decide +kernel
theorem dX8_pass_72 : decode cX8_pass 72 = .ok (.aload_n 0, 1) := by decide +kernel
theorem dX8_pass_73 : decode cX8_pass 73 = .ok (.getfield 131, 3) := by decide +kernel
theorem dX8_pass_76 : decode cX8_pass 76 = .ok (.ireturn, 1) := by decide +kernel
theorem dX8_rising_0 : decode cX8_rising 0 = .ok (.aload_n 0, 1) := by decide +kernel
theorem dX8_rising_1 : decode cX8_rising 1 = .ok (.getfield 39, 3) := by decide +kernel
theorem dX8_rising_4 : decode cX8_rising 4 = .ok (.iload_n 1, 1) := by decide +kernel
theorem dX8_rising_5 : decode cX8_rising 5 = .ok (.iaload, 1) := by decide +kernel
theorem dX8_rising_6 : decode cX8_rising 6 = .ok (.ifCond .ne 5, 3) := by decide +kernel
theorem dX8_rising_9 : decode cX8_rising 9 = .ok (.fconst 1, 1) := by decide +kernel
theorem dX8_rising_10 : decode cX8_rising 10 = .ok (.freturn, 1) := by decide +kernel
theorem dX8_rising_11 : decode cX8_rising 11 = .ok (.iload_n 2, 1) := by decide +kernel
theorem dX8_rising_12 : decode cX8_rising 12 = .ok (.aload_n 0, 1) := by decide +kernel
theorem dX8_rising_13 : decode cX8_rising 13 = .ok (.getfield 57, 3) := by decide +kernel
theorem dX8_rising_16 : decode cX8_rising 16 = .ok (.iload_n 1, 1) := by decide +kernel
theorem dX8_rising_17 : decode cX8_rising 17 = .ok (.iaload, 1) := by decide +kernel
theorem dX8_rising_18 : decode cX8_rising 18 = .ok (.isub, 1) := by decide +kernel
theorem dX8_rising_19 : decode cX8_rising 19 = .ok (.i2f, 1) := by decide +kernel
theorem dX8_rising_20 : decode cX8_rising 20 = .ok (.aload_n 0, 1) := by decide +kernel
theorem dX8_rising_21 : decode cX8_rising 21 = .ok (.getfield 39, 3) := by decide +kernel
theorem dX8_rising_24 : decode cX8_rising 24 = .ok (.iload_n 1, 1) := by decide +kernel
theorem dX8_rising_25 : decode cX8_rising 25 = .ok (.iaload, 1) := by decide +kernel
theorem dX8_rising_26 : decode cX8_rising 26 = .ok (.i2f, 1) := by decide +kernel
theorem dX8_rising_27 : decode cX8_rising 27 = .ok (.fdiv, 1) := by decide +kernel
theorem dX8_rising_28 : decode cX8_rising 28 = .ok (.fstore_n 3, 1) := by decide +kernel
theorem dX8_rising_29 : decode cX8_rising 29 = .ok (.fload_n 3, 1) := by decide +kernel
theorem dX8_rising_30 : decode cX8_rising 30 = .ok (.fconst 1, 1) := by decide +kernel
theorem dX8_rising_31 : decode cX8_rising 31 = .ok (.fcmp .l, 1) := by decide +kernel
theorem dX8_rising_32 : decode cX8_rising 32 = .ok (.ifCond .le 7, 3) := by decide +kernel
theorem dX8_rising_35 : decode cX8_rising 35 = .ok (.fconst 1, 1) := by decide +kernel
theorem dX8_rising_36 : decode cX8_rising 36 = .ok (.goto 4, 3) := by decide +kernel
theorem dX8_rising_39 : decode cX8_rising 39 = .ok (.fload_n 3, 1) := by decide +kernel
theorem dX8_rising_40 : decode cX8_rising 40 = .ok (.freturn, 1) := by decide +kernel
theorem dX8_master_0 : decode cX8_master 0 = .ok (.aload_n 0, 1) := by decide +kernel
theorem dX8_master_1 : decode cX8_master 1 = .ok (.getfield 63, 3) := by decide +kernel
theorem dX8_master_4 : decode cX8_master 4 = .ok (.iload_n 1, 1) := by decide +kernel
theorem dX8_master_5 : decode cX8_master 5 = .ok (.iaload, 1) := by decide +kernel
theorem dX8_master_6 : decode cX8_master 6 = .ok (.iconst (-1), 1) := by decide +kernel
theorem dX8_master_7 : decode cX8_master 7 = .ok (.if_icmp .ne 13, 3) := by decide +kernel
theorem dX8_master_10 : decode cX8_master 10 = .ok (.aload_n 0, 1) := by decide +kernel
theorem dX8_master_11 : decode cX8_master 11 = .ok (.iload_n 1, 1) := by decide +kernel
theorem dX8_master_12 : decode cX8_master 12 = .ok (.aload_n 0, 1) := by decide +kernel
theorem dX8_master_13 : decode cX8_master 13 = .ok (.getfield 131, 3) := by decide +kernel
theorem dX8_master_16 : decode cX8_master 16 = .ok (.invokevirtual 159, 3) := by decide +kernel
theorem dX8_master_19 : decode cX8_master 19 = .ok (.freturn, 1) := by decide +kernel
theorem dX8_master_20 : decode cX8_master 20 = .ok (.aload_n 0, 1) := by decide +kernel
theorem dX8_master_21 : decode cX8_master 21 = .ok (.iload_n 1, 1) := by decide +kernel
theorem dX8_master_22 : decode cX8_master 22 = .ok (.aload_n 0, 1) := by decide +kernel
theorem dX8_master_23 : decode cX8_master 23 = .ok (.getfield 63, 3) := by decide +kernel
theorem dX8_master_26 : decode cX8_master 26 = .ok (.iload_n 1, 1) := by decide +kernel
theorem dX8_master_27 : decode cX8_master 27 = .ok (.iaload, 1) := by decide +kernel
theorem dX8_master_28 : decode cX8_master 28 = .ok (.invokevirtual 159, 3) := by decide +kernel
theorem dX8_master_31 : decode cX8_master 31 = .ok (.fconst 1, 1) := by decide +kernel
theorem dX8_master_32 : decode cX8_master 32 = .ok (.aload_n 0, 1) := by decide +kernel
theorem dX8_master_33 : decode cX8_master 33 = .ok (.getfield 131, 3) := by decide +kernel
theorem dX8_master_36 : decode cX8_master 36 = .ok (.aload_n 0, 1) := by decide +kernel
theorem dX8_master_37 : decode cX8_master 37 = .ok (.getfield 63, 3) := by decide +kernel
theorem dX8_master_40 : decode cX8_master 40 = .ok (.iload_n 1, 1) := by decide +kernel
theorem dX8_master_41 : decode cX8_master 41 = .ok (.iaload, 1) := by decide +kernel
theorem dX8_master_42 : decode cX8_master 42 = .ok (.isub, 1) := by decide +kernel
theorem dX8_master_43 : decode cX8_master 43 = .ok (.i2f, 1) := by decide +kernel
theorem dX8_master_44 : decode cX8_master 44 = .ok (.aload_n 0, 1) := by decide +kernel
theorem dX8_master_45 : decode cX8_master 45 = .ok (.getfield 42, 3) := by decide +kernel
theorem dX8_master_48 : decode cX8_master 48 = .ok (.iload_n 1, 1) := by decide +kernel
theorem dX8_master_49 : decode cX8_master 49 = .ok (.iaload, 1) := by decide +kernel
theorem dX8_master_50 : decode cX8_master 50 = .ok (.i2f, 1) := by decide +kernel
theorem dX8_master_51 : decode cX8_master 51 = .ok (.fdiv, 1) := by decide +kernel
theorem dX8_master_52 : decode cX8_master 52 = .ok (.fsub, 1) := by decide +kernel
theorem dX8_master_53 : decode cX8_master 53 = .ok (.fmul, 1) := by decide +kernel
theorem dX8_master_54 : decode cX8_master 54 = .ok (.freturn, 1) := by decide +kernel
theorem dX8_after_0 : decode cX8_after 0 = .ok (.iconst (-1), 1) := by decide +kernel
theorem dX8_after_1 : decode cX8_after 1 = .ok (.istore_n 2, 1) := by decide +kernel
theorem dX8_after_2 : decode cX8_after 2 = .ok (.iconst 0, 1) := by decide +kernel
theorem dX8_after_3 : decode cX8_after 3 = .ok (.istore_n 3, 1) := by decide +kernel
theorem dX8_after_4 : decode cX8_after 4 = .ok (.iload_n 3, 1) := by decide +kernel
theorem dX8_after_5 : decode cX8_after 5 = .ok (.aload_n 0, 1) := by decide +kernel
theorem dX8_after_6 : decode cX8_after 6 = .ok (.getfield 91, 3) := by decide +kernel
theorem dX8_after_9 : decode cX8_after 9 = .ok (.if_icmp .ge 54, 3) := by decide +kernel
theorem dX8_after_12 : decode cX8_after 12 = .ok (.aload_n 0, 1) := by decide +kernel
theorem dX8_after_13 : decode cX8_after 13 = .ok (.getfield 54, 3) := by decide +kernel
theorem dX8_after_16 : decode cX8_after 16 = .ok (.iload_n 3, 1) := by decide +kernel
theorem dX8_after_17 : decode cX8_after 17 = .ok (.baload, 1) := by decide +kernel
theorem dX8_after_18 : decode cX8_after 18 = .ok (.ifCond .eq 37, 3) := by decide +kernel
theorem dX8_after_21 : decode cX8_after 21 = .ok (.aload_n 0, 1) := by decide +kernel
theorem dX8_after_22 : decode cX8_after 22 = .ok (.getfield 60, 3) := by decide +kernel
theorem dX8_after_25 : decode cX8_after 25 = .ok (.iload_n 3, 1) := by decide +kernel
theorem dX8_after_26 : decode cX8_after 26 = .ok (.iaload, 1) := by decide +kernel
theorem dX8_after_27 : decode cX8_after 27 = .ok (.iload_n 1, 1) := by decide +kernel
theorem dX8_after_28 : decode cX8_after 28 = .ok (.if_icmp .le 27, 3) := by decide +kernel
theorem dX8_after_31 : decode cX8_after 31 = .ok (.iload_n 2, 1) := by decide +kernel
theorem dX8_after_32 : decode cX8_after 32 = .ok (.iconst (-1), 1) := by decide +kernel
theorem dX8_after_33 : decode cX8_after 33 = .ok (.if_icmp .eq 18, 3) := by decide +kernel
theorem dX8_after_36 : decode cX8_after 36 = .ok (.aload_n 0, 1) := by decide +kernel
theorem dX8_after_37 : decode cX8_after 37 = .ok (.getfield 60, 3) := by decide +kernel
theorem dX8_after_40 : decode cX8_after 40 = .ok (.iload_n 3, 1) := by decide +kernel
theorem dX8_after_41 : decode cX8_after 41 = .ok (.iaload, 1) := by decide +kernel
theorem dX8_after_42 : decode cX8_after 42 = .ok (.aload_n 0, 1) := by decide +kernel
theorem dX8_after_43 : decode cX8_after 43 = .ok (.getfield 60, 3) := by decide +kernel
theorem dX8_after_46 : decode cX8_after 46 = .ok (.iload_n 2, 1) := by decide +kernel
theorem dX8_after_47 : decode cX8_after 47 = .ok (.iaload, 1) := by decide +kernel
theorem dX8_after_48 : decode cX8_after 48 = .ok (.if_icmp .ge 7, 3) := by decide +kernel
theorem dX8_after_51 : decode cX8_after 51 = .ok (.iload_n 3, 1) := by decide +kernel
theorem dX8_after_52 : decode cX8_after 52 = .ok (.goto 4, 3) := by decide +kernel
theorem dX8_after_55 : decode cX8_after 55 = .ok (.iload_n 2, 1) := by decide +kernel
theorem dX8_after_56 : decode cX8_after 56 = .ok (.istore_n 2, 1) := by decide +kernel
theorem dX8_after_57 : decode cX8_after 57 = .ok (.iinc 3 1, 3) := by decide +kernel
theorem dX8_after_60 : decode cX8_after 60 = .ok (.goto (-56), 3) := by decide +kernel
theorem dX8_after_63 : decode cX8_after 63 = .ok (.iload_n 2, 1) := by decide +kernel
theorem dX8_after_64 : decode cX8_after 64 = .ok (.ireturn, 1) := by decide +kernel
theorem dX8_levelNow_0 : decode cX8_levelNow 0 = .ok (.fconst 0, 1) := by decide +kernel
theorem dX8_levelNow_1 : decode cX8_levelNow 1 = .ok (.fstore_n 2, 1) := by decide +kernel
theorem dX8_levelNow_2 : decode cX8_levelNow 2 = .ok (.iconst 0, 1) := by decide +kernel
theorem dX8_levelNow_3 : decode cX8_levelNow 3 = .ok (.istore_n 3, 1) := by decide +kernel
theorem dX8_levelNow_4 : decode cX8_levelNow 4 = .ok (.iload_n 3, 1) := by decide +kernel
theorem dX8_levelNow_5 : decode cX8_levelNow 5 = .ok (.iconst 1, 1) := by decide +kernel
theorem dX8_levelNow_6 : decode cX8_levelNow 6 = .ok (.if_icmp .gt 124, 3) := by decide +kernel
theorem dX8_levelNow_9 : decode cX8_levelNow 9 = .ok (.aload_n 0, 1) := by decide +kernel
theorem dX8_levelNow_10 : decode cX8_levelNow 10 = .ok (.iconst (-1), 1) := by decide +kernel
theorem dX8_levelNow_11 : decode cX8_levelNow 11 = .ok (.invokevirtual 163, 3) := by decide +kernel
theorem dX8_levelNow_14 : decode cX8_levelNow 14 = .ok (.istore 4, 2) := by decide +kernel
theorem dX8_levelNow_16 : decode cX8_levelNow 16 = .ok (.iload 4, 2) := by decide +kernel
theorem dX8_levelNow_18 : decode cX8_levelNow 18 = .ok (.iconst (-1), 1) := by decide +kernel
theorem dX8_levelNow_19 : decode cX8_levelNow 19 = .ok (.if_icmp .eq 105, 3) := by decide +kernel
theorem dX8_levelNow_22 : decode cX8_levelNow 22 = .ok (.aload_n 0, 1) := by decide +kernel
theorem dX8_levelNow_23 : decode cX8_levelNow 23 = .ok (.iload 4, 2) := by decide +kernel
theorem dX8_levelNow_25 : decode cX8_levelNow 25 = .ok (.invokevirtual 121, 3) := by decide +kernel
theorem dX8_levelNow_28 : decode cX8_levelNow 28 = .ok (.aload_n 0, 1) := by decide +kernel
theorem dX8_levelNow_29 : decode cX8_levelNow 29 = .ok (.getfield 36, 3) := by decide +kernel
theorem dX8_levelNow_32 : decode cX8_levelNow 32 = .ok (.iload 4, 2) := by decide +kernel
theorem dX8_levelNow_34 : decode cX8_levelNow 34 = .ok (.iaload, 1) := by decide +kernel
theorem dX8_levelNow_35 : decode cX8_levelNow 35 = .ok (.iload_n 3, 1) := by decide +kernel
theorem dX8_levelNow_36 : decode cX8_levelNow 36 = .ok (.if_icmp .ne 12, 3) := by decide +kernel
theorem dX8_levelNow_39 : decode cX8_levelNow 39 = .ok (.aload_n 0, 1) := by decide +kernel
theorem dX8_levelNow_40 : decode cX8_levelNow 40 = .ok (.getfield 72, 3) := by decide +kernel
theorem dX8_levelNow_43 : decode cX8_levelNow 43 = .ok (.iload_n 1, 1) := by decide +kernel
theorem dX8_levelNow_44 : decode cX8_levelNow 44 = .ok (.iaload, 1) := by decide +kernel
theorem dX8_levelNow_45 : decode cX8_levelNow 45 = .ok (.goto 4, 3) := by decide +kernel
theorem dX8_levelNow_48 : decode cX8_levelNow 48 = .ok (.iconst 0, 1) := by decide +kernel
theorem dX8_levelNow_49 : decode cX8_levelNow 49 = .ok (.istore 5, 2) := by decide +kernel
theorem dX8_levelNow_51 : decode cX8_levelNow 51 = .ok (.iload 5, 2) := by decide +kernel
theorem dX8_levelNow_53 : decode cX8_levelNow 53 = .ok (.ifCond .le 55, 3) := by decide +kernel
theorem dX8_levelNow_56 : decode cX8_levelNow 56 = .ok (.iload_n 3, 1) := by decide +kernel
theorem dX8_levelNow_57 : decode cX8_levelNow 57 = .ok (.ifCond .ne 16, 3) := by decide +kernel
theorem dX8_levelNow_60 : decode cX8_levelNow 60 = .ok (.aload_n 0, 1) := by decide +kernel
theorem dX8_levelNow_61 : decode cX8_levelNow 61 = .ok (.iload 4, 2) := by decide +kernel
theorem dX8_levelNow_63 : decode cX8_levelNow 63 = .ok (.invokevirtual 166, 3) := by decide +kernel
theorem dX8_levelNow_66 : decode cX8_levelNow 66 = .ok (.iload 5, 2) := by decide +kernel
theorem dX8_levelNow_68 : decode cX8_levelNow 68 = .ok (.i2f, 1) := by decide +kernel
theorem dX8_levelNow_69 : decode cX8_levelNow 69 = .ok (.fmul, 1) := by decide +kernel
theorem dX8_levelNow_70 : decode cX8_levelNow 70 = .ok (.goto 17, 3) := by decide +kernel
theorem dX8_levelNow_73 : decode cX8_levelNow 73 = .ok (.fload_n 2, 1) := by decide +kernel
theorem dX8_levelNow_74 : decode cX8_levelNow 74 = .ok (.aload_n 0, 1) := by decide +kernel
theorem dX8_levelNow_75 : decode cX8_levelNow 75 = .ok (.iload 4, 2) := by decide +kernel
theorem dX8_levelNow_77 : decode cX8_levelNow 77 = .ok (.invokevirtual 166, 3) := by decide +kernel
theorem dX8_levelNow_80 : decode cX8_levelNow 80 = .ok (.iload 5, 2) := by decide +kernel
theorem dX8_levelNow_82 : decode cX8_levelNow 82 = .ok (.i2f, 1) := by decide +kernel
theorem dX8_levelNow_83 : decode cX8_levelNow 83 = .ok (.fload_n 2, 1) := by decide +kernel
theorem dX8_levelNow_84 : decode cX8_levelNow 84 = .ok (.fsub, 1) := by decide +kernel
theorem dX8_levelNow_85 : decode cX8_levelNow 85 = .ok (.fmul, 1) := by decide +kernel
theorem dX8_levelNow_86 : decode cX8_levelNow 86 = .ok (.fadd, 1) := by decide +kernel
theorem dX8_levelNow_87 : decode cX8_levelNow 87 = .ok (.fstore 6, 2) := by decide +kernel
theorem dX8_levelNow_89 : decode cX8_levelNow 89 = .ok (.iload_n 3, 1) := by decide +kernel
theorem dX8_levelNow_90 : decode cX8_levelNow 90 = .ok (.iconst 1, 1) := by decide +kernel
theorem dX8_levelNow_91 : decode cX8_levelNow 91 = .ok (.if_icmp .eq 10, 3) := by decide +kernel
theorem dX8_levelNow_94 : decode cX8_levelNow 94 = .ok (.fload 6, 2) := by decide +kernel
theorem dX8_levelNow_96 : decode cX8_levelNow 96 = .ok (.fload_n 2, 1) := by decide +kernel
theorem dX8_levelNow_97 : decode cX8_levelNow 97 = .ok (.fcmp .l, 1) := by decide +kernel
theorem dX8_levelNow_98 : decode cX8_levelNow 98 = .ok (.ifCond .le 8, 3) := by decide +kernel
theorem dX8_levelNow_101 : decode cX8_levelNow 101 = .ok (.fload 6, 2) := by decide +kernel
theorem dX8_levelNow_103 : decode cX8_levelNow 103 = .ok (.goto 4, 3) := by decide +kernel
theorem dX8_levelNow_106 : decode cX8_levelNow 106 = .ok (.fload_n 2, 1) := by decide +kernel
theorem dX8_levelNow_107 : decode cX8_levelNow 107 = .ok (.fstore_n 2, 1) := by decide +kernel
theorem dX8_levelNow_108 : decode cX8_levelNow 108 = .ok (.aload_n 0, 1) := by decide +kernel
theorem dX8_levelNow_109 : decode cX8_levelNow 109 = .ok (.aload_n 0, 1) := by decide +kernel
theorem dX8_levelNow_110 : decode cX8_levelNow 110 = .ok (.getfield 60, 3) := by decide +kernel
theorem dX8_levelNow_113 : decode cX8_levelNow 113 = .ok (.iload 4, 2) := by decide +kernel
theorem dX8_levelNow_115 : decode cX8_levelNow 115 = .ok (.iaload, 1) := by decide +kernel
theorem dX8_levelNow_116 : decode cX8_levelNow 116 = .ok (.invokevirtual 163, 3) := by decide +kernel
theorem dX8_levelNow_119 : decode cX8_levelNow 119 = .ok (.istore 4, 2) := by decide +kernel
theorem dX8_levelNow_121 : decode cX8_levelNow 121 = .ok (.goto (-105), 3) := by decide +kernel
theorem dX8_levelNow_124 : decode cX8_levelNow 124 = .ok (.iinc 3 1, 3) := by decide +kernel
theorem dX8_levelNow_127 : decode cX8_levelNow 127 = .ok (.goto (-123), 3) := by decide +kernel
theorem dX8_levelNow_130 : decode cX8_levelNow 130 = .ok (.fload_n 2, 1) := by decide +kernel
theorem dX8_levelNow_131 : decode cX8_levelNow 131 = .ok (.freturn, 1) := by decide +kernel
theorem dX8_load_0 : decode cX8_load 0 = .ok (.fconst 0, 1) := by decide +kernel
theorem dX8_load_1 : decode cX8_load 1 = .ok (.fstore_n 2, 1) := by decide +kernel
theorem dX8_load_2 : decode cX8_load 2 = .ok (.iconst 0, 1) := by decide +kernel
theorem dX8_load_3 : decode cX8_load 3 = .ok (.istore_n 3, 1) := by decide +kernel
theorem dX8_load_4 : decode cX8_load 4 = .ok (.iload_n 3, 1) := by decide +kernel
theorem dX8_load_5 : decode cX8_load 5 = .ok (.aload_n 0, 1) := by decide +kernel
theorem dX8_load_6 : decode cX8_load 6 = .ok (.getfield 84, 3) := by decide +kernel
theorem dX8_load_9 : decode cX8_load 9 = .ok (.if_icmp .ge 38, 3) := by decide +kernel
theorem dX8_load_12 : decode cX8_load 12 = .ok (.aload_n 0, 1) := by decide +kernel
theorem dX8_load_13 : decode cX8_load 13 = .ok (.getfield 22, 3) := by decide +kernel
theorem dX8_load_16 : decode cX8_load 16 = .ok (.iload_n 3, 1) := by decide +kernel
theorem dX8_load_17 : decode cX8_load 17 = .ok (.iaload, 1) := by decide +kernel
theorem dX8_load_18 : decode cX8_load 18 = .ok (.iload_n 1, 1) := by decide +kernel
theorem dX8_load_19 : decode cX8_load 19 = .ok (.if_icmp .ne 22, 3) := by decide +kernel
theorem dX8_load_22 : decode cX8_load 22 = .ok (.fload_n 2, 1) := by decide +kernel
theorem dX8_load_23 : decode cX8_load 23 = .ok (.aload_n 0, 1) := by decide +kernel
theorem dX8_load_24 : decode cX8_load 24 = .ok (.getfield 19, 3) := by decide +kernel
theorem dX8_load_27 : decode cX8_load 27 = .ok (.iload_n 3, 1) := by decide +kernel
theorem dX8_load_28 : decode cX8_load 28 = .ok (.iaload, 1) := by decide +kernel
theorem dX8_load_29 : decode cX8_load 29 = .ok (.i2f, 1) := by decide +kernel
theorem dX8_load_30 : decode cX8_load 30 = .ok (.aload_n 0, 1) := by decide +kernel
theorem dX8_load_31 : decode cX8_load 31 = .ok (.iload_n 3, 1) := by decide +kernel
theorem dX8_load_32 : decode cX8_load 32 = .ok (.invokevirtual 170, 3) := by decide +kernel
theorem dX8_load_35 : decode cX8_load 35 = .ok (.fmul, 1) := by decide +kernel
theorem dX8_load_36 : decode cX8_load 36 = .ok (.ldc 173, 2) := by decide +kernel
theorem dX8_load_38 : decode cX8_load 38 = .ok (.fdiv, 1) := by decide +kernel
theorem dX8_load_39 : decode cX8_load 39 = .ok (.fadd, 1) := by decide +kernel
theorem dX8_load_40 : decode cX8_load 40 = .ok (.fstore_n 2, 1) := by decide +kernel
theorem dX8_load_41 : decode cX8_load 41 = .ok (.iinc 3 1, 3) := by decide +kernel
theorem dX8_load_44 : decode cX8_load 44 = .ok (.goto (-40), 3) := by decide +kernel
theorem dX8_load_47 : decode cX8_load 47 = .ok (.fload_n 2, 1) := by decide +kernel
theorem dX8_load_48 : decode cX8_load 48 = .ok (.freturn, 1) := by decide +kernel
theorem dX8_bitsOf_0 : decode cX8_bitsOf 0 = .ok (.fload_n 0, 1) := by decide +kernel
theorem dX8_bitsOf_1 : decode cX8_bitsOf 1 = .ok (.fconst 0, 1) := by decide +kernel
theorem dX8_bitsOf_2 : decode cX8_bitsOf 2 = .ok (.fcmp .l, 1) := by decide +kernel
theorem dX8_bitsOf_3 : decode cX8_bitsOf 3 = .ok (.ifCond .ne 5, 3) := by decide +kernel
theorem dX8_bitsOf_6 : decode cX8_bitsOf 6 = .ok (.iconst 0, 1) := by decide +kernel
theorem dX8_bitsOf_7 : decode cX8_bitsOf 7 = .ok (.ireturn, 1) := by decide +kernel
theorem dX8_bitsOf_8 : decode cX8_bitsOf 8 = .ok (.bipush 127, 2) := by decide +kernel
theorem dX8_bitsOf_10 : decode cX8_bitsOf 10 = .ok (.istore_n 1, 1) := by decide +kernel
theorem dX8_bitsOf_11 : decode cX8_bitsOf 11 = .ok (.fload_n 0, 1) := by decide +kernel
theorem dX8_bitsOf_12 : decode cX8_bitsOf 12 = .ok (.fstore_n 2, 1) := by decide +kernel
theorem dX8_bitsOf_13 : decode cX8_bitsOf 13 = .ok (.fload_n 2, 1) := by decide +kernel
theorem dX8_bitsOf_14 : decode cX8_bitsOf 14 = .ok (.fconst 1, 1) := by decide +kernel
theorem dX8_bitsOf_15 : decode cX8_bitsOf 15 = .ok (.fcmp .g, 1) := by decide +kernel
theorem dX8_bitsOf_16 : decode cX8_bitsOf 16 = .ok (.ifCond .ge 13, 3) := by decide +kernel
theorem dX8_bitsOf_19 : decode cX8_bitsOf 19 = .ok (.fload_n 2, 1) := by decide +kernel
theorem dX8_bitsOf_20 : decode cX8_bitsOf 20 = .ok (.fconst 2, 1) := by decide +kernel
theorem dX8_bitsOf_21 : decode cX8_bitsOf 21 = .ok (.fmul, 1) := by decide +kernel
theorem dX8_bitsOf_22 : decode cX8_bitsOf 22 = .ok (.fstore_n 2, 1) := by decide +kernel
theorem dX8_bitsOf_23 : decode cX8_bitsOf 23 = .ok (.iinc 1 (-1), 3) := by decide +kernel
theorem dX8_bitsOf_26 : decode cX8_bitsOf 26 = .ok (.goto (-13), 3) := by decide +kernel
theorem dX8_bitsOf_29 : decode cX8_bitsOf 29 = .ok (.fload_n 2, 1) := by decide +kernel
theorem dX8_bitsOf_30 : decode cX8_bitsOf 30 = .ok (.fconst 2, 1) := by decide +kernel
theorem dX8_bitsOf_31 : decode cX8_bitsOf 31 = .ok (.fcmp .l, 1) := by decide +kernel
theorem dX8_bitsOf_32 : decode cX8_bitsOf 32 = .ok (.ifCond .lt 13, 3) := by decide +kernel
theorem dX8_bitsOf_35 : decode cX8_bitsOf 35 = .ok (.fload_n 2, 1) := by decide +kernel
theorem dX8_bitsOf_36 : decode cX8_bitsOf 36 = .ok (.fconst 2, 1) := by decide +kernel
theorem dX8_bitsOf_37 : decode cX8_bitsOf 37 = .ok (.fdiv, 1) := by decide +kernel
theorem dX8_bitsOf_38 : decode cX8_bitsOf 38 = .ok (.fstore_n 2, 1) := by decide +kernel
theorem dX8_bitsOf_39 : decode cX8_bitsOf 39 = .ok (.iinc 1 1, 3) := by decide +kernel
theorem dX8_bitsOf_42 : decode cX8_bitsOf 42 = .ok (.goto (-13), 3) := by decide +kernel
theorem dX8_bitsOf_45 : decode cX8_bitsOf 45 = .ok (.iload_n 1, 1) := by decide +kernel
theorem dX8_bitsOf_46 : decode cX8_bitsOf 46 = .ok (.ldc 174, 2) := by decide +kernel
theorem dX8_bitsOf_48 : decode cX8_bitsOf 48 = .ok (.imul, 1) := by decide +kernel
theorem dX8_bitsOf_49 : decode cX8_bitsOf 49 = .ok (.fload_n 2, 1) := by decide +kernel
theorem dX8_bitsOf_50 : decode cX8_bitsOf 50 = .ok (.fconst 1, 1) := by decide +kernel
theorem dX8_bitsOf_51 : decode cX8_bitsOf 51 = .ok (.fsub, 1) := by decide +kernel
theorem dX8_bitsOf_52 : decode cX8_bitsOf 52 = .ok (.ldc 175, 2) := by decide +kernel
theorem dX8_bitsOf_54 : decode cX8_bitsOf 54 = .ok (.fmul, 1) := by decide +kernel
theorem dX8_bitsOf_55 : decode cX8_bitsOf 55 = .ok (.f2i, 1) := by decide +kernel
theorem dX8_bitsOf_56 : decode cX8_bitsOf 56 = .ok (.iadd, 1) := by decide +kernel
theorem dX8_bitsOf_57 : decode cX8_bitsOf 57 = .ok (.ireturn, 1) := by decide +kernel
theorem dX8_levelOf_0 : decode cX8_levelOf 0 = .ok (.aload_n 0, 1) := by decide +kernel
theorem dX8_levelOf_1 : decode cX8_levelOf 1 = .ok (.aload_n 0, 1) := by decide +kernel
theorem dX8_levelOf_2 : decode cX8_levelOf 2 = .ok (.iload_n 1, 1) := by decide +kernel
theorem dX8_levelOf_3 : decode cX8_levelOf 3 = .ok (.invokevirtual 101, 3) := by decide +kernel
theorem dX8_levelOf_6 : decode cX8_levelOf 6 = .ok (.ifCond .eq 7, 3) := by decide +kernel
theorem dX8_levelOf_9 : decode cX8_levelOf 9 = .ok (.iconst 0, 1) := by decide +kernel
theorem dX8_levelOf_10 : decode cX8_levelOf 10 = .ok (.goto 4, 3) := by decide +kernel
theorem dX8_levelOf_13 : decode cX8_levelOf 13 = .ok (.iconst 1, 1) := by decide +kernel
theorem dX8_levelOf_14 : decode cX8_levelOf 14 = .ok (.invokevirtual 98, 3) := by decide +kernel
theorem dX8_levelOf_17 : decode cX8_levelOf 17 = .ok (.ifCond .eq 14, 3) := by decide +kernel
theorem dX8_levelOf_20 : decode cX8_levelOf 20 = .ok (.aload_n 0, 1) := by decide +kernel
theorem dX8_levelOf_21 : decode cX8_levelOf 21 = .ok (.iload_n 1, 1) := by decide +kernel
theorem dX8_levelOf_22 : decode cX8_levelOf 22 = .ok (.invokevirtual 170, 3) := by decide +kernel
theorem dX8_levelOf_25 : decode cX8_levelOf 25 = .ok (.invokestatic 176, 3) := by decide +kernel
theorem dX8_levelOf_28 : decode cX8_levelOf 28 = .ok (.goto 4, 3) := by decide +kernel
theorem dX8_levelOf_31 : decode cX8_levelOf 31 = .ok (.iconst 0, 1) := by decide +kernel
theorem dX8_levelOf_32 : decode cX8_levelOf 32 = .ok (.ireturn, 1) := by decide +kernel
theorem dX8_levelAnew_0 : decode cX8_levelAnew 0 = .ok (.aload_n 0, 1) := by decide +kernel
theorem dX8_levelAnew_1 : decode cX8_levelAnew 1 = .ok (.aload_n 0, 1) := by decide +kernel
theorem dX8_levelAnew_2 : decode cX8_levelAnew 2 = .ok (.iload_n 1, 1) := by decide +kernel
theorem dX8_levelAnew_3 : decode cX8_levelAnew 3 = .ok (.invokevirtual 101, 3) := by decide +kernel
theorem dX8_levelAnew_6 : decode cX8_levelAnew 6 = .ok (.ifCond .eq 7, 3) := by decide +kernel
theorem dX8_levelAnew_9 : decode cX8_levelAnew 9 = .ok (.iconst 0, 1) := by decide +kernel
theorem dX8_levelAnew_10 : decode cX8_levelAnew 10 = .ok (.goto 4, 3) := by decide +kernel
theorem dX8_levelAnew_13 : decode cX8_levelAnew 13 = .ok (.iconst 1, 1) := by decide +kernel
theorem dX8_levelAnew_14 : decode cX8_levelAnew 14 = .ok (.invokevirtual 98, 3) := by decide +kernel
theorem dX8_levelAnew_17 : decode cX8_levelAnew 17 = .ok (.ifCond .eq 14, 3) := by decide +kernel
theorem dX8_levelAnew_20 : decode cX8_levelAnew 20 = .ok (.aload_n 0, 1) := by decide +kernel
theorem dX8_levelAnew_21 : decode cX8_levelAnew 21 = .ok (.iload_n 1, 1) := by decide +kernel
theorem dX8_levelAnew_22 : decode cX8_levelAnew 22 = .ok (.invokevirtual 170, 3) := by decide +kernel
theorem dX8_levelAnew_25 : decode cX8_levelAnew 25 = .ok (.invokestatic 176, 3) := by decide +kernel
theorem dX8_levelAnew_28 : decode cX8_levelAnew 28 = .ok (.goto 4, 3) := by decide +kernel
theorem dX8_levelAnew_31 : decode cX8_levelAnew 31 = .ok (.iconst 0, 1) := by decide +kernel
theorem dX8_levelAnew_32 : decode cX8_levelAnew 32 = .ok (.ireturn, 1) := by decide +kernel
theorem dX8_loadOf_0 : decode cX8_loadOf 0 = .ok (.aload_n 0, 1) := by decide +kernel
theorem dX8_loadOf_1 : decode cX8_loadOf 1 = .ok (.iload_n 1, 1) := by decide +kernel
theorem dX8_loadOf_2 : decode cX8_loadOf 2 = .ok (.invokestatic 94, 3) := by decide +kernel
theorem dX8_loadOf_5 : decode cX8_loadOf 5 = .ok (.ifCond .eq 7, 3) := by decide +kernel
theorem dX8_loadOf_8 : decode cX8_loadOf 8 = .ok (.iconst 0, 1) := by decide +kernel
theorem dX8_loadOf_9 : decode cX8_loadOf 9 = .ok (.goto 4, 3) := by decide +kernel
theorem dX8_loadOf_12 : decode cX8_loadOf 12 = .ok (.iconst 1, 1) := by decide +kernel
theorem dX8_loadOf_13 : decode cX8_loadOf 13 = .ok (.invokevirtual 98, 3) := by decide +kernel
theorem dX8_loadOf_16 : decode cX8_loadOf 16 = .ok (.ifCond .eq 14, 3) := by decide +kernel
theorem dX8_loadOf_19 : decode cX8_loadOf 19 = .ok (.aload_n 0, 1) := by decide +kernel
theorem dX8_loadOf_20 : decode cX8_loadOf 20 = .ok (.iload_n 1, 1) := by decide +kernel
theorem dX8_loadOf_21 : decode cX8_loadOf 21 = .ok (.invokevirtual 180, 3) := by decide +kernel
theorem dX8_loadOf_24 : decode cX8_loadOf 24 = .ok (.invokestatic 176, 3) := by decide +kernel
theorem dX8_loadOf_27 : decode cX8_loadOf 27 = .ok (.goto 4, 3) := by decide +kernel
theorem dX8_loadOf_30 : decode cX8_loadOf 30 = .ok (.iconst 0, 1) := by decide +kernel
theorem dX8_loadOf_31 : decode cX8_loadOf 31 = .ok (.ireturn, 1) := by decide +kernel
theorem dX8_watts_0 : decode cX8_watts 0 = .ok (.aload_n 0, 1) := by decide +kernel
theorem dX8_watts_1 : decode cX8_watts 1 = .ok (.iload_n 1, 1) := by decide +kernel
theorem dX8_watts_2 : decode cX8_watts 2 = .ok (.invokestatic 94, 3) := by decide +kernel
theorem dX8_watts_5 : decode cX8_watts 5 = .ok (.ifCond .eq 7, 3) := by decide +kernel
theorem dX8_watts_8 : decode cX8_watts 8 = .ok (.iconst 0, 1) := by decide +kernel
theorem dX8_watts_9 : decode cX8_watts 9 = .ok (.goto 4, 3) := by decide +kernel
theorem dX8_watts_12 : decode cX8_watts 12 = .ok (.iconst 1, 1) := by decide +kernel
theorem dX8_watts_13 : decode cX8_watts 13 = .ok (.invokevirtual 98, 3) := by decide +kernel
theorem dX8_watts_16 : decode cX8_watts 16 = .ok (.ifCond .eq 12, 3) := by decide +kernel
theorem dX8_watts_19 : decode cX8_watts 19 = .ok (.aload_n 0, 1) := by decide +kernel
theorem dX8_watts_20 : decode cX8_watts 20 = .ok (.iload_n 1, 1) := by decide +kernel
theorem dX8_watts_21 : decode cX8_watts 21 = .ok (.invokevirtual 180, 3) := by decide +kernel
theorem dX8_watts_24 : decode cX8_watts 24 = .ok (.f2i, 1) := by decide +kernel
theorem dX8_watts_25 : decode cX8_watts 25 = .ok (.goto 4, 3) := by decide +kernel
theorem dX8_watts_28 : decode cX8_watts 28 = .ok (.iconst 0, 1) := by decide +kernel
theorem dX8_watts_29 : decode cX8_watts 29 = .ok (.ireturn, 1) := by decide +kernel
theorem dX8_asks_0 : decode cX8_asks 0 = .ok (.aload_n 0, 1) := by decide +kernel
theorem dX8_asks_1 : decode cX8_asks 1 = .ok (.aload_n 0, 1) := by decide +kernel
theorem dX8_asks_2 : decode cX8_asks 2 = .ok (.iload_n 1, 1) := by decide +kernel
theorem dX8_asks_3 : decode cX8_asks 3 = .ok (.invokevirtual 107, 3) := by decide +kernel
theorem dX8_asks_6 : decode cX8_asks 6 = .ok (.ifCond .eq 14, 3) := by decide +kernel
theorem dX8_asks_9 : decode cX8_asks 9 = .ok (.iload_n 2, 1) := by decide +kernel
theorem dX8_asks_10 : decode cX8_asks 10 = .ok (.invokestatic 94, 3) := by decide +kernel
theorem dX8_asks_13 : decode cX8_asks 13 = .ok (.ifCond .eq 7, 3) := by decide +kernel
theorem dX8_asks_16 : decode cX8_asks 16 = .ok (.iconst 0, 1) := by decide +kernel
theorem dX8_asks_17 : decode cX8_asks 17 = .ok (.goto 4, 3) := by decide +kernel
theorem dX8_asks_20 : decode cX8_asks 20 = .ok (.iconst 1, 1) := by decide +kernel
theorem dX8_asks_21 : decode cX8_asks 21 = .ok (.invokevirtual 98, 3) := by decide +kernel
theorem dX8_asks_24 : decode cX8_asks 24 = .ok (.ifCond .eq 12, 3) := by decide +kernel
theorem dX8_asks_27 : decode cX8_asks 27 = .ok (.aload_n 0, 1) := by decide +kernel
theorem dX8_asks_28 : decode cX8_asks 28 = .ok (.iload_n 1, 1) := by decide +kernel
theorem dX8_asks_29 : decode cX8_asks 29 = .ok (.iload_n 2, 1) := by decide +kernel
theorem dX8_asks_30 : decode cX8_asks 30 = .ok (.invokevirtual 128, 3) := by decide +kernel
theorem dX8_asks_33 : decode cX8_asks 33 = .ok (.goto 4, 3) := by decide +kernel
theorem dX8_asks_36 : decode cX8_asks 36 = .ok (.iconst 0, 1) := by decide +kernel
theorem dX8_asks_37 : decode cX8_asks 37 = .ok (.ireturn, 1) := by decide +kernel
theorem dX8_shines_0 : decode cX8_shines 0 = .ok (.aload_n 0, 1) := by decide +kernel
theorem dX8_shines_1 : decode cX8_shines 1 = .ok (.aload_n 0, 1) := by decide +kernel
theorem dX8_shines_2 : decode cX8_shines 2 = .ok (.iload_n 1, 1) := by decide +kernel
theorem dX8_shines_3 : decode cX8_shines 3 = .ok (.invokevirtual 107, 3) := by decide +kernel
theorem dX8_shines_6 : decode cX8_shines 6 = .ok (.ifCond .eq 15, 3) := by decide +kernel
theorem dX8_shines_9 : decode cX8_shines 9 = .ok (.aload_n 0, 1) := by decide +kernel
theorem dX8_shines_10 : decode cX8_shines 10 = .ok (.iload_n 2, 1) := by decide +kernel
theorem dX8_shines_11 : decode cX8_shines 11 = .ok (.invokevirtual 101, 3) := by decide +kernel
theorem dX8_shines_14 : decode cX8_shines 14 = .ok (.ifCond .eq 7, 3) := by decide +kernel
theorem dX8_shines_17 : decode cX8_shines 17 = .ok (.iconst 0, 1) := by decide +kernel
theorem dX8_shines_18 : decode cX8_shines 18 = .ok (.goto 4, 3) := by decide +kernel
theorem dX8_shines_21 : decode cX8_shines 21 = .ok (.iconst 1, 1) := by decide +kernel
theorem dX8_shines_22 : decode cX8_shines 22 = .ok (.invokevirtual 98, 3) := by decide +kernel
theorem dX8_shines_25 : decode cX8_shines 25 = .ok (.ifCond .ne 5, 3) := by decide +kernel
theorem dX8_shines_28 : decode cX8_shines 28 = .ok (.iconst 0, 1) := by decide +kernel
theorem dX8_shines_29 : decode cX8_shines 29 = .ok (.ireturn, 1) := by decide +kernel
theorem dX8_shines_30 : decode cX8_shines 30 = .ok (.aload_n 0, 1) := by decide +kernel
theorem dX8_shines_31 : decode cX8_shines 31 = .ok (.iload_n 1, 1) := by decide +kernel
theorem dX8_shines_32 : decode cX8_shines 32 = .ok (.invokevirtual 121, 3) := by decide +kernel
theorem dX8_shines_35 : decode cX8_shines 35 = .ok (.aload_n 0, 1) := by decide +kernel
theorem dX8_shines_36 : decode cX8_shines 36 = .ok (.getfield 75, 3) := by decide +kernel
theorem dX8_shines_39 : decode cX8_shines 39 = .ok (.iload_n 2, 1) := by decide +kernel
theorem dX8_shines_40 : decode cX8_shines 40 = .ok (.iaload, 1) := by decide +kernel
theorem dX8_shines_41 : decode cX8_shines 41 = .ok (.ireturn, 1) := by decide +kernel
theorem dX8_playing_0 : decode cX8_playing 0 = .ok (.aload_n 0, 1) := by decide +kernel
theorem dX8_playing_1 : decode cX8_playing 1 = .ok (.aload_n 0, 1) := by decide +kernel
theorem dX8_playing_2 : decode cX8_playing 2 = .ok (.iload_n 1, 1) := by decide +kernel
theorem dX8_playing_3 : decode cX8_playing 3 = .ok (.invokevirtual 107, 3) := by decide +kernel
theorem dX8_playing_6 : decode cX8_playing 6 = .ok (.ifCond .ne 7, 3) := by decide +kernel
theorem dX8_playing_9 : decode cX8_playing 9 = .ok (.iconst 1, 1) := by decide +kernel
theorem dX8_playing_10 : decode cX8_playing 10 = .ok (.goto 17, 3) := by decide +kernel
theorem dX8_playing_13 : decode cX8_playing 13 = .ok (.iload_n 2, 1) := by decide +kernel
theorem dX8_playing_14 : decode cX8_playing 14 = .ok (.iconst 0, 1) := by decide +kernel
theorem dX8_playing_15 : decode cX8_playing 15 = .ok (.iconst 3, 1) := by decide +kernel
theorem dX8_playing_16 : decode cX8_playing 16 = .ok (.invokestatic 87, 3) := by decide +kernel
theorem dX8_playing_19 : decode cX8_playing 19 = .ok (.ifCond .eq 7, 3) := by decide +kernel
theorem dX8_playing_22 : decode cX8_playing 22 = .ok (.iconst 0, 1) := by decide +kernel
theorem dX8_playing_23 : decode cX8_playing 23 = .ok (.goto 4, 3) := by decide +kernel
theorem dX8_playing_26 : decode cX8_playing 26 = .ok (.iconst 2, 1) := by decide +kernel
theorem dX8_playing_27 : decode cX8_playing 27 = .ok (.invokevirtual 98, 3) := by decide +kernel
theorem dX8_playing_30 : decode cX8_playing 30 = .ok (.ifCond .ne 5, 3) := by decide +kernel
theorem dX8_playing_33 : decode cX8_playing 33 = .ok (.iconst 0, 1) := by decide +kernel
theorem dX8_playing_34 : decode cX8_playing 34 = .ok (.ireturn, 1) := by decide +kernel
theorem dX8_playing_35 : decode cX8_playing 35 = .ok (.iload_n 2, 1) := by decide +kernel
theorem dX8_playing_36 : decode cX8_playing 36 = .ok (.iconst 2, 1) := by decide +kernel
theorem dX8_playing_37 : decode cX8_playing 37 = .ok (.if_icmp .ge 32, 3) := by decide +kernel
theorem dX8_playing_40 : decode cX8_playing 40 = .ok (.aload_n 0, 1) := by decide +kernel
theorem dX8_playing_41 : decode cX8_playing 41 = .ok (.getfield 54, 3) := by decide +kernel
theorem dX8_playing_44 : decode cX8_playing 44 = .ok (.iload_n 1, 1) := by decide +kernel
theorem dX8_playing_45 : decode cX8_playing 45 = .ok (.baload, 1) := by decide +kernel
theorem dX8_playing_46 : decode cX8_playing 46 = .ok (.ifCond .eq 21, 3) := by decide +kernel
theorem dX8_playing_49 : decode cX8_playing 49 = .ok (.iload_n 2, 1) := by decide +kernel
theorem dX8_playing_50 : decode cX8_playing 50 = .ok (.ifCond .eq 13, 3) := by decide +kernel
theorem dX8_playing_53 : decode cX8_playing 53 = .ok (.aload_n 0, 1) := by decide +kernel
theorem dX8_playing_54 : decode cX8_playing 54 = .ok (.getfield 63, 3) := by decide +kernel
theorem dX8_playing_57 : decode cX8_playing 57 = .ok (.iload_n 1, 1) := by decide +kernel
theorem dX8_playing_58 : decode cX8_playing 58 = .ok (.iaload, 1) := by decide +kernel
theorem dX8_playing_59 : decode cX8_playing 59 = .ok (.iconst (-1), 1) := by decide +kernel
theorem dX8_playing_60 : decode cX8_playing 60 = .ok (.if_icmp .eq 7, 3) := by decide +kernel
theorem dX8_playing_63 : decode cX8_playing 63 = .ok (.iconst 1, 1) := by decide +kernel
theorem dX8_playing_64 : decode cX8_playing 64 = .ok (.goto 4, 3) := by decide +kernel
theorem dX8_playing_67 : decode cX8_playing 67 = .ok (.iconst 0, 1) := by decide +kernel
theorem dX8_playing_68 : decode cX8_playing 68 = .ok (.ireturn, 1) := by decide +kernel
theorem dX8_playing_69 : decode cX8_playing 69 = .ok (.aload_n 0, 1) := by decide +kernel
theorem dX8_playing_70 : decode cX8_playing 70 = .ok (.getfield 54, 3) := by decide +kernel
theorem dX8_playing_73 : decode cX8_playing 73 = .ok (.iload_n 1, 1) := by decide +kernel
theorem dX8_playing_74 : decode cX8_playing 74 = .ok (.baload, 1) := by decide +kernel
theorem dX8_playing_75 : decode cX8_playing 75 = .ok (.ifCond .ne 7, 3) := by decide +kernel
theorem dX8_playing_78 : decode cX8_playing 78 = .ok (.iconst (-1), 1) := by decide +kernel
theorem dX8_playing_79 : decode cX8_playing 79 = .ok (.goto 25, 3) := by decide +kernel
theorem dX8_playing_82 : decode cX8_playing 82 = .ok (.iload_n 2, 1) := by decide +kernel
theorem dX8_playing_83 : decode cX8_playing 83 = .ok (.iconst 2, 1) := by decide +kernel
theorem dX8_playing_84 : decode cX8_playing 84 = .ok (.if_icmp .ne 12, 3) := by decide +kernel
theorem dX8_playing_87 : decode cX8_playing 87 = .ok (.aload_n 0, 1) := by decide +kernel
theorem dX8_playing_88 : decode cX8_playing 88 = .ok (.getfield 57, 3) := by decide +kernel
theorem dX8_playing_91 : decode cX8_playing 91 = .ok (.iload_n 1, 1) := by decide +kernel
theorem dX8_playing_92 : decode cX8_playing 92 = .ok (.iaload, 1) := by decide +kernel
theorem dX8_playing_93 : decode cX8_playing 93 = .ok (.goto 11, 3) := by decide +kernel
theorem dX8_playing_96 : decode cX8_playing 96 = .ok (.aload_n 0, 1) := by decide +kernel
theorem dX8_playing_97 : decode cX8_playing 97 = .ok (.iload_n 1, 1) := by decide +kernel
theorem dX8_playing_98 : decode cX8_playing 98 = .ok (.invokevirtual 166, 3) := by decide +kernel
theorem dX8_playing_101 : decode cX8_playing 101 = .ok (.invokestatic 176, 3) := by decide +kernel
theorem dX8_playing_104 : decode cX8_playing 104 = .ok (.ireturn, 1) := by decide +kernel
theorem dX8_barred_0 : decode cX8_barred 0 = .ok (.aload_n 0, 1) := by decide +kernel
theorem dX8_barred_1 : decode cX8_barred 1 = .ok (.iconst 0, 1) := by decide +kernel
theorem dX8_barred_2 : decode cX8_barred 2 = .ok (.putfield 81, 3) := by decide +kernel
theorem dX8_barred_5 : decode cX8_barred 5 = .ok (.aload_n 0, 1) := by decide +kernel
theorem dX8_barred_6 : decode cX8_barred 6 = .ok (.getfield 153, 3) := by decide +kernel
theorem dX8_barred_9 : decode cX8_barred 9 = .ok (.ireturn, 1) := by decide +kernel
theorem dJ9_abs_0f7a4_0 : decode cJ9_abs_0f7a4 0 = .ok (.iload_n 0, 1) := by decide +kernel
theorem dJ9_abs_0f7a4_1 : decode cJ9_abs_0f7a4 1 = .ok (.ifCond .ge 8, 3) := by decide +kernel
theorem dJ9_abs_0f7a4_4 : decode cJ9_abs_0f7a4 4 = .ok (.iload_n 0, 1) := by decide +kernel
theorem dJ9_abs_0f7a4_5 : decode cJ9_abs_0f7a4 5 = .ok (.ineg, 1) := by decide +kernel
theorem dJ9_abs_0f7a4_6 : decode cJ9_abs_0f7a4 6 = .ok (.goto 4, 3) := by decide +kernel
theorem dJ9_abs_0f7a4_9 : decode cJ9_abs_0f7a4 9 = .ok (.iload_n 0, 1) := by decide +kernel
theorem dJ9_abs_0f7a4_10 : decode cJ9_abs_0f7a4 10 = .ok (.ireturn, 1) := by decide +kernel
theorem dJ9_max_7cf53_0 : decode cJ9_max_7cf53 0 = .ok (.iload_n 0, 1) := by decide +kernel
theorem dJ9_max_7cf53_1 : decode cJ9_max_7cf53 1 = .ok (.iload_n 1, 1) := by decide +kernel
theorem dJ9_max_7cf53_2 : decode cJ9_max_7cf53 2 = .ok (.if_icmp .lt 7, 3) := by decide +kernel
theorem dJ9_max_7cf53_5 : decode cJ9_max_7cf53 5 = .ok (.iload_n 0, 1) := by decide +kernel
theorem dJ9_max_7cf53_6 : decode cJ9_max_7cf53 6 = .ok (.goto 4, 3) := by decide +kernel
theorem dJ9_max_7cf53_9 : decode cJ9_max_7cf53 9 = .ok (.iload_n 1, 1) := by decide +kernel
theorem dJ9_max_7cf53_10 : decode cJ9_max_7cf53 10 = .ok (.ireturn, 1) := by decide +kernel
theorem dJ9_min_7cf53_0 : decode cJ9_min_7cf53 0 = .ok (.iload_n 0, 1) := by decide +kernel
theorem dJ9_min_7cf53_1 : decode cJ9_min_7cf53 1 = .ok (.iload_n 1, 1) := by decide +kernel
theorem dJ9_min_7cf53_2 : decode cJ9_min_7cf53 2 = .ok (.if_icmp .gt 7, 3) := by decide +kernel
theorem dJ9_min_7cf53_5 : decode cJ9_min_7cf53 5 = .ok (.iload_n 0, 1) := by decide +kernel
theorem dJ9_min_7cf53_6 : decode cJ9_min_7cf53 6 = .ok (.goto 4, 3) := by decide +kernel
theorem dJ9_min_7cf53_9 : decode cJ9_min_7cf53 9 = .ok (.iload_n 1, 1) := by decide +kernel
theorem dJ9_min_7cf53_10 : decode cJ9_min_7cf53 10 = .ok (.ireturn, 1) := by decide +kernel
theorem dJ7_fill_53178_0 : decode cJ7_fill_53178 0 = .ok (.iconst 0, 1) := by decide +kernel
theorem dJ7_fill_53178_1 : decode cJ7_fill_53178 1 = .ok (.istore_n 2, 1) := by decide +kernel
theorem dJ7_fill_53178_2 : decode cJ7_fill_53178 2 = .ok (.aload_n 0, 1) := by decide +kernel
theorem dJ7_fill_53178_3 : decode cJ7_fill_53178 3 = .ok (.arraylength, 1) := by decide +kernel
theorem dJ7_fill_53178_4 : decode cJ7_fill_53178 4 = .ok (.istore_n 3, 1) := by decide +kernel
theorem dJ7_fill_53178_5 : decode cJ7_fill_53178 5 = .ok (.iload_n 2, 1) := by decide +kernel
theorem dJ7_fill_53178_6 : decode cJ7_fill_53178 6 = .ok (.iload_n 3, 1) := by decide +kernel
theorem dJ7_fill_53178_7 : decode cJ7_fill_53178 7 = .ok (.if_icmp .ge 13, 3) := by decide +kernel
theorem dJ7_fill_53178_10 : decode cJ7_fill_53178 10 = .ok (.aload_n 0, 1) := by decide +kernel
theorem dJ7_fill_53178_11 : decode cJ7_fill_53178 11 = .ok (.iload_n 2, 1) := by decide +kernel
theorem dJ7_fill_53178_12 : decode cJ7_fill_53178 12 = .ok (.iload_n 1, 1) := by decide +kernel
theorem dJ7_fill_53178_13 : decode cJ7_fill_53178 13 = .ok (.iastore, 1) := by decide +kernel
theorem dJ7_fill_53178_14 : decode cJ7_fill_53178 14 = .ok (.iinc 2 1, 3) := by decide +kernel
theorem dJ7_fill_53178_17 : decode cJ7_fill_53178 17 = .ok (.goto (-12), 3) := by decide +kernel
theorem dJ7_fill_53178_20 : decode cJ7_fill_53178 20 = .ok (.return_, 1) := by decide +kernel
theorem dJ7_copyOf_59c91_0 : decode cJ7_copyOf_59c91 0 = .ok (.iload_n 1, 1) := by decide +kernel
theorem dJ7_copyOf_59c91_1 : decode cJ7_copyOf_59c91 1 = .ok (.aload_n 0, 1) := by decide +kernel
theorem dJ7_copyOf_59c91_2 : decode cJ7_copyOf_59c91 2 = .ok (.arraylength, 1) := by decide +kernel
theorem dJ7_copyOf_59c91_3 : decode cJ7_copyOf_59c91 3 = .ok (.if_icmp .ne 11, 3) := by decide +kernel
theorem dJ7_copyOf_59c91_6 : decode cJ7_copyOf_59c91 6 = .ok (.aload_n 0, 1) := by decide +kernel
theorem dJ7_copyOf_59c91_7 : decode cJ7_copyOf_59c91 7 = .ok (.invokevirtual 316, 3) := by decide +kernel
theorem dJ7_copyOf_59c91_10 : decode cJ7_copyOf_59c91 10 = .ok (.checkcast 317, 3) := by decide +kernel
theorem dJ7_copyOf_59c91_13 : decode cJ7_copyOf_59c91 13 = .ok (.areturn, 1) := by decide +kernel
theorem dJ7_copyOf_59c91_14 : decode cJ7_copyOf_59c91 14 = .ok (.iload_n 1, 1) := by decide +kernel
theorem dJ7_copyOf_59c91_15 : decode cJ7_copyOf_59c91 15 = .ok (.newarray .int, 2) := by decide +kernel
theorem dJ7_copyOf_59c91_17 : decode cJ7_copyOf_59c91 17 = .ok (.astore_n 2, 1) := by decide +kernel
theorem dJ7_copyOf_59c91_18 : decode cJ7_copyOf_59c91 18 = .ok (.aload_n 0, 1) := by decide +kernel
theorem dJ7_copyOf_59c91_19 : decode cJ7_copyOf_59c91 19 = .ok (.iconst 0, 1) := by decide +kernel
theorem dJ7_copyOf_59c91_20 : decode cJ7_copyOf_59c91 20 = .ok (.aload_n 2, 1) := by decide +kernel
theorem dJ7_copyOf_59c91_21 : decode cJ7_copyOf_59c91 21 = .ok (.iconst 0, 1) := by decide +kernel
theorem dJ7_copyOf_59c91_22 : decode cJ7_copyOf_59c91 22 = .ok (.aload_n 0, 1) := by decide +kernel
theorem dJ7_copyOf_59c91_23 : decode cJ7_copyOf_59c91 23 = .ok (.arraylength, 1) := by decide +kernel
theorem dJ7_copyOf_59c91_24 : decode cJ7_copyOf_59c91 24 = .ok (.iload_n 1, 1) := by decide +kernel
theorem dJ7_copyOf_59c91_25 : decode cJ7_copyOf_59c91 25 = .ok (.invokestatic 304, 3) := by decide +kernel
theorem dJ7_copyOf_59c91_28 : decode cJ7_copyOf_59c91 28 = .ok (.invokestatic 150, 3) := by decide +kernel
theorem dJ7_copyOf_59c91_31 : decode cJ7_copyOf_59c91 31 = .ok (.aload_n 2, 1) := by decide +kernel
theorem dJ7_copyOf_59c91_32 : decode cJ7_copyOf_59c91 32 = .ok (.areturn, 1) := by decide +kernel
