theorem dX6_takeDue_54 : decode cX6_takeDue 54 = .ok (.iload_n 3, 1) := by decide +kernel
theorem dX6_takeDue_55 : decode cX6_takeDue 55 = .ok (.aaload, 1) := by decide +kernel
theorem dX6_takeDue_56 : decode cX6_takeDue 56 = .ok (.aastore, 1) := by decide +kernel
theorem dX6_takeDue_57 : decode cX6_takeDue 57 = .ok (.aload_n 0, 1) := by decide +kernel
theorem dX6_takeDue_58 : decode cX6_takeDue 58 = .ok (.getfield 17, 3) := by decide +kernel
theorem dX6_takeDue_61 : decode cX6_takeDue 61 = .ok (.iload_n 2, 1) := by decide +kernel
theorem dX6_takeDue_62 : decode cX6_takeDue 62 = .ok (.aload_n 0, 1) := by decide +kernel
theorem dX6_takeDue_63 : decode cX6_takeDue 63 = .ok (.getfield 17, 3) := by decide +kernel
theorem dX6_takeDue_66 : decode cX6_takeDue 66 = .ok (.iload_n 3, 1) := by decide +kernel
theorem dX6_takeDue_67 : decode cX6_takeDue 67 = .ok (.iaload, 1) := by decide +kernel
theorem dX6_takeDue_68 : decode cX6_takeDue 68 = .ok (.iastore, 1) := by decide +kernel
theorem dX6_takeDue_69 : decode cX6_takeDue 69 = .ok (.iinc 2 1, 3) := by decide +kernel
theorem dX6_takeDue_72 : decode cX6_takeDue 72 = .ok (.goto 40, 3) := by decide +kernel
theorem dX6_takeDue_75 : decode cX6_takeDue 75 = .ok (.aload_n 0, 1) := by decide +kernel
theorem dX6_takeDue_76 : decode cX6_takeDue 76 = .ok (.getfield 28, 3) := by decide +kernel
theorem dX6_takeDue_79 : decode cX6_takeDue 79 = .ok (.aload_n 0, 1) := by decide +kernel
theorem dX6_takeDue_80 : decode cX6_takeDue 80 = .ok (.getfield 21, 3) := by decide +kernel
theorem dX6_takeDue_83 : decode cX6_takeDue 83 = .ok (.arraylength, 1) := by decide +kernel
theorem dX6_takeDue_84 : decode cX6_takeDue 84 = .ok (.if_icmp .ge 28, 3) := by decide +kernel
theorem dX6_takeDue_87 : decode cX6_takeDue 87 = .ok (.aload_n 0, 1) := by decide +kernel
theorem dX6_takeDue_88 : decode cX6_takeDue 88 = .ok (.getfield 21, 3) := by decide +kernel
theorem dX6_takeDue_91 : decode cX6_takeDue 91 = .ok (.aload_n 0, 1) := by decide +kernel
theorem dX6_takeDue_92 : decode cX6_takeDue 92 = .ok (.getfield 28, 3) := by decide +kernel
theorem dX6_takeDue_95 : decode cX6_takeDue 95 = .ok (.aload_n 0, 1) := by decide +kernel
theorem dX6_takeDue_96 : decode cX6_takeDue 96 = .ok (.getfield 11, 3) := by decide +kernel
theorem dX6_takeDue_99 : decode cX6_takeDue 99 = .ok (.iload_n 3, 1) := by decide +kernel
theorem dX6_takeDue_100 : decode cX6_takeDue 100 = .ok (.aaload, 1) := by decide +kernel
theorem dX6_takeDue_101 : decode cX6_takeDue 101 = .ok (.aastore, 1) := by decide +kernel
theorem dX6_takeDue_102 : decode cX6_takeDue 102 = .ok (.aload_n 0, 1) := by decide +kernel
theorem dX6_takeDue_103 : decode cX6_takeDue 103 = .ok (.dup, 1) := by decide +kernel
theorem dX6_takeDue_104 : decode cX6_takeDue 104 = .ok (.getfield 28, 3) := by decide +kernel
theorem dX6_takeDue_107 : decode cX6_takeDue 107 = .ok (.iconst 1, 1) := by decide +kernel
theorem dX6_takeDue_108 : decode cX6_takeDue 108 = .ok (.iadd, 1) := by decide +kernel
theorem dX6_takeDue_109 : decode cX6_takeDue 109 = .ok (.putfield 28, 3) := by decide +kernel
theorem dX6_takeDue_112 : decode cX6_takeDue 112 = .ok (.iinc 3 1, 3) := by decide +kernel
theorem dX6_takeDue_115 : decode cX6_takeDue 115 = .ok (.goto (-106), 3) := by decide +kernel
theorem dX6_takeDue_118 : decode cX6_takeDue 118 = .ok (.aload_n 0, 1) := by decide +kernel
theorem dX6_takeDue_119 : decode cX6_takeDue 119 = .ok (.iload_n 2, 1) := by decide +kernel
theorem dX6_takeDue_120 : decode cX6_takeDue 120 = .ok (.putfield 24, 3) := by decide +kernel
theorem dX6_takeDue_123 : decode cX6_takeDue 123 = .ok (.return_, 1) := by decide +kernel
theorem dX6_readyAt_0 : decode cX6_readyAt 0 = .ok (.iload_n 1, 1) := by decide +kernel
theorem dX6_readyAt_1 : decode cX6_readyAt 1 = .ok (.ifCond .lt 29, 3) := by decide +kernel
theorem dX6_readyAt_4 : decode cX6_readyAt 4 = .ok (.iload_n 1, 1) := by decide +kernel
theorem dX6_readyAt_5 : decode cX6_readyAt 5 = .ok (.aload_n 0, 1) := by decide +kernel
theorem dX6_readyAt_6 : decode cX6_readyAt 6 = .ok (.getfield 28, 3) := by decide +kernel
theorem dX6_readyAt_9 : decode cX6_readyAt 9 = .ok (.if_icmp .ge 21, 3) := by decide +kernel
theorem dX6_readyAt_12 : decode cX6_readyAt 12 = .ok (.iload_n 1, 1) := by decide +kernel
theorem dX6_readyAt_13 : decode cX6_readyAt 13 = .ok (.aload_n 0, 1) := by decide +kernel
theorem dX6_readyAt_14 : decode cX6_readyAt 14 = .ok (.getfield 21, 3) := by decide +kernel
theorem dX6_readyAt_17 : decode cX6_readyAt 17 = .ok (.arraylength, 1) := by decide +kernel
theorem dX6_readyAt_18 : decode cX6_readyAt 18 = .ok (.if_icmp .ge 12, 3) := by decide +kernel
theorem dX6_readyAt_21 : decode cX6_readyAt 21 = .ok (.aload_n 0, 1) := by decide +kernel
theorem dX6_readyAt_22 : decode cX6_readyAt 22 = .ok (.getfield 21, 3) := by decide +kernel
theorem dX6_readyAt_25 : decode cX6_readyAt 25 = .ok (.iload_n 1, 1) := by decide +kernel
theorem dX6_readyAt_26 : decode cX6_readyAt 26 = .ok (.aaload, 1) := by decide +kernel
theorem dX6_readyAt_27 : decode cX6_readyAt 27 = .ok (.goto 4, 3) := by decide +kernel
theorem dX6_readyAt_30 : decode cX6_readyAt 30 = .ok (.aconst_null, 1) := by decide +kernel
theorem dX6_readyAt_31 : decode cX6_readyAt 31 = .ok (.areturn, 1) := by decide +kernel
theorem dX7_init_0 : decode cX7_init 0 = .ok (.aload_n 0, 1) := by decide +kernel
theorem dX7_init_1 : decode cX7_init 1 = .ok (.invokespecial 1, 3) := by decide +kernel
theorem dX7_init_4 : decode cX7_init 4 = .ok (.aload_n 0, 1) := by decide +kernel
theorem dX7_init_5 : decode cX7_init 5 = .ok (.new 7, 3) := by decide +kernel
theorem dX7_init_8 : decode cX7_init 8 = .ok (.dup, 1) := by decide +kernel
theorem dX7_init_9 : decode cX7_init 9 = .ok (.invokespecial 9, 3) := by decide +kernel
theorem dX7_init_12 : decode cX7_init 12 = .ok (.putfield 10, 3) := by decide +kernel
theorem dX7_init_15 : decode cX7_init 15 = .ok (.aload_n 0, 1) := by decide +kernel
theorem dX7_init_16 : decode cX7_init 16 = .ok (.bipush 12, 2) := by decide +kernel
theorem dX7_init_18 : decode cX7_init 18 = .ok (.anewarray 16, 3) := by decide +kernel
theorem dX7_init_21 : decode cX7_init 21 = .ok (.putfield 18, 3) := by decide +kernel
theorem dX7_init_24 : decode cX7_init 24 = .ok (.aload_n 0, 1) := by decide +kernel
theorem dX7_init_25 : decode cX7_init 25 = .ok (.iconst 3, 1) := by decide +kernel
theorem dX7_init_26 : decode cX7_init 26 = .ok (.newarray .int, 2) := by decide +kernel
theorem dX7_init_28 : decode cX7_init 28 = .ok (.putfield 22, 3) := by decide +kernel
theorem dX7_init_31 : decode cX7_init 31 = .ok (.aload_n 0, 1) := by decide +kernel
theorem dX7_init_32 : decode cX7_init 32 = .ok (.getfield 22, 3) := by decide +kernel
theorem dX7_init_35 : decode cX7_init 35 = .ok (.sipush 5000, 3) := by decide +kernel
theorem dX7_init_38 : decode cX7_init 38 = .ok (.invokestatic 26, 3) := by decide +kernel
theorem dX7_init_41 : decode cX7_init 41 = .ok (.aload_n 0, 1) := by decide +kernel
theorem dX7_init_42 : decode cX7_init 42 = .ok (.new 32, 3) := by decide +kernel
theorem dX7_init_45 : decode cX7_init 45 = .ok (.dup, 1) := by decide +kernel
theorem dX7_init_46 : decode cX7_init 46 = .ok (.invokespecial 34, 3) := by decide +kernel
theorem dX7_init_49 : decode cX7_init 49 = .ok (.putfield 35, 3) := by decide +kernel
theorem dX7_init_52 : decode cX7_init 52 = .ok (.aload_n 0, 1) := by decide +kernel
theorem dX7_init_53 : decode cX7_init 53 = .ok (.new 32, 3) := by decide +kernel
theorem dX7_init_56 : decode cX7_init 56 = .ok (.dup, 1) := by decide +kernel
theorem dX7_init_57 : decode cX7_init 57 = .ok (.invokespecial 34, 3) := by decide +kernel
theorem dX7_init_60 : decode cX7_init 60 = .ok (.putfield 39, 3) := by decide +kernel
theorem dX7_init_63 : decode cX7_init 63 = .ok (.aload_n 0, 1) := by decide +kernel
theorem dX7_init_64 : decode cX7_init 64 = .ok (.new 42, 3) := by decide +kernel
theorem dX7_init_67 : decode cX7_init 67 = .ok (.dup, 1) := by decide +kernel
theorem dX7_init_68 : decode cX7_init 68 = .ok (.invokespecial 44, 3) := by decide +kernel
theorem dX7_init_71 : decode cX7_init 71 = .ok (.putfield 45, 3) := by decide +kernel
theorem dX7_init_74 : decode cX7_init 74 = .ok (.aload_n 0, 1) := by decide +kernel
theorem dX7_init_75 : decode cX7_init 75 = .ok (.new 49, 3) := by decide +kernel
theorem dX7_init_78 : decode cX7_init 78 = .ok (.dup, 1) := by decide +kernel
theorem dX7_init_79 : decode cX7_init 79 = .ok (.invokespecial 51, 3) := by decide +kernel
theorem dX7_init_82 : decode cX7_init 82 = .ok (.putfield 52, 3) := by decide +kernel
theorem dX7_init_85 : decode cX7_init 85 = .ok (.return_, 1) := by decide +kernel
theorem dX7_lamp_0 : decode cX7_lamp 0 = .ok (.iload_n 1, 1) := by decide +kernel
theorem dX7_lamp_1 : decode cX7_lamp 1 = .ok (.iconst 0, 1) := by decide +kernel
theorem dX7_lamp_2 : decode cX7_lamp 2 = .ok (.iconst 3, 1) := by decide +kernel
theorem dX7_lamp_3 : decode cX7_lamp 3 = .ok (.invokestatic 56, 3) := by decide +kernel
theorem dX7_lamp_6 : decode cX7_lamp 6 = .ok (.ifCond .eq 41, 3) := by decide +kernel
theorem dX7_lamp_9 : decode cX7_lamp 9 = .ok (.iload_n 2, 1) := by decide +kernel
theorem dX7_lamp_10 : decode cX7_lamp 10 = .ok (.iconst 0, 1) := by decide +kernel
theorem dX7_lamp_11 : decode cX7_lamp 11 = .ok (.bipush 9, 2) := by decide +kernel
theorem dX7_lamp_13 : decode cX7_lamp 13 = .ok (.invokestatic 56, 3) := by decide +kernel
theorem dX7_lamp_16 : decode cX7_lamp 16 = .ok (.ifCond .eq 31, 3) := by decide +kernel
theorem dX7_lamp_19 : decode cX7_lamp 19 = .ok (.iload_n 3, 1) := by decide +kernel
theorem dX7_lamp_20 : decode cX7_lamp 20 = .ok (.invokestatic 60, 3) := by decide +kernel
theorem dX7_lamp_23 : decode cX7_lamp 23 = .ok (.ifCond .eq 24, 3) := by decide +kernel
theorem dX7_lamp_26 : decode cX7_lamp 26 = .ok (.iload 4, 2) := by decide +kernel
theorem dX7_lamp_28 : decode cX7_lamp 28 = .ok (.bipush 100, 2) := by decide +kernel
theorem dX7_lamp_30 : decode cX7_lamp 30 = .ok (.sipush 2000, 3) := by decide +kernel
theorem dX7_lamp_33 : decode cX7_lamp 33 = .ok (.invokestatic 56, 3) := by decide +kernel
theorem dX7_lamp_36 : decode cX7_lamp 36 = .ok (.ifCond .eq 11, 3) := by decide +kernel
theorem dX7_lamp_39 : decode cX7_lamp 39 = .ok (.iload 5, 2) := by decide +kernel
theorem dX7_lamp_41 : decode cX7_lamp 41 = .ok (.invokestatic 64, 3) := by decide +kernel
theorem dX7_lamp_44 : decode cX7_lamp 44 = .ok (.ifCond .ne 13, 3) := by decide +kernel
theorem dX7_lamp_47 : decode cX7_lamp 47 = .ok (.new 67, 3) := by decide +kernel
theorem dX7_lamp_50 : decode cX7_lamp 50 = .ok (.dup, 1) := by decide +kernel
theorem dX7_lamp_51 : decode cX7_lamp 51 = .ok (.ldc 69, 2) := by decide +kernel
theorem dX7_lamp_53 : decode cX7_lamp 53 = .ok (.invokespecial 71, 3) := by decide +kernel
theorem dX7_lamp_56 : decode cX7_lamp 56 = .ok (.athrow, 1) := by decide +kernel
theorem dX7_lamp_57 : decode cX7_lamp 57 = .ok (.aload_n 0, 1) := by decide +kernel
theorem dX7_lamp_58 : decode cX7_lamp 58 = .ok (.getfield 10, 3) := by decide +kernel
theorem dX7_lamp_61 : decode cX7_lamp 61 = .ok (.invokevirtual 74, 3) := by decide +kernel
theorem dX7_lamp_64 : decode cX7_lamp 64 = .ok (.ifCond .eq 13, 3) := by decide +kernel
theorem dX7_lamp_67 : decode cX7_lamp 67 = .ok (.new 78, 3) := by decide +kernel
theorem dX7_lamp_70 : decode cX7_lamp 70 = .ok (.dup, 1) := by decide +kernel
theorem dX7_lamp_71 : decode cX7_lamp 71 = .ok (.ldc 80, 2) := by decide +kernel
theorem dX7_lamp_73 : decode cX7_lamp 73 = .ok (.invokespecial 82, 3) := by decide +kernel
theorem dX7_lamp_76 : decode cX7_lamp 76 = .ok (.athrow, 1) := by decide +kernel
theorem dX7_lamp_77 : decode cX7_lamp 77 = .ok (.aload_n 0, 1) := by decide +kernel
theorem dX7_lamp_78 : decode cX7_lamp 78 = .ok (.getfield 10, 3) := by decide +kernel
theorem dX7_lamp_81 : decode cX7_lamp 81 = .ok (.new 83, 3) := by decide +kernel
theorem dX7_lamp_84 : decode cX7_lamp 84 = .ok (.dup, 1) := by decide +kernel
theorem dX7_lamp_85 : decode cX7_lamp 85 = .ok (.iload_n 1, 1) := by decide +kernel
theorem dX7_lamp_86 : decode cX7_lamp 86 = .ok (.iload_n 2, 1) := by decide +kernel
theorem dX7_lamp_87 : decode cX7_lamp 87 = .ok (.iload_n 3, 1) := by decide +kernel
theorem dX7_lamp_88 : decode cX7_lamp 88 = .ok (.iload 4, 2) := by decide +kernel
theorem dX7_lamp_90 : decode cX7_lamp 90 = .ok (.iload 5, 2) := by decide +kernel
theorem dX7_lamp_92 : decode cX7_lamp 92 = .ok (.invokespecial 85, 3) := by decide +kernel
theorem dX7_lamp_95 : decode cX7_lamp 95 = .ok (.invokevirtual 88, 3) := by decide +kernel
theorem dX7_lamp_98 : decode cX7_lamp 98 = .ok (.istore 6, 2) := by decide +kernel
theorem dX7_lamp_100 : decode cX7_lamp 100 = .ok (.aload_n 0, 1) := by decide +kernel
theorem dX7_lamp_101 : decode cX7_lamp 101 = .ok (.invokevirtual 92, 3) := by decide +kernel
theorem dX7_lamp_104 : decode cX7_lamp 104 = .ok (.iload 6, 2) := by decide +kernel
theorem dX7_lamp_106 : decode cX7_lamp 106 = .ok (.ireturn, 1) := by decide +kernel
theorem dX7_die_0 : decode cX7_die 0 = .ok (.aload_n 0, 1) := by decide +kernel
theorem dX7_die_1 : decode cX7_die 1 = .ok (.getfield 10, 3) := by decide +kernel
theorem dX7_die_4 : decode cX7_die 4 = .ok (.iload_n 1, 1) := by decide +kernel
theorem dX7_die_5 : decode cX7_die 5 = .ok (.invokevirtual 95, 3) := by decide +kernel
theorem dX7_die_8 : decode cX7_die 8 = .ok (.astore_n 2, 1) := by decide +kernel
theorem dX7_die_9 : decode cX7_die 9 = .ok (.aload_n 2, 1) := by decide +kernel
theorem dX7_die_10 : decode cX7_die 10 = .ok (.ifnonnull 13, 3) := by decide +kernel
theorem dX7_die_13 : decode cX7_die 13 = .ok (.new 99, 3) := by decide +kernel
theorem dX7_die_16 : decode cX7_die 16 = .ok (.dup, 1) := by decide +kernel
theorem dX7_die_17 : decode cX7_die 17 = .ok (.ldc 101, 2) := by decide +kernel
theorem dX7_die_19 : decode cX7_die 19 = .ok (.invokespecial 103, 3) := by decide +kernel
theorem dX7_die_22 : decode cX7_die 22 = .ok (.athrow, 1) := by decide +kernel
theorem dX7_die_23 : decode cX7_die 23 = .ok (.aload_n 2, 1) := by decide +kernel
theorem dX7_die_24 : decode cX7_die 24 = .ok (.aload_n 2, 1) := by decide +kernel
theorem dX7_die_25 : decode cX7_die 25 = .ok (.getfield 104, 3) := by decide +kernel
theorem dX7_die_28 : decode cX7_die 28 = .ok (.ifCond .ne 7, 3) := by decide +kernel
theorem dX7_die_31 : decode cX7_die 31 = .ok (.iconst 1, 1) := by decide +kernel
theorem dX7_die_32 : decode cX7_die 32 = .ok (.goto 4, 3) := by decide +kernel
theorem dX7_die_35 : decode cX7_die 35 = .ok (.iconst 0, 1) := by decide +kernel
theorem dX7_die_36 : decode cX7_die 36 = .ok (.putfield 104, 3) := by decide +kernel
theorem dX7_die_39 : decode cX7_die 39 = .ok (.aload_n 0, 1) := by decide +kernel
theorem dX7_die_40 : decode cX7_die 40 = .ok (.invokevirtual 92, 3) := by decide +kernel
theorem dX7_die_43 : decode cX7_die 43 = .ok (.aload_n 2, 1) := by decide +kernel
theorem dX7_die_44 : decode cX7_die 44 = .ok (.getfield 104, 3) := by decide +kernel
theorem dX7_die_47 : decode cX7_die 47 = .ok (.ireturn, 1) := by decide +kernel
theorem dX7_house_0 : decode cX7_house 0 = .ok (.iload_n 1, 1) := by decide +kernel
theorem dX7_house_1 : decode cX7_house 1 = .ok (.iconst 0, 1) := by decide +kernel
theorem dX7_house_2 : decode cX7_house 2 = .ok (.bipush 15, 2) := by decide +kernel
theorem dX7_house_4 : decode cX7_house 4 = .ok (.invokestatic 56, 3) := by decide +kernel
theorem dX7_house_7 : decode cX7_house 7 = .ok (.ifCond .ne 13, 3) := by decide +kernel
theorem dX7_house_10 : decode cX7_house 10 = .ok (.new 67, 3) := by decide +kernel
theorem dX7_house_13 : decode cX7_house 13 = .ok (.dup, 1) := by decide +kernel
theorem dX7_house_14 : decode cX7_house 14 = .ok (.ldc 108, 2) := by decide +kernel
theorem dX7_house_16 : decode cX7_house 16 = .ok (.invokespecial 71, 3) := by decide +kernel
theorem dX7_house_19 : decode cX7_house 19 = .ok (.athrow, 1) := by decide +kernel
theorem dX7_house_20 : decode cX7_house 20 = .ok (.aload_n 0, 1) := by decide +kernel
theorem dX7_house_21 : decode cX7_house 21 = .ok (.getfield 10, 3) := by decide +kernel
theorem dX7_house_24 : decode cX7_house 24 = .ok (.iload_n 1, 1) := by decide +kernel
theorem dX7_house_25 : decode cX7_house 25 = .ok (.putfield 110, 3) := by decide +kernel
theorem dX7_house_28 : decode cX7_house 28 = .ok (.aload_n 0, 1) := by decide +kernel
theorem dX7_house_29 : decode cX7_house 29 = .ok (.invokevirtual 92, 3) := by decide +kernel
theorem dX7_house_32 : decode cX7_house 32 = .ok (.aload_n 0, 1) := by decide +kernel
theorem dX7_house_33 : decode cX7_house 33 = .ok (.getfield 10, 3) := by decide +kernel
theorem dX7_house_36 : decode cX7_house 36 = .ok (.invokevirtual 114, 3) := by decide +kernel
theorem dX7_house_39 : decode cX7_house 39 = .ok (.ireturn, 1) := by decide +kernel
theorem dX7_power_0 : decode cX7_power 0 = .ok (.iload_n 1, 1) := by decide +kernel
theorem dX7_power_1 : decode cX7_power 1 = .ok (.invokestatic 64, 3) := by decide +kernel
theorem dX7_power_4 : decode cX7_power 4 = .ok (.ifCond .ne 13, 3) := by decide +kernel
theorem dX7_power_7 : decode cX7_power 7 = .ok (.new 99, 3) := by decide +kernel
theorem dX7_power_10 : decode cX7_power 10 = .ok (.dup, 1) := by decide +kernel
theorem dX7_power_11 : decode cX7_power 11 = .ok (.ldc 118, 2) := by decide +kernel
theorem dX7_power_13 : decode cX7_power 13 = .ok (.invokespecial 103, 3) := by decide +kernel
theorem dX7_power_16 : decode cX7_power 16 = .ok (.athrow, 1) := by decide +kernel
theorem dX7_power_17 : decode cX7_power 17 = .ok (.iload_n 2, 1) := by decide +kernel
theorem dX7_power_18 : decode cX7_power 18 = .ok (.iconst 0, 1) := by decide +kernel
theorem dX7_power_19 : decode cX7_power 19 = .ok (.sipush 20000, 3) := by decide +kernel
theorem dX7_power_22 : decode cX7_power 22 = .ok (.invokestatic 56, 3) := by decide +kernel
theorem dX7_power_25 : decode cX7_power 25 = .ok (.ifCond .ne 13, 3) := by decide +kernel
theorem dX7_power_28 : decode cX7_power 28 = .ok (.new 67, 3) := by decide +kernel
theorem dX7_power_31 : decode cX7_power 31 = .ok (.dup, 1) := by decide +kernel
theorem dX7_power_32 : decode cX7_power 32 = .ok (.ldc 120, 2) := by decide +kernel
theorem dX7_power_34 : decode cX7_power 34 = .ok (.invokespecial 71, 3) := by decide +kernel
theorem dX7_power_37 : decode cX7_power 37 = .ok (.athrow, 1) := by decide +kernel
theorem dX7_power_38 : decode cX7_power 38 = .ok (.aload_n 0, 1) := by decide +kernel
theorem dX7_power_39 : decode cX7_power 39 = .ok (.getfield 22, 3) := by decide +kernel
theorem dX7_power_42 : decode cX7_power 42 = .ok (.iload_n 1, 1) := by decide +kernel
theorem dX7_power_43 : decode cX7_power 43 = .ok (.iaload, 1) := by decide +kernel
theorem dX7_power_44 : decode cX7_power 44 = .ok (.istore_n 3, 1) := by decide +kernel
theorem dX7_power_45 : decode cX7_power 45 = .ok (.aload_n 0, 1) := by decide +kernel
theorem dX7_power_46 : decode cX7_power 46 = .ok (.getfield 22, 3) := by decide +kernel
theorem dX7_power_49 : decode cX7_power 49 = .ok (.iload_n 1, 1) := by decide +kernel
theorem dX7_power_50 : decode cX7_power 50 = .ok (.iload_n 2, 1) := by decide +kernel
theorem dX7_power_51 : decode cX7_power 51 = .ok (.iastore, 1) := by decide +kernel
theorem dX7_power_52 : decode cX7_power 52 = .ok (.iload_n 3, 1) := by decide +kernel
theorem dX7_power_53 : decode cX7_power 53 = .ok (.ireturn, 1) := by decide +kernel
theorem dX7_cue_0 : decode cX7_cue 0 = .ok (.iload_n 1, 1) := by decide +kernel
theorem dX7_cue_1 : decode cX7_cue 1 = .ok (.iconst 0, 1) := by decide +kernel
theorem dX7_cue_2 : decode cX7_cue 2 = .ok (.iconst 1, 1) := by decide +kernel
theorem dX7_cue_3 : decode cX7_cue 3 = .ok (.invokestatic 56, 3) := by decide +kernel
theorem dX7_cue_6 : decode cX7_cue 6 = .ok (.ifCond .eq 23, 3) := by decide +kernel
theorem dX7_cue_9 : decode cX7_cue 9 = .ok (.iload_n 2, 1) := by decide +kernel
theorem dX7_cue_10 : decode cX7_cue 10 = .ok (.iconst 0, 1) := by decide +kernel
theorem dX7_cue_11 : decode cX7_cue 11 = .ok (.bipush 60, 2) := by decide +kernel
theorem dX7_cue_13 : decode cX7_cue 13 = .ok (.invokestatic 56, 3) := by decide +kernel
theorem dX7_cue_16 : decode cX7_cue 16 = .ok (.ifCond .eq 13, 3) := by decide +kernel
theorem dX7_cue_19 : decode cX7_cue 19 = .ok (.iload_n 3, 1) := by decide +kernel
theorem dX7_cue_20 : decode cX7_cue 20 = .ok (.iconst 0, 1) := by decide +kernel
theorem dX7_cue_21 : decode cX7_cue 21 = .ok (.bipush 60, 2) := by decide +kernel
theorem dX7_cue_23 : decode cX7_cue 23 = .ok (.invokestatic 56, 3) := by decide +kernel
theorem dX7_cue_26 : decode cX7_cue 26 = .ok (.ifCond .ne 13, 3) := by decide +kernel
theorem dX7_cue_29 : decode cX7_cue 29 = .ok (.new 67, 3) := by decide +kernel
theorem dX7_cue_32 : decode cX7_cue 32 = .ok (.dup, 1) := by decide +kernel
theorem dX7_cue_33 : decode cX7_cue 33 = .ok (.ldc 122, 2) := by decide +kernel
theorem dX7_cue_35 : decode cX7_cue 35 = .ok (.invokespecial 71, 3) := by decide +kernel
theorem dX7_cue_38 : decode cX7_cue 38 = .ok (.athrow, 1) := by decide +kernel
theorem dX7_cue_39 : decode cX7_cue 39 = .ok (.aload_n 0, 1) := by decide +kernel
theorem dX7_cue_40 : decode cX7_cue 40 = .ok (.getfield 124, 3) := by decide +kernel
theorem dX7_cue_43 : decode cX7_cue 43 = .ok (.aload_n 0, 1) := by decide +kernel
theorem dX7_cue_44 : decode cX7_cue 44 = .ok (.getfield 18, 3) := by decide +kernel
theorem dX7_cue_47 : decode cX7_cue 47 = .ok (.arraylength, 1) := by decide +kernel
theorem dX7_cue_48 : decode cX7_cue 48 = .ok (.if_icmp .lt 13, 3) := by decide +kernel
theorem dX7_cue_51 : decode cX7_cue 51 = .ok (.new 78, 3) := by decide +kernel
theorem dX7_cue_54 : decode cX7_cue 54 = .ok (.dup, 1) := by decide +kernel
theorem dX7_cue_55 : decode cX7_cue 55 = .ok (.ldc 127, 2) := by decide +kernel
theorem dX7_cue_57 : decode cX7_cue 57 = .ok (.invokespecial 82, 3) := by decide +kernel
theorem dX7_cue_60 : decode cX7_cue 60 = .ok (.athrow, 1) := by decide +kernel
theorem dX7_cue_61 : decode cX7_cue 61 = .ok (.aload_n 0, 1) := by decide +kernel
theorem dX7_cue_62 : decode cX7_cue 62 = .ok (.getfield 124, 3) := by decide +kernel
theorem dX7_cue_65 : decode cX7_cue 65 = .ok (.istore 4, 2) := by decide +kernel
theorem dX7_cue_67 : decode cX7_cue 67 = .ok (.aload_n 0, 1) := by decide +kernel
theorem dX7_cue_68 : decode cX7_cue 68 = .ok (.getfield 18, 3) := by decide +kernel
theorem dX7_cue_71 : decode cX7_cue 71 = .ok (.iload 4, 2) := by decide +kernel
theorem dX7_cue_73 : decode cX7_cue 73 = .ok (.new 16, 3) := by decide +kernel
theorem dX7_cue_76 : decode cX7_cue 76 = .ok (.dup, 1) := by decide +kernel
theorem dX7_cue_77 : decode cX7_cue 77 = .ok (.iload 4, 2) := by decide +kernel
theorem dX7_cue_79 : decode cX7_cue 79 = .ok (.iload_n 1, 1) := by decide +kernel
theorem dX7_cue_80 : decode cX7_cue 80 = .ok (.iload_n 2, 1) := by decide +kernel
theorem dX7_cue_81 : decode cX7_cue 81 = .ok (.iload_n 3, 1) := by decide +kernel
theorem dX7_cue_82 : decode cX7_cue 82 = .ok (.invokespecial 129, 3) := by decide +kernel
theorem dX7_cue_85 : decode cX7_cue 85 = .ok (.aastore, 1) := by decide +kernel
theorem dX7_cue_86 : decode cX7_cue 86 = .ok (.aload_n 0, 1) := by decide +kernel
theorem dX7_cue_87 : decode cX7_cue 87 = .ok (.dup, 1) := by decide +kernel
theorem dX7_cue_88 : decode cX7_cue 88 = .ok (.getfield 124, 3) := by decide +kernel
theorem dX7_cue_91 : decode cX7_cue 91 = .ok (.iconst 1, 1) := by decide +kernel
theorem dX7_cue_92 : decode cX7_cue 92 = .ok (.iadd, 1) := by decide +kernel
theorem dX7_cue_93 : decode cX7_cue 93 = .ok (.putfield 124, 3) := by decide +kernel
theorem dX7_cue_96 : decode cX7_cue 96 = .ok (.iload 4, 2) := by decide +kernel
theorem dX7_cue_98 : decode cX7_cue 98 = .ok (.ireturn, 1) := by decide +kernel
theorem dX7_level_0 : decode cX7_level 0 = .ok (.aload_n 0, 1) := by decide +kernel
theorem dX7_level_1 : decode cX7_level 1 = .ok (.iload_n 1, 1) := by decide +kernel
theorem dX7_level_2 : decode cX7_level 2 = .ok (.invokevirtual 132, 3) := by decide +kernel
theorem dX7_level_5 : decode cX7_level 5 = .ok (.astore 4, 2) := by decide +kernel
theorem dX7_level_7 : decode cX7_level 7 = .ok (.aload 4, 2) := by decide +kernel
theorem dX7_level_9 : decode cX7_level 9 = .ok (.ifnull 14, 3) := by decide +kernel
theorem dX7_level_12 : decode cX7_level 12 = .ok (.aload_n 0, 1) := by decide +kernel
theorem dX7_level_13 : decode cX7_level 13 = .ok (.getfield 10, 3) := by decide +kernel
theorem dX7_level_16 : decode cX7_level 16 = .ok (.iload_n 2, 1) := by decide +kernel
theorem dX7_level_17 : decode cX7_level 17 = .ok (.invokevirtual 95, 3) := by decide +kernel
theorem dX7_level_20 : decode cX7_level 20 = .ok (.ifnonnull 13, 3) := by decide +kernel
theorem dX7_level_23 : decode cX7_level 23 = .ok (.new 99, 3) := by decide +kernel
theorem dX7_level_26 : decode cX7_level 26 = .ok (.dup, 1) := by decide +kernel
theorem dX7_level_27 : decode cX7_level 27 = .ok (.ldc 136, 2) := by decide +kernel
theorem dX7_level_29 : decode cX7_level 29 = .ok (.invokespecial 103, 3) := by decide +kernel
theorem dX7_level_32 : decode cX7_level 32 = .ok (.athrow, 1) := by decide +kernel
theorem dX7_level_33 : decode cX7_level 33 = .ok (.iload_n 3, 1) := by decide +kernel
theorem dX7_level_34 : decode cX7_level 34 = .ok (.iconst 0, 1) := by decide +kernel
theorem dX7_level_35 : decode cX7_level 35 = .ok (.bipush 100, 2) := by decide +kernel
theorem dX7_level_37 : decode cX7_level 37 = .ok (.invokestatic 56, 3) := by decide +kernel
theorem dX7_level_40 : decode cX7_level 40 = .ok (.ifCond .ne 13, 3) := by decide +kernel
theorem dX7_level_43 : decode cX7_level 43 = .ok (.new 67, 3) := by decide +kernel
theorem dX7_level_46 : decode cX7_level 46 = .ok (.dup, 1) := by decide +kernel
theorem dX7_level_47 : decode cX7_level 47 = .ok (.ldc 138, 2) := by decide +kernel
theorem dX7_level_49 : decode cX7_level 49 = .ok (.invokespecial 71, 3) := by decide +kernel
theorem dX7_level_52 : decode cX7_level 52 = .ok (.athrow, 1) := by decide +kernel
theorem dX7_level_53 : decode cX7_level 53 = .ok (.aload 4, 2) := by decide +kernel
theorem dX7_level_55 : decode cX7_level 55 = .ok (.iload_n 2, 1) := by decide +kernel
theorem dX7_level_56 : decode cX7_level 56 = .ok (.iload_n 3, 1) := by decide +kernel
theorem dX7_level_57 : decode cX7_level 57 = .ok (.invokevirtual 140, 3) := by decide +kernel
theorem dX7_level_60 : decode cX7_level 60 = .ok (.istore 5, 2) := by decide +kernel
theorem dX7_level_62 : decode cX7_level 62 = .ok (.aload 4, 2) := by decide +kernel
theorem dX7_level_64 : decode cX7_level 64 = .ok (.aload_n 0, 1) := by decide +kernel
theorem dX7_level_65 : decode cX7_level 65 = .ok (.getfield 10, 3) := by decide +kernel
theorem dX7_level_68 : decode cX7_level 68 = .ok (.invokevirtual 144, 3) := by decide +kernel
theorem dX7_level_71 : decode cX7_level 71 = .ok (.iload 5, 2) := by decide +kernel
theorem dX7_level_73 : decode cX7_level 73 = .ok (.ireturn, 1) := by decide +kernel
theorem dX7_follow_0 : decode cX7_follow 0 = .ok (.aload_n 0, 1) := by decide +kernel
theorem dX7_follow_1 : decode cX7_follow 1 = .ok (.iload_n 1, 1) := by decide +kernel
theorem dX7_follow_2 : decode cX7_follow 2 = .ok (.invokevirtual 132, 3) := by decide +kernel
theorem dX7_follow_5 : decode cX7_follow 5 = .ok (.astore 4, 2) := by decide +kernel
theorem dX7_follow_7 : decode cX7_follow 7 = .ok (.aload_n 0, 1) := by decide +kernel
theorem dX7_follow_8 : decode cX7_follow 8 = .ok (.iload_n 2, 1) := by decide +kernel
theorem dX7_follow_9 : decode cX7_follow 9 = .ok (.invokevirtual 132, 3) := by decide +kernel
theorem dX7_follow_12 : decode cX7_follow 12 = .ok (.astore 5, 2) := by decide +kernel
theorem dX7_follow_14 : decode cX7_follow 14 = .ok (.aload 4, 2) := by decide +kernel
theorem dX7_follow_16 : decode cX7_follow 16 = .ok (.ifnull 13, 3) := by decide +kernel
theorem dX7_follow_19 : decode cX7_follow 19 = .ok (.aload 5, 2) := by decide +kernel
theorem dX7_follow_21 : decode cX7_follow 21 = .ok (.ifnonnull 18, 3) := by decide +kernel
theorem dX7_follow_24 : decode cX7_follow 24 = .ok (.iload_n 2, 1) := by decide +kernel
theorem dX7_follow_25 : decode cX7_follow 25 = .ok (.iconst (-1), 1) := by decide +kernel
theorem dX7_follow_26 : decode cX7_follow 26 = .ok (.if_icmp .eq 13, 3) := by decide +kernel
theorem dX7_follow_29 : decode cX7_follow 29 = .ok (.new 99, 3) := by decide +kernel
theorem dX7_follow_32 : decode cX7_follow 32 = .ok (.dup, 1) := by decide +kernel
theorem dX7_follow_33 : decode cX7_follow 33 = .ok (.ldc 148, 2) := by decide +kernel
theorem dX7_follow_35 : decode cX7_follow 35 = .ok (.invokespecial 103, 3) := by decide +kernel
theorem dX7_follow_38 : decode cX7_follow 38 = .ok (.athrow, 1) := by decide +kernel
theorem dX7_follow_39 : decode cX7_follow 39 = .ok (.iload_n 3, 1) := by decide +kernel
theorem dX7_follow_40 : decode cX7_follow 40 = .ok (.iconst 1, 1) := by decide +kernel
theorem dX7_follow_41 : decode cX7_follow 41 = .ok (.bipush 60, 2) := by decide +kernel
theorem dX7_follow_43 : decode cX7_follow 43 = .ok (.invokestatic 56, 3) := by decide +kernel
theorem dX7_follow_46 : decode cX7_follow 46 = .ok (.ifCond .ne 13, 3) := by decide +kernel
theorem dX7_follow_49 : decode cX7_follow 49 = .ok (.new 67, 3) := by decide +kernel
theorem dX7_follow_52 : decode cX7_follow 52 = .ok (.dup, 1) := by decide +kernel
theorem dX7_follow_53 : decode cX7_follow 53 = .ok (.ldc 150, 2) := by decide +kernel
theorem dX7_follow_55 : decode cX7_follow 55 = .ok (.invokespecial 71, 3) := by decide +kernel
theorem dX7_follow_58 : decode cX7_follow 58 = .ok (.athrow, 1) := by decide +kernel
theorem dX7_follow_59 : decode cX7_follow 59 = .ok (.aload 4, 2) := by decide +kernel
theorem dX7_follow_61 : decode cX7_follow 61 = .ok (.getfield 152, 3) := by decide +kernel
theorem dX7_follow_64 : decode cX7_follow 64 = .ok (.astore 6, 2) := by decide +kernel
theorem dX7_follow_66 : decode cX7_follow 66 = .ok (.aload 4, 2) := by decide +kernel
theorem dX7_follow_68 : decode cX7_follow 68 = .ok (.aload 5, 2) := by decide +kernel
theorem dX7_follow_70 : decode cX7_follow 70 = .ok (.putfield 152, 3) := by decide +kernel
theorem dX7_follow_73 : decode cX7_follow 73 = .ok (.aload 4, 2) := by decide +kernel
theorem dX7_follow_75 : decode cX7_follow 75 = .ok (.iload_n 3, 1) := by decide +kernel
theorem dX7_follow_76 : decode cX7_follow 76 = .ok (.putfield 156, 3) := by decide +kernel
theorem dX7_follow_79 : decode cX7_follow 79 = .ok (.aload 6, 2) := by decide +kernel
theorem dX7_follow_81 : decode cX7_follow 81 = .ok (.ifnonnull 7, 3) := by decide +kernel
theorem dX7_follow_84 : decode cX7_follow 84 = .ok (.iconst (-1), 1) := by decide +kernel
theorem dX7_follow_85 : decode cX7_follow 85 = .ok (.goto 8, 3) := by decide +kernel
theorem dX7_follow_88 : decode cX7_follow 88 = .ok (.aload 6, 2) := by decide +kernel
theorem dX7_follow_90 : decode cX7_follow 90 = .ok (.getfield 159, 3) := by decide +kernel
theorem dX7_follow_93 : decode cX7_follow 93 = .ok (.ireturn, 1) := by decide +kernel
theorem dX7_go_0 : decode cX7_go 0 = .ok (.aload_n 0, 1) := by decide +kernel
theorem dX7_go_1 : decode cX7_go 1 = .ok (.iload_n 1, 1) := by decide +kernel
theorem dX7_go_2 : decode cX7_go 2 = .ok (.invokevirtual 132, 3) := by decide +kernel
theorem dX7_go_5 : decode cX7_go 5 = .ok (.astore_n 2, 1) := by decide +kernel
theorem dX7_go_6 : decode cX7_go 6 = .ok (.aload_n 2, 1) := by decide +kernel
theorem dX7_go_7 : decode cX7_go 7 = .ok (.ifnonnull 13, 3) := by decide +kernel
theorem dX7_go_10 : decode cX7_go 10 = .ok (.new 99, 3) := by decide +kernel
theorem dX7_go_13 : decode cX7_go 13 = .ok (.dup, 1) := by decide +kernel
theorem dX7_go_14 : decode cX7_go 14 = .ok (.ldc 148, 2) := by decide +kernel
theorem dX7_go_16 : decode cX7_go 16 = .ok (.invokespecial 103, 3) := by decide +kernel
theorem dX7_go_19 : decode cX7_go 19 = .ok (.athrow, 1) := by decide +kernel
theorem dX7_go_20 : decode cX7_go 20 = .ok (.aload_n 0, 1) := by decide +kernel
theorem dX7_go_21 : decode cX7_go 21 = .ok (.aload_n 2, 1) := by decide +kernel
theorem dX7_go_22 : decode cX7_go 22 = .ok (.invokevirtual 162, 3) := by decide +kernel
theorem dX7_go_25 : decode cX7_go 25 = .ok (.ifCond .ne 13, 3) := by decide +kernel
theorem dX7_go_28 : decode cX7_go 28 = .ok (.new 78, 3) := by decide +kernel
theorem dX7_go_31 : decode cX7_go 31 = .ok (.dup, 1) := by decide +kernel
theorem dX7_go_32 : decode cX7_go 32 = .ok (.ldc 166, 2) := by decide +kernel
theorem dX7_go_34 : decode cX7_go 34 = .ok (.invokespecial 82, 3) := by decide +kernel
theorem dX7_go_37 : decode cX7_go 37 = .ok (.athrow, 1) := by decide +kernel
theorem dX7_go_38 : decode cX7_go 38 = .ok (.aload_n 0, 1) := by decide +kernel
theorem dX7_go_39 : decode cX7_go 39 = .ok (.aload_n 2, 1) := by decide +kernel
theorem dX7_go_40 : decode cX7_go 40 = .ok (.invokevirtual 168, 3) := by decide +kernel
theorem dX7_go_43 : decode cX7_go 43 = .ok (.aload_n 0, 1) := by decide +kernel
theorem dX7_go_44 : decode cX7_go 44 = .ok (.getfield 35, 3) := by decide +kernel
theorem dX7_go_47 : decode cX7_go 47 = .ok (.getfield 172, 3) := by decide +kernel
theorem dX7_go_50 : decode cX7_go 50 = .ok (.ireturn, 1) := by decide +kernel
theorem dX7_release_0 : decode cX7_release 0 = .ok (.aload_n 0, 1) := by decide +kernel
theorem dX7_release_1 : decode cX7_release 1 = .ok (.iload_n 1, 1) := by decide +kernel
theorem dX7_release_2 : decode cX7_release 2 = .ok (.invokevirtual 132, 3) := by decide +kernel
theorem dX7_release_5 : decode cX7_release 5 = .ok (.astore_n 2, 1) := by decide +kernel
theorem dX7_release_6 : decode cX7_release 6 = .ok (.aload_n 2, 1) := by decide +kernel
theorem dX7_release_7 : decode cX7_release 7 = .ok (.ifnonnull 13, 3) := by decide +kernel
theorem dX7_release_10 : decode cX7_release 10 = .ok (.new 99, 3) := by decide +kernel
theorem dX7_release_13 : decode cX7_release 13 = .ok (.dup, 1) := by decide +kernel
theorem dX7_release_14 : decode cX7_release 14 = .ok (.ldc 148, 2) := by decide +kernel
theorem dX7_release_16 : decode cX7_release 16 = .ok (.invokespecial 103, 3) := by decide +kernel
theorem dX7_release_19 : decode cX7_release 19 = .ok (.athrow, 1) := by decide +kernel
theorem dX7_release_20 : decode cX7_release 20 = .ok (.aload_n 0, 1) := by decide +kernel
theorem dX7_release_21 : decode cX7_release 21 = .ok (.getfield 35, 3) := by decide +kernel
theorem dX7_release_24 : decode cX7_release 24 = .ok (.aload_n 2, 1) := by decide +kernel
theorem dX7_release_25 : decode cX7_release 25 = .ok (.invokevirtual 175, 3) := by decide +kernel
theorem dX7_release_28 : decode cX7_release 28 = .ok (.astore_n 3, 1) := by decide +kernel
theorem dX7_release_29 : decode cX7_release 29 = .ok (.aload_n 3, 1) := by decide +kernel
theorem dX7_release_30 : decode cX7_release 30 = .ok (.ifnull 10, 3) := by decide +kernel
theorem dX7_release_33 : decode cX7_release 33 = .ok (.aload_n 3, 1) := by decide +kernel
theorem dX7_release_34 : decode cX7_release 34 = .ok (.invokevirtual 179, 3) := by decide +kernel
theorem dX7_release_37 : decode cX7_release 37 = .ok (.ifCond .eq 13, 3) := by decide +kernel
theorem dX7_release_40 : decode cX7_release 40 = .ok (.new 78, 3) := by decide +kernel
theorem dX7_release_43 : decode cX7_release 43 = .ok (.dup, 1) := by decide +kernel
theorem dX7_release_44 : decode cX7_release 44 = .ok (.ldc 184, 2) := by decide +kernel
theorem dX7_release_46 : decode cX7_release 46 = .ok (.invokespecial 82, 3) := by decide +kernel
theorem dX7_release_49 : decode cX7_release 49 = .ok (.athrow, 1) := by decide +kernel
theorem dX7_release_50 : decode cX7_release 50 = .ok (.aload_n 3, 1) := by decide +kernel
theorem dX7_release_51 : decode cX7_release 51 = .ok (.aload_n 0, 1) := by decide +kernel
theorem dX7_release_52 : decode cX7_release 52 = .ok (.getfield 186, 3) := by decide +kernel
theorem dX7_release_55 : decode cX7_release 55 = .ok (.invokevirtual 189, 3) := by decide +kernel
theorem dX7_release_58 : decode cX7_release 58 = .ok (.aload_n 0, 1) := by decide +kernel
theorem dX7_release_59 : decode cX7_release 59 = .ok (.getfield 52, 3) := by decide +kernel
theorem dX7_release_62 : decode cX7_release 62 = .ok (.aload_n 0, 1) := by decide +kernel
theorem dX7_release_63 : decode cX7_release 63 = .ok (.getfield 186, 3) := by decide +kernel
theorem dX7_release_66 : decode cX7_release 66 = .ok (.aload_n 2, 1) := by decide +kernel
theorem dX7_release_67 : decode cX7_release 67 = .ok (.getfield 159, 3) := by decide +kernel
theorem dX7_release_70 : decode cX7_release 70 = .ok (.invokevirtual 193, 3) := by decide +kernel
theorem dX7_release_73 : decode cX7_release 73 = .ok (.aload_n 0, 1) := by decide +kernel
theorem dX7_release_74 : decode cX7_release 74 = .ok (.getfield 35, 3) := by decide +kernel
theorem dX7_release_77 : decode cX7_release 77 = .ok (.aload_n 0, 1) := by decide +kernel
theorem dX7_release_78 : decode cX7_release 78 = .ok (.getfield 186, 3) := by decide +kernel
theorem dX7_release_81 : decode cX7_release 81 = .ok (.invokevirtual 197, 3) := by decide +kernel
theorem dX7_release_84 : decode cX7_release 84 = .ok (.aload_n 0, 1) := by decide +kernel
theorem dX7_release_85 : decode cX7_release 85 = .ok (.getfield 35, 3) := by decide +kernel
theorem dX7_release_88 : decode cX7_release 88 = .ok (.aload_n 2, 1) := by decide +kernel
theorem dX7_release_89 : decode cX7_release 89 = .ok (.invokevirtual 175, 3) := by decide +kernel
theorem dX7_release_92 : decode cX7_release 92 = .ok (.ifnull 7, 3) := by decide +kernel
theorem dX7_release_95 : decode cX7_release 95 = .ok (.iconst 1, 1) := by decide +kernel
theorem dX7_release_96 : decode cX7_release 96 = .ok (.goto 4, 3) := by decide +kernel
theorem dX7_release_99 : decode cX7_release 99 = .ok (.iconst 0, 1) := by decide +kernel
theorem dX7_release_100 : decode cX7_release 100 = .ok (.ireturn, 1) := by decide +kernel
theorem dX7_pass_0 : decode cX7_pass 0 = .ok (.iload_n 1, 1) := by decide +kernel
theorem dX7_pass_1 : decode cX7_pass 1 = .ok (.iconst 1, 1) := by decide +kernel
theorem dX7_pass_2 : decode cX7_pass 2 = .ok (.bipush 20, 2) := by decide +kernel
theorem dX7_pass_4 : decode cX7_pass 4 = .ok (.invokestatic 56, 3) := by decide +kernel
theorem dX7_pass_7 : decode cX7_pass 7 = .ok (.ifCond .ne 13, 3) := by decide +kernel
theorem dX7_pass_10 : decode cX7_pass 10 = .ok (.new 67, 3) := by decide +kernel
theorem dX7_pass_13 : decode cX7_pass 13 = .ok (.dup, 1) := by decide +kernel
theorem dX7_pass_14 : decode cX7_pass 14 = .ok (.ldc 150, 2) := by decide +kernel
theorem dX7_pass_16 : decode cX7_pass 16 = .ok (.invokespecial 71, 3) := by decide +kernel
theorem dX7_pass_19 : decode cX7_pass 19 = .ok (.athrow, 1) := by decide +kernel
theorem dX7_pass_20 : decode cX7_pass 20 = .ok (.iconst 0, 1) := by decide +kernel
theorem dX7_pass_21 : decode cX7_pass 21 = .ok (.istore_n 2, 1) := by decide +kernel
theorem dX7_pass_22 : decode cX7_pass 22 = .ok (.iload_n 2, 1) := by decide +kernel
theorem dX7_pass_23 : decode cX7_pass 23 = .ok (.iload_n 1, 1) := by decide +kernel
theorem dX7_pass_24 : decode cX7_pass 24 = .ok (.if_icmp .ge 13, 3) := by decide +kernel
theorem dX7_pass_27 : decode cX7_pass 27 = .ok (.aload_n 0, 1) := by decide +kernel
theorem dX7_pass_28 : decode cX7_pass 28 = .ok (.invokevirtual 200, 3) := by decide +kernel
theorem dX7_pass_31 : decode cX7_pass 31 = .ok (.iinc 2 1, 3) := by decide +kernel
theorem dX7_pass_34 : decode cX7_pass 34 = .ok (.goto (-12), 3) := by decide +kernel
theorem dX7_pass_37 : decode cX7_pass 37 = .ok (.aload_n 0, 1) := by decide +kernel
theorem dX7_pass_38 : decode cX7_pass 38 = .ok (.getfield 186, 3) := by decide +kernel
theorem dX7_pass_41 : decode cX7_pass 41 = .ok (.ireturn, 1) := by decide +kernel
theorem dX7_levelOf_0 : decode cX7_levelOf 0 = .ok (.aload_n 0, 1) := by decide +kernel
theorem dX7_levelOf_1 : decode cX7_levelOf 1 = .ok (.getfield 10, 3) := by decide +kernel
theorem dX7_levelOf_4 : decode cX7_levelOf 4 = .ok (.iload_n 1, 1) := by decide +kernel
theorem dX7_levelOf_5 : decode cX7_levelOf 5 = .ok (.invokevirtual 95, 3) := by decide +kernel
theorem dX7_levelOf_8 : decode cX7_levelOf 8 = .ok (.ifnonnull 13, 3) := by decide +kernel
theorem dX7_levelOf_11 : decode cX7_levelOf 11 = .ok (.new 99, 3) := by decide +kernel
theorem dX7_levelOf_14 : decode cX7_levelOf 14 = .ok (.dup, 1) := by decide +kernel
theorem dX7_levelOf_15 : decode cX7_levelOf 15 = .ok (.ldc 101, 2) := by decide +kernel
theorem dX7_levelOf_17 : decode cX7_levelOf 17 = .ok (.invokespecial 103, 3) := by decide +kernel
theorem dX7_levelOf_20 : decode cX7_levelOf 20 = .ok (.athrow, 1) := by decide +kernel
theorem dX7_levelOf_21 : decode cX7_levelOf 21 = .ok (.aload_n 0, 1) := by decide +kernel
theorem dX7_levelOf_22 : decode cX7_levelOf 22 = .ok (.getfield 35, 3) := by decide +kernel
theorem dX7_levelOf_25 : decode cX7_levelOf 25 = .ok (.iload_n 1, 1) := by decide +kernel
theorem dX7_levelOf_26 : decode cX7_levelOf 26 = .ok (.aload_n 0, 1) := by decide +kernel
theorem dX7_levelOf_27 : decode cX7_levelOf 27 = .ok (.getfield 186, 3) := by decide +kernel
theorem dX7_levelOf_30 : decode cX7_levelOf 30 = .ok (.invokevirtual 203, 3) := by decide +kernel
theorem dX7_levelOf_33 : decode cX7_levelOf 33 = .ok (.invokestatic 207, 3) := by decide +kernel
theorem dX7_levelOf_36 : decode cX7_levelOf 36 = .ok (.ireturn, 1) := by decide +kernel
theorem dX7_levelAnew_0 : decode cX7_levelAnew 0 = .ok (.aload_n 0, 1) := by decide +kernel
theorem dX7_levelAnew_1 : decode cX7_levelAnew 1 = .ok (.getfield 10, 3) := by decide +kernel
theorem dX7_levelAnew_4 : decode cX7_levelAnew 4 = .ok (.iload_n 1, 1) := by decide +kernel
theorem dX7_levelAnew_5 : decode cX7_levelAnew 5 = .ok (.invokevirtual 95, 3) := by decide +kernel
theorem dX7_levelAnew_8 : decode cX7_levelAnew 8 = .ok (.ifnonnull 13, 3) := by decide +kernel
theorem dX7_levelAnew_11 : decode cX7_levelAnew 11 = .ok (.new 99, 3) := by decide +kernel
theorem dX7_levelAnew_14 : decode cX7_levelAnew 14 = .ok (.dup, 1) := by decide +kernel
theorem dX7_levelAnew_15 : decode cX7_levelAnew 15 = .ok (.ldc 101, 2) := by decide +kernel
theorem dX7_levelAnew_17 : decode cX7_levelAnew 17 = .ok (.invokespecial 103, 3) := by decide +kernel
theorem dX7_levelAnew_20 : decode cX7_levelAnew 20 = .ok (.athrow, 1) := by decide +kernel
theorem dX7_levelAnew_21 : decode cX7_levelAnew 21 = .ok (.aload_n 0, 1) := by decide +kernel
theorem dX7_levelAnew_22 : decode cX7_levelAnew 22 = .ok (.invokevirtual 211, 3) := by decide +kernel
theorem dX7_levelAnew_25 : decode cX7_levelAnew 25 = .ok (.aload_n 0, 1) := by decide +kernel
theorem dX7_levelAnew_26 : decode cX7_levelAnew 26 = .ok (.getfield 39, 3) := by decide +kernel
theorem dX7_levelAnew_29 : decode cX7_levelAnew 29 = .ok (.iload_n 1, 1) := by decide +kernel
theorem dX7_levelAnew_30 : decode cX7_levelAnew 30 = .ok (.aload_n 0, 1) := by decide +kernel
theorem dX7_levelAnew_31 : decode cX7_levelAnew 31 = .ok (.getfield 186, 3) := by decide +kernel
theorem dX7_levelAnew_34 : decode cX7_levelAnew 34 = .ok (.invokevirtual 203, 3) := by decide +kernel
theorem dX7_levelAnew_37 : decode cX7_levelAnew 37 = .ok (.invokestatic 207, 3) := by decide +kernel
theorem dX7_levelAnew_40 : decode cX7_levelAnew 40 = .ok (.ireturn, 1) := by decide +kernel
theorem dX7_loadOf_0 : decode cX7_loadOf 0 = .ok (.iload_n 1, 1) := by decide +kernel
theorem dX7_loadOf_1 : decode cX7_loadOf 1 = .ok (.invokestatic 64, 3) := by decide +kernel
theorem dX7_loadOf_4 : decode cX7_loadOf 4 = .ok (.ifCond .ne 13, 3) := by decide +kernel
theorem dX7_loadOf_7 : decode cX7_loadOf 7 = .ok (.new 99, 3) := by decide +kernel
theorem dX7_loadOf_10 : decode cX7_loadOf 10 = .ok (.dup, 1) := by decide +kernel
theorem dX7_loadOf_11 : decode cX7_loadOf 11 = .ok (.ldc 118, 2) := by decide +kernel
theorem dX7_loadOf_13 : decode cX7_loadOf 13 = .ok (.invokespecial 103, 3) := by decide +kernel
theorem dX7_loadOf_16 : decode cX7_loadOf 16 = .ok (.athrow, 1) := by decide +kernel
theorem dX7_loadOf_17 : decode cX7_loadOf 17 = .ok (.aload_n 0, 1) := by decide +kernel
theorem dX7_loadOf_18 : decode cX7_loadOf 18 = .ok (.iload_n 1, 1) := by decide +kernel
theorem dX7_loadOf_19 : decode cX7_loadOf 19 = .ok (.invokevirtual 214, 3) := by decide +kernel
theorem dX7_loadOf_22 : decode cX7_loadOf 22 = .ok (.invokestatic 207, 3) := by decide +kernel
theorem dX7_loadOf_25 : decode cX7_loadOf 25 = .ok (.ireturn, 1) := by decide +kernel
theorem dX7_watts_0 : decode cX7_watts 0 = .ok (.iload_n 1, 1) := by decide +kernel
theorem dX7_watts_1 : decode cX7_watts 1 = .ok (.invokestatic 64, 3) := by decide +kernel
theorem dX7_watts_4 : decode cX7_watts 4 = .ok (.ifCond .ne 13, 3) := by decide +kernel
theorem dX7_watts_7 : decode cX7_watts 7 = .ok (.new 99, 3) := by decide +kernel
theorem dX7_watts_10 : decode cX7_watts 10 = .ok (.dup, 1) := by decide +kernel
theorem dX7_watts_11 : decode cX7_watts 11 = .ok (.ldc 118, 2) := by decide +kernel
theorem dX7_watts_13 : decode cX7_watts 13 = .ok (.invokespecial 103, 3) := by decide +kernel
theorem dX7_watts_16 : decode cX7_watts 16 = .ok (.athrow, 1) := by decide +kernel
theorem dX7_watts_17 : decode cX7_watts 17 = .ok (.aload_n 0, 1) := by decide +kernel
theorem dX7_watts_18 : decode cX7_watts 18 = .ok (.iload_n 1, 1) := by decide +kernel
theorem dX7_watts_19 : decode cX7_watts 19 = .ok (.invokevirtual 214, 3) := by decide +kernel
theorem dX7_watts_22 : decode cX7_watts 22 = .ok (.f2i, 1) := by decide +kernel
theorem dX7_watts_23 : decode cX7_watts 23 = .ok (.ireturn, 1) := by decide +kernel
theorem dX7_asks_0 : decode cX7_asks 0 = .ok (.aload_n 0, 1) := by decide +kernel
theorem dX7_asks_1 : decode cX7_asks 1 = .ok (.iload_n 1, 1) := by decide +kernel
theorem dX7_asks_2 : decode cX7_asks 2 = .ok (.invokevirtual 132, 3) := by decide +kernel
theorem dX7_asks_5 : decode cX7_asks 5 = .ok (.astore_n 3, 1) := by decide +kernel
theorem dX7_asks_6 : decode cX7_asks 6 = .ok (.aload_n 3, 1) := by decide +kernel
theorem dX7_asks_7 : decode cX7_asks 7 = .ok (.ifnull 10, 3) := by decide +kernel
theorem dX7_asks_10 : decode cX7_asks 10 = .ok (.iload_n 2, 1) := by decide +kernel
theorem dX7_asks_11 : decode cX7_asks 11 = .ok (.invokestatic 64, 3) := by decide +kernel
theorem dX7_asks_14 : decode cX7_asks 14 = .ok (.ifCond .ne 13, 3) := by decide +kernel
theorem dX7_asks_17 : decode cX7_asks 17 = .ok (.new 99, 3) := by decide +kernel
theorem dX7_asks_20 : decode cX7_asks 20 = .ok (.dup, 1) := by decide +kernel
theorem dX7_asks_21 : decode cX7_asks 21 = .ok (.ldc 218, 2) := by decide +kernel
theorem dX7_asks_23 : decode cX7_asks 23 = .ok (.invokespecial 103, 3) := by decide +kernel
theorem dX7_asks_26 : decode cX7_asks 26 = .ok (.athrow, 1) := by decide +kernel
theorem dX7_asks_27 : decode cX7_asks 27 = .ok (.aload_n 0, 1) := by decide +kernel
theorem dX7_asks_28 : decode cX7_asks 28 = .ok (.aload_n 3, 1) := by decide +kernel
theorem dX7_asks_29 : decode cX7_asks 29 = .ok (.iload_n 2, 1) := by decide +kernel
theorem dX7_asks_30 : decode cX7_asks 30 = .ok (.invokevirtual 220, 3) := by decide +kernel
theorem dX7_asks_33 : decode cX7_asks 33 = .ok (.ireturn, 1) := by decide +kernel
theorem dX7_shines_0 : decode cX7_shines 0 = .ok (.aload_n 0, 1) := by decide +kernel
theorem dX7_shines_1 : decode cX7_shines 1 = .ok (.iload_n 1, 1) := by decide +kernel
theorem dX7_shines_2 : decode cX7_shines 2 = .ok (.invokevirtual 132, 3) := by decide +kernel
theorem dX7_shines_5 : decode cX7_shines 5 = .ok (.astore_n 3, 1) := by decide +kernel
theorem dX7_shines_6 : decode cX7_shines 6 = .ok (.aload_n 3, 1) := by decide +kernel
theorem dX7_shines_7 : decode cX7_shines 7 = .ok (.ifnull 14, 3) := by decide +kernel
theorem dX7_shines_10 : decode cX7_shines 10 = .ok (.aload_n 0, 1) := by decide +kernel
theorem dX7_shines_11 : decode cX7_shines 11 = .ok (.getfield 10, 3) := by decide +kernel
theorem dX7_shines_14 : decode cX7_shines 14 = .ok (.iload_n 2, 1) := by decide +kernel
theorem dX7_shines_15 : decode cX7_shines 15 = .ok (.invokevirtual 95, 3) := by decide +kernel
theorem dX7_shines_18 : decode cX7_shines 18 = .ok (.ifnonnull 13, 3) := by decide +kernel
theorem dX7_shines_21 : decode cX7_shines 21 = .ok (.new 99, 3) := by decide +kernel
theorem dX7_shines_24 : decode cX7_shines 24 = .ok (.dup, 1) := by decide +kernel
theorem dX7_shines_25 : decode cX7_shines 25 = .ok (.ldc 136, 2) := by decide +kernel
theorem dX7_shines_27 : decode cX7_shines 27 = .ok (.invokespecial 103, 3) := by decide +kernel
theorem dX7_shines_30 : decode cX7_shines 30 = .ok (.athrow, 1) := by decide +kernel
theorem dX7_shines_31 : decode cX7_shines 31 = .ok (.aload_n 3, 1) := by decide +kernel
theorem dX7_shines_32 : decode cX7_shines 32 = .ok (.iload_n 2, 1) := by decide +kernel
theorem dX7_shines_33 : decode cX7_shines 33 = .ok (.invokevirtual 224, 3) := by decide +kernel
theorem dX7_shines_36 : decode cX7_shines 36 = .ok (.ireturn, 1) := by decide +kernel
theorem dX7_playing_0 : decode cX7_playing 0 = .ok (.aload_n 0, 1) := by decide +kernel
theorem dX7_playing_1 : decode cX7_playing 1 = .ok (.iload_n 1, 1) := by decide +kernel
theorem dX7_playing_2 : decode cX7_playing 2 = .ok (.invokevirtual 132, 3) := by decide +kernel
theorem dX7_playing_5 : decode cX7_playing 5 = .ok (.astore_n 3, 1) := by decide +kernel
theorem dX7_playing_6 : decode cX7_playing 6 = .ok (.aload_n 3, 1) := by decide +kernel
theorem dX7_playing_7 : decode cX7_playing 7 = .ok (.ifnonnull 13, 3) := by decide +kernel
theorem dX7_playing_10 : decode cX7_playing 10 = .ok (.new 99, 3) := by decide +kernel
theorem dX7_playing_13 : decode cX7_playing 13 = .ok (.dup, 1) := by decide +kernel
theorem dX7_playing_14 : decode cX7_playing 14 = .ok (.ldc 148, 2) := by decide +kernel
theorem dX7_playing_16 : decode cX7_playing 16 = .ok (.invokespecial 103, 3) := by decide +kernel
theorem dX7_playing_19 : decode cX7_playing 19 = .ok (.athrow, 1) := by decide +kernel
theorem dX7_playing_20 : decode cX7_playing 20 = .ok (.iload_n 2, 1) := by decide +kernel
theorem dX7_playing_21 : decode cX7_playing 21 = .ok (.iconst 0, 1) := by decide +kernel
theorem dX7_playing_22 : decode cX7_playing 22 = .ok (.iconst 3, 1) := by decide +kernel
theorem dX7_playing_23 : decode cX7_playing 23 = .ok (.invokestatic 56, 3) := by decide +kernel
theorem dX7_playing_26 : decode cX7_playing 26 = .ok (.ifCond .ne 13, 3) := by decide +kernel
theorem dX7_playing_29 : decode cX7_playing 29 = .ok (.new 67, 3) := by decide +kernel
theorem dX7_playing_32 : decode cX7_playing 32 = .ok (.dup, 1) := by decide +kernel
theorem dX7_playing_33 : decode cX7_playing 33 = .ok (.ldc 228, 2) := by decide +kernel
theorem dX7_playing_35 : decode cX7_playing 35 = .ok (.invokespecial 71, 3) := by decide +kernel
theorem dX7_playing_38 : decode cX7_playing 38 = .ok (.athrow, 1) := by decide +kernel
theorem dX7_playing_39 : decode cX7_playing 39 = .ok (.aload_n 0, 1) := by decide +kernel
theorem dX7_playing_40 : decode cX7_playing 40 = .ok (.getfield 35, 3) := by decide +kernel
theorem dX7_playing_43 : decode cX7_playing 43 = .ok (.aload_n 3, 1) := by decide +kernel
theorem dX7_playing_44 : decode cX7_playing 44 = .ok (.invokevirtual 175, 3) := by decide +kernel
theorem dX7_playing_47 : decode cX7_playing 47 = .ok (.astore 4, 2) := by decide +kernel
theorem dX7_playing_49 : decode cX7_playing 49 = .ok (.aload 4, 2) := by decide +kernel
theorem dX7_playing_51 : decode cX7_playing 51 = .ok (.ifnonnull 18, 3) := by decide +kernel
theorem dX7_playing_54 : decode cX7_playing 54 = .ok (.iload_n 2, 1) := by decide +kernel
theorem dX7_playing_55 : decode cX7_playing 55 = .ok (.ifCond .eq 8, 3) := by decide +kernel
theorem dX7_playing_58 : decode cX7_playing 58 = .ok (.iload_n 2, 1) := by decide +kernel
theorem dX7_playing_59 : decode cX7_playing 59 = .ok (.iconst 1, 1) := by decide +kernel
theorem dX7_playing_60 : decode cX7_playing 60 = .ok (.if_icmp .ne 7, 3) := by decide +kernel
theorem dX7_playing_63 : decode cX7_playing 63 = .ok (.iconst 0, 1) := by decide +kernel
theorem dX7_playing_64 : decode cX7_playing 64 = .ok (.goto 4, 3) := by decide +kernel
theorem dX7_playing_67 : decode cX7_playing 67 = .ok (.iconst (-1), 1) := by decide +kernel
theorem dX7_playing_68 : decode cX7_playing 68 = .ok (.ireturn, 1) := by decide +kernel
theorem dX7_playing_69 : decode cX7_playing 69 = .ok (.iload_n 2, 1) := by decide +kernel
theorem dX7_playing_70 : decode cX7_playing 70 = .ok (.tableswitch 48 0 2 #[26, 28, 42], 26) := by decide +kernel
theorem dX7_playing_96 : decode cX7_playing 96 = .ok (.iconst 1, 1) := by decide +kernel
theorem dX7_playing_97 : decode cX7_playing 97 = .ok (.ireturn, 1) := by decide +kernel
theorem dX7_playing_98 : decode cX7_playing 98 = .ok (.aload 4, 2) := by decide +kernel
theorem dX7_playing_100 : decode cX7_playing 100 = .ok (.invokevirtual 179, 3) := by decide +kernel
theorem dX7_playing_103 : decode cX7_playing 103 = .ok (.ifCond .eq 7, 3) := by decide +kernel
theorem dX7_playing_106 : decode cX7_playing 106 = .ok (.iconst 1, 1) := by decide +kernel
theorem dX7_playing_107 : decode cX7_playing 107 = .ok (.goto 4, 3) := by decide +kernel
theorem dX7_playing_110 : decode cX7_playing 110 = .ok (.iconst 0, 1) := by decide +kernel
theorem dX7_playing_111 : decode cX7_playing 111 = .ok (.ireturn, 1) := by decide +kernel
theorem dX7_playing_112 : decode cX7_playing 112 = .ok (.aload 4, 2) := by decide +kernel
theorem dX7_playing_114 : decode cX7_playing 114 = .ok (.getfield 230, 3) := by decide +kernel
theorem dX7_playing_117 : decode cX7_playing 117 = .ok (.ireturn, 1) := by decide +kernel
theorem dX7_playing_118 : decode cX7_playing 118 = .ok (.aload 4, 2) := by decide +kernel
theorem dX7_playing_120 : decode cX7_playing 120 = .ok (.aload_n 0, 1) := by decide +kernel
theorem dX7_playing_121 : decode cX7_playing 121 = .ok (.getfield 186, 3) := by decide +kernel
theorem dX7_playing_124 : decode cX7_playing 124 = .ok (.invokevirtual 233, 3) := by decide +kernel
theorem dX7_playing_127 : decode cX7_playing 127 = .ok (.invokestatic 207, 3) := by decide +kernel
theorem dX7_playing_130 : decode cX7_playing 130 = .ok (.ireturn, 1) := by decide +kernel
theorem dX7_barred_0 : decode cX7_barred 0 = .ok (.aload_n 0, 1) := by decide +kernel
theorem dX7_barred_1 : decode cX7_barred 1 = .ok (.getfield 236, 3) := by decide +kernel
theorem dX7_barred_4 : decode cX7_barred 4 = .ok (.ireturn, 1) := by decide +kernel
theorem dX7_isWithin_0 : decode cX7_isWithin 0 = .ok (.iload_n 0, 1) := by decide +kernel
theorem dX7_isWithin_1 : decode cX7_isWithin 1 = .ok (.iload_n 1, 1) := by decide +kernel
theorem dX7_isWithin_2 : decode cX7_isWithin 2 = .ok (.if_icmp .lt 12, 3) := by decide +kernel
theorem dX7_isWithin_5 : decode cX7_isWithin 5 = .ok (.iload_n 0, 1) := by decide +kernel
theorem dX7_isWithin_6 : decode cX7_isWithin 6 = .ok (.iload_n 2, 1) := by decide +kernel
theorem dX7_isWithin_7 : decode cX7_isWithin 7 = .ok (.if_icmp .gt 7, 3) := by decide +kernel
theorem dX7_isWithin_10 : decode cX7_isWithin 10 = .ok (.iconst 1, 1) := by decide +kernel
theorem dX7_isWithin_11 : decode cX7_isWithin 11 = .ok (.goto 4, 3) := by decide +kernel
theorem dX7_isWithin_14 : decode cX7_isWithin 14 = .ok (.iconst 0, 1) := by decide +kernel
theorem dX7_isWithin_15 : decode cX7_isWithin 15 = .ok (.ireturn, 1) := by decide +kernel
theorem dX7_isPhase_0 : decode cX7_isPhase 0 = .ok (.iload_n 0, 1) := by decide +kernel
theorem dX7_isPhase_1 : decode cX7_isPhase 1 = .ok (.iconst 0, 1) := by decide +kernel
theorem dX7_isPhase_2 : decode cX7_isPhase 2 = .ok (.iconst 2, 1) := by decide +kernel
theorem dX7_isPhase_3 : decode cX7_isPhase 3 = .ok (.invokestatic 56, 3) := by decide +kernel
theorem dX7_isPhase_6 : decode cX7_isPhase 6 = .ok (.ireturn, 1) := by decide +kernel
theorem dX7_isGel_0 : decode cX7_isGel 0 = .ok (.iload_n 0, 1) := by decide +kernel
theorem dX7_isGel_1 : decode cX7_isGel 1 = .ok (.ifCond .lt 23, 3) := by decide +kernel
theorem dX7_isGel_4 : decode cX7_isGel 4 = .ok (.iload_n 0, 1) := by decide +kernel
theorem dX7_isGel_5 : decode cX7_isGel 5 = .ok (.bipush 10, 2) := by decide +kernel
theorem dX7_isGel_7 : decode cX7_isGel 7 = .ok (.idiv, 1) := by decide +kernel
theorem dX7_isGel_8 : decode cX7_isGel 8 = .ok (.iconst 5, 1) := by decide +kernel
theorem dX7_isGel_9 : decode cX7_isGel 9 = .ok (.if_icmp .gt 15, 3) := by decide +kernel
theorem dX7_isGel_12 : decode cX7_isGel 12 = .ok (.iload_n 0, 1) := by decide +kernel
theorem dX7_isGel_13 : decode cX7_isGel 13 = .ok (.bipush 10, 2) := by decide +kernel
theorem dX7_isGel_15 : decode cX7_isGel 15 = .ok (.irem, 1) := by decide +kernel
theorem dX7_isGel_16 : decode cX7_isGel 16 = .ok (.iconst 5, 1) := by decide +kernel
theorem dX7_isGel_17 : decode cX7_isGel 17 = .ok (.if_icmp .gt 7, 3) := by decide +kernel
theorem dX7_isGel_20 : decode cX7_isGel 20 = .ok (.iconst 1, 1) := by decide +kernel
theorem dX7_isGel_21 : decode cX7_isGel 21 = .ok (.goto 4, 3) := by decide +kernel
theorem dX7_isGel_24 : decode cX7_isGel 24 = .ok (.iconst 0, 1) := by decide +kernel
theorem dX7_isGel_25 : decode cX7_isGel 25 = .ok (.ireturn, 1) := by decide +kernel
theorem dX7_cueAt_0 : decode cX7_cueAt 0 = .ok (.iload_n 1, 1) := by decide +kernel
theorem dX7_cueAt_1 : decode cX7_cueAt 1 = .ok (.ifCond .lt 21, 3) := by decide +kernel
theorem dX7_cueAt_4 : decode cX7_cueAt 4 = .ok (.iload_n 1, 1) := by decide +kernel
theorem dX7_cueAt_5 : decode cX7_cueAt 5 = .ok (.aload_n 0, 1) := by decide +kernel
theorem dX7_cueAt_6 : decode cX7_cueAt 6 = .ok (.getfield 18, 3) := by decide +kernel
theorem dX7_cueAt_9 : decode cX7_cueAt 9 = .ok (.arraylength, 1) := by decide +kernel
theorem dX7_cueAt_10 : decode cX7_cueAt 10 = .ok (.if_icmp .ge 12, 3) := by decide +kernel
theorem dX7_cueAt_13 : decode cX7_cueAt 13 = .ok (.aload_n 0, 1) := by decide +kernel
theorem dX7_cueAt_14 : decode cX7_cueAt 14 = .ok (.getfield 18, 3) := by decide +kernel
theorem dX7_cueAt_17 : decode cX7_cueAt 17 = .ok (.iload_n 1, 1) := by decide +kernel
theorem dX7_cueAt_18 : decode cX7_cueAt 18 = .ok (.aaload, 1) := by decide +kernel
theorem dX7_cueAt_19 : decode cX7_cueAt 19 = .ok (.goto 4, 3) := by decide +kernel
theorem dX7_cueAt_22 : decode cX7_cueAt 22 = .ok (.aconst_null, 1) := by decide +kernel
theorem dX7_cueAt_23 : decode cX7_cueAt 23 = .ok (.areturn, 1) := by decide +kernel
theorem dX7_bitsOf_0 : decode cX7_bitsOf 0 = .ok (.fload_n 0, 1) := by decide +kernel
theorem dX7_bitsOf_1 : decode cX7_bitsOf 1 = .ok (.fconst 0, 1) := by decide +kernel
theorem dX7_bitsOf_2 : decode cX7_bitsOf 2 = .ok (.fcmp .g, 1) := by decide +kernel
theorem dX7_bitsOf_3 : decode cX7_bitsOf 3 = .ok (.ifCond .gt 5, 3) := by decide +kernel
theorem dX7_bitsOf_6 : decode cX7_bitsOf 6 = .ok (.iconst 0, 1) := by decide +kernel
theorem dX7_bitsOf_7 : decode cX7_bitsOf 7 = .ok (.ireturn, 1) := by decide +kernel
theorem dX7_bitsOf_8 : decode cX7_bitsOf 8 = .ok (.fload_n 0, 1) := by decide +kernel
theorem dX7_bitsOf_9 : decode cX7_bitsOf 9 = .ok (.fstore_n 1, 1) := by decide +kernel
theorem dX7_bitsOf_10 : decode cX7_bitsOf 10 = .ok (.bipush 127, 2) := by decide +kernel
theorem dX7_bitsOf_12 : decode cX7_bitsOf 12 = .ok (.istore_n 2, 1) := by decide +kernel
theorem dX7_bitsOf_13 : decode cX7_bitsOf 13 = .ok (.fload_n 1, 1) := by decide +kernel
theorem dX7_bitsOf_14 : decode cX7_bitsOf 14 = .ok (.fconst 2, 1) := by decide +kernel
theorem dX7_bitsOf_15 : decode cX7_bitsOf 15 = .ok (.fcmp .l, 1) := by decide +kernel
theorem dX7_bitsOf_16 : decode cX7_bitsOf 16 = .ok (.ifCond .lt 20, 3) := by decide +kernel
theorem dX7_bitsOf_19 : decode cX7_bitsOf 19 = .ok (.iload_n 2, 1) := by decide +kernel
theorem dX7_bitsOf_20 : decode cX7_bitsOf 20 = .ok (.sipush 254, 3) := by decide +kernel
theorem dX7_bitsOf_23 : decode cX7_bitsOf 23 = .ok (.if_icmp .ge 13, 3) := by decide +kernel
theorem dX7_bitsOf_26 : decode cX7_bitsOf 26 = .ok (.fload_n 1, 1) := by decide +kernel
theorem dX7_bitsOf_27 : decode cX7_bitsOf 27 = .ok (.fconst 2, 1) := by decide +kernel
theorem dX7_bitsOf_28 : decode cX7_bitsOf 28 = .ok (.fdiv, 1) := by decide +kernel
theorem dX7_bitsOf_29 : decode cX7_bitsOf 29 = .ok (.fstore_n 1, 1) := by decide +kernel
theorem dX7_bitsOf_30 : decode cX7_bitsOf 30 = .ok (.iinc 2 1, 3) := by decide +kernel
theorem dX7_bitsOf_33 : decode cX7_bitsOf 33 = .ok (.goto (-20), 3) := by decide +kernel
theorem dX7_bitsOf_36 : decode cX7_bitsOf 36 = .ok (.fload_n 1, 1) := by decide +kernel
theorem dX7_bitsOf_37 : decode cX7_bitsOf 37 = .ok (.fconst 1, 1) := by decide +kernel
theorem dX7_bitsOf_38 : decode cX7_bitsOf 38 = .ok (.fcmp .g, 1) := by decide +kernel
theorem dX7_bitsOf_39 : decode cX7_bitsOf 39 = .ok (.ifCond .ge 18, 3) := by decide +kernel
theorem dX7_bitsOf_42 : decode cX7_bitsOf 42 = .ok (.iload_n 2, 1) := by decide +kernel
theorem dX7_bitsOf_43 : decode cX7_bitsOf 43 = .ok (.iconst 1, 1) := by decide +kernel
theorem dX7_bitsOf_44 : decode cX7_bitsOf 44 = .ok (.if_icmp .le 13, 3) := by decide +kernel
theorem dX7_bitsOf_47 : decode cX7_bitsOf 47 = .ok (.fload_n 1, 1) := by decide +kernel
theorem dX7_bitsOf_48 : decode cX7_bitsOf 48 = .ok (.fconst 2, 1) := by decide +kernel
theorem dX7_bitsOf_49 : decode cX7_bitsOf 49 = .ok (.fmul, 1) := by decide +kernel
theorem dX7_bitsOf_50 : decode cX7_bitsOf 50 = .ok (.fstore_n 1, 1) := by decide +kernel
theorem dX7_bitsOf_51 : decode cX7_bitsOf 51 = .ok (.iinc 2 (-1), 3) := by decide +kernel
theorem dX7_bitsOf_54 : decode cX7_bitsOf 54 = .ok (.goto (-18), 3) := by decide +kernel
theorem dX7_bitsOf_57 : decode cX7_bitsOf 57 = .ok (.fload_n 1, 1) := by decide +kernel
theorem dX7_bitsOf_58 : decode cX7_bitsOf 58 = .ok (.fconst 1, 1) := by decide +kernel
theorem dX7_bitsOf_59 : decode cX7_bitsOf 59 = .ok (.fcmp .g, 1) := by decide +kernel
theorem dX7_bitsOf_60 : decode cX7_bitsOf 60 = .ok (.ifCond .ge 9, 3) := by decide +kernel
theorem dX7_bitsOf_63 : decode cX7_bitsOf 63 = .ok (.fload_n 1, 1) := by decide +kernel
theorem dX7_bitsOf_64 : decode cX7_bitsOf 64 = .ok (.ldc 239, 2) := by decide +kernel
theorem dX7_bitsOf_66 : decode cX7_bitsOf 66 = .ok (.fmul, 1) := by decide +kernel
theorem dX7_bitsOf_67 : decode cX7_bitsOf 67 = .ok (.f2i, 1) := by decide +kernel
theorem dX7_bitsOf_68 : decode cX7_bitsOf 68 = .ok (.ireturn, 1) := by decide +kernel
theorem dX7_bitsOf_69 : decode cX7_bitsOf 69 = .ok (.iload_n 2, 1) := by decide +kernel
theorem dX7_bitsOf_70 : decode cX7_bitsOf 70 = .ok (.bipush 23, 2) := by decide +kernel
theorem dX7_bitsOf_72 : decode cX7_bitsOf 72 = .ok (.ishl, 1) := by decide +kernel
theorem dX7_bitsOf_73 : decode cX7_bitsOf 73 = .ok (.fload_n 1, 1) := by decide +kernel
theorem dX7_bitsOf_74 : decode cX7_bitsOf 74 = .ok (.fconst 1, 1) := by decide +kernel
theorem dX7_bitsOf_75 : decode cX7_bitsOf 75 = .ok (.fsub, 1) := by decide +kernel
theorem dX7_bitsOf_76 : decode cX7_bitsOf 76 = .ok (.ldc 239, 2) := by decide +kernel
theorem dX7_bitsOf_78 : decode cX7_bitsOf 78 = .ok (.fmul, 1) := by decide +kernel
theorem dX7_bitsOf_79 : decode cX7_bitsOf 79 = .ok (.f2i, 1) := by decide +kernel
theorem dX7_bitsOf_80 : decode cX7_bitsOf 80 = .ok (.iadd, 1) := by decide +kernel
theorem dX7_bitsOf_81 : decode cX7_bitsOf 81 = .ok (.ireturn, 1) := by decide +kernel
theorem dX7_arrangeCues_0 : decode cX7_arrangeCues 0 = .ok (.iconst 0, 1) := by decide +kernel
theorem dX7_arrangeCues_1 : decode cX7_arrangeCues 1 = .ok (.istore_n 1, 1) := by decide +kernel
theorem dX7_arrangeCues_2 : decode cX7_arrangeCues 2 = .ok (.iload_n 1, 1) := by decide +kernel
theorem dX7_arrangeCues_3 : decode cX7_arrangeCues 3 = .ok (.aload_n 0, 1) := by decide +kernel
theorem dX7_arrangeCues_4 : decode cX7_arrangeCues 4 = .ok (.getfield 18, 3) := by decide +kernel
theorem dX7_arrangeCues_7 : decode cX7_arrangeCues 7 = .ok (.arraylength, 1) := by decide +kernel
theorem dX7_arrangeCues_8 : decode cX7_arrangeCues 8 = .ok (.if_icmp .ge 28, 3) := by decide +kernel
theorem dX7_arrangeCues_11 : decode cX7_arrangeCues 11 = .ok (.aload_n 0, 1) := by decide +kernel
theorem dX7_arrangeCues_12 : decode cX7_arrangeCues 12 = .ok (.getfield 18, 3) := by decide +kernel
theorem dX7_arrangeCues_15 : decode cX7_arrangeCues 15 = .ok (.iload_n 1, 1) := by decide +kernel
theorem dX7_arrangeCues_16 : decode cX7_arrangeCues 16 = .ok (.aaload, 1) := by decide +kernel
theorem dX7_arrangeCues_17 : decode cX7_arrangeCues 17 = .ok (.astore_n 2, 1) := by decide +kernel
theorem dX7_arrangeCues_18 : decode cX7_arrangeCues 18 = .ok (.aload_n 2, 1) := by decide +kernel
theorem dX7_arrangeCues_19 : decode cX7_arrangeCues 19 = .ok (.ifnull 11, 3) := by decide +kernel
theorem dX7_arrangeCues_22 : decode cX7_arrangeCues 22 = .ok (.aload_n 2, 1) := by decide +kernel
theorem dX7_arrangeCues_23 : decode cX7_arrangeCues 23 = .ok (.aload_n 0, 1) := by decide +kernel
theorem dX7_arrangeCues_24 : decode cX7_arrangeCues 24 = .ok (.getfield 10, 3) := by decide +kernel
theorem dX7_arrangeCues_27 : decode cX7_arrangeCues 27 = .ok (.invokevirtual 144, 3) := by decide +kernel
theorem dX7_arrangeCues_30 : decode cX7_arrangeCues 30 = .ok (.iinc 1 1, 3) := by decide +kernel
theorem dX7_arrangeCues_33 : decode cX7_arrangeCues 33 = .ok (.goto (-31), 3) := by decide +kernel
theorem dX7_arrangeCues_36 : decode cX7_arrangeCues 36 = .ok (.return_, 1) := by decide +kernel
theorem dX7_canGo_0 : decode cX7_canGo 0 = .ok (.iconst 0, 1) := by decide +kernel
theorem dX7_canGo_1 : decode cX7_canGo 1 = .ok (.istore_n 2, 1) := by decide +kernel
theorem dX7_canGo_2 : decode cX7_canGo 2 = .ok (.iload_n 2, 1) := by decide +kernel
theorem dX7_canGo_3 : decode cX7_canGo 3 = .ok (.aload_n 0, 1) := by decide +kernel
theorem dX7_canGo_4 : decode cX7_canGo 4 = .ok (.getfield 22, 3) := by decide +kernel
theorem dX7_canGo_7 : decode cX7_canGo 7 = .ok (.arraylength, 1) := by decide +kernel
theorem dX7_canGo_8 : decode cX7_canGo 8 = .ok (.if_icmp .ge 26, 3) := by decide +kernel
theorem dX7_canGo_11 : decode cX7_canGo 11 = .ok (.aload_n 0, 1) := by decide +kernel
theorem dX7_canGo_12 : decode cX7_canGo 12 = .ok (.aload_n 1, 1) := by decide +kernel
theorem dX7_canGo_13 : decode cX7_canGo 13 = .ok (.iload_n 2, 1) := by decide +kernel
theorem dX7_canGo_14 : decode cX7_canGo 14 = .ok (.invokevirtual 220, 3) := by decide +kernel
theorem dX7_canGo_17 : decode cX7_canGo 17 = .ok (.aload_n 0, 1) := by decide +kernel
theorem dX7_canGo_18 : decode cX7_canGo 18 = .ok (.getfield 22, 3) := by decide +kernel
theorem dX7_canGo_21 : decode cX7_canGo 21 = .ok (.iload_n 2, 1) := by decide +kernel
theorem dX7_canGo_22 : decode cX7_canGo 22 = .ok (.iaload, 1) := by decide +kernel
theorem dX7_canGo_23 : decode cX7_canGo 23 = .ok (.if_icmp .le 5, 3) := by decide +kernel
theorem dX7_canGo_26 : decode cX7_canGo 26 = .ok (.iconst 0, 1) := by decide +kernel
theorem dX7_canGo_27 : decode cX7_canGo 27 = .ok (.ireturn, 1) := by decide +kernel
theorem dX7_canGo_28 : decode cX7_canGo 28 = .ok (.iinc 2 1, 3) := by decide +kernel
theorem dX7_canGo_31 : decode cX7_canGo 31 = .ok (.goto (-29), 3) := by decide +kernel
theorem dX7_canGo_34 : decode cX7_canGo 34 = .ok (.iconst 1, 1) := by decide +kernel
theorem dX7_canGo_35 : decode cX7_canGo 35 = .ok (.ireturn, 1) := by decide +kernel
theorem dX7_wattsAsked_0 : decode cX7_wattsAsked 0 = .ok (.iconst 0, 1) := by decide +kernel
theorem dX7_wattsAsked_1 : decode cX7_wattsAsked 1 = .ok (.istore_n 3, 1) := by decide +kernel
theorem dX7_wattsAsked_2 : decode cX7_wattsAsked 2 = .ok (.iconst 0, 1) := by decide +kernel
theorem dX7_wattsAsked_3 : decode cX7_wattsAsked 3 = .ok (.istore 4, 2) := by decide +kernel
theorem dX7_wattsAsked_5 : decode cX7_wattsAsked 5 = .ok (.iload 4, 2) := by decide +kernel
theorem dX7_wattsAsked_7 : decode cX7_wattsAsked 7 = .ok (.bipush 16, 2) := by decide +kernel
theorem dX7_wattsAsked_9 : decode cX7_wattsAsked 9 = .ok (.if_icmp .ge 61, 3) := by decide +kernel
theorem dX7_wattsAsked_12 : decode cX7_wattsAsked 12 = .ok (.aload_n 0, 1) := by decide +kernel
theorem dX7_wattsAsked_13 : decode cX7_wattsAsked 13 = .ok (.getfield 10, 3) := by decide +kernel
theorem dX7_wattsAsked_16 : decode cX7_wattsAsked 16 = .ok (.iload 4, 2) := by decide +kernel
theorem dX7_wattsAsked_18 : decode cX7_wattsAsked 18 = .ok (.invokevirtual 95, 3) := by decide +kernel
theorem dX7_wattsAsked_21 : decode cX7_wattsAsked 21 = .ok (.astore 5, 2) := by decide +kernel
theorem dX7_wattsAsked_23 : decode cX7_wattsAsked 23 = .ok (.aload 5, 2) := by decide +kernel
theorem dX7_wattsAsked_25 : decode cX7_wattsAsked 25 = .ok (.ifnull 39, 3) := by decide +kernel
theorem dX7_wattsAsked_28 : decode cX7_wattsAsked 28 = .ok (.aload 5, 2) := by decide +kernel
theorem dX7_wattsAsked_30 : decode cX7_wattsAsked 30 = .ok (.getfield 240, 3) := by decide +kernel
theorem dX7_wattsAsked_33 : decode cX7_wattsAsked 33 = .ok (.iload_n 2, 1) := by decide +kernel
theorem dX7_wattsAsked_34 : decode cX7_wattsAsked 34 = .ok (.if_icmp .ne 30, 3) := by decide +kernel
theorem dX7_wattsAsked_37 : decode cX7_wattsAsked 37 = .ok (.iload_n 3, 1) := by decide +kernel
theorem dX7_wattsAsked_38 : decode cX7_wattsAsked 38 = .ok (.aload 5, 2) := by decide +kernel
theorem dX7_wattsAsked_40 : decode cX7_wattsAsked 40 = .ok (.getfield 243, 3) := by decide +kernel
theorem dX7_wattsAsked_43 : decode cX7_wattsAsked 43 = .ok (.aload_n 1, 1) := by decide +kernel
theorem dX7_wattsAsked_44 : decode cX7_wattsAsked 44 = .ok (.iload 4, 2) := by decide +kernel
theorem dX7_wattsAsked_46 : decode cX7_wattsAsked 46 = .ok (.invokevirtual 246, 3) := by decide +kernel
theorem dX7_wattsAsked_49 : decode cX7_wattsAsked 49 = .ok (.aload_n 0, 1) := by decide +kernel
theorem dX7_wattsAsked_50 : decode cX7_wattsAsked 50 = .ok (.getfield 35, 3) := by decide +kernel
theorem dX7_wattsAsked_53 : decode cX7_wattsAsked 53 = .ok (.iload 4, 2) := by decide +kernel
theorem dX7_wattsAsked_55 : decode cX7_wattsAsked 55 = .ok (.invokevirtual 249, 3) := by decide +kernel
theorem dX7_wattsAsked_58 : decode cX7_wattsAsked 58 = .ok (.invokestatic 252, 3) := by decide +kernel
theorem dX7_wattsAsked_61 : decode cX7_wattsAsked 61 = .ok (.imul, 1) := by decide +kernel
theorem dX7_wattsAsked_62 : decode cX7_wattsAsked 62 = .ok (.iadd, 1) := by decide +kernel
theorem dX7_wattsAsked_63 : decode cX7_wattsAsked 63 = .ok (.istore_n 3, 1) := by decide +kernel
theorem dX7_wattsAsked_64 : decode cX7_wattsAsked 64 = .ok (.iinc 4 1, 3) := by decide +kernel
theorem dX7_wattsAsked_67 : decode cX7_wattsAsked 67 = .ok (.goto (-62), 3) := by decide +kernel
theorem dX7_wattsAsked_70 : decode cX7_wattsAsked 70 = .ok (.iload_n 3, 1) := by decide +kernel
theorem dX7_wattsAsked_71 : decode cX7_wattsAsked 71 = .ok (.bipush 99, 2) := by decide +kernel
theorem dX7_wattsAsked_73 : decode cX7_wattsAsked 73 = .ok (.iadd, 1) := by decide +kernel
theorem dX7_wattsAsked_74 : decode cX7_wattsAsked 74 = .ok (.bipush 100, 2) := by decide +kernel
theorem dX7_wattsAsked_76 : decode cX7_wattsAsked 76 = .ok (.idiv, 1) := by decide +kernel
theorem dX7_wattsAsked_77 : decode cX7_wattsAsked 77 = .ok (.ireturn, 1) := by decide +kernel
theorem dX7_begin_0 : decode cX7_begin 0 = .ok (.aload_n 0, 1) := by decide +kernel
theorem dX7_begin_1 : decode cX7_begin 1 = .ok (.getfield 35, 3) := by decide +kernel
theorem dX7_begin_4 : decode cX7_begin 4 = .ok (.aload_n 1, 1) := by decide +kernel
theorem dX7_begin_5 : decode cX7_begin 5 = .ok (.aload_n 0, 1) := by decide +kernel
theorem dX7_begin_6 : decode cX7_begin 6 = .ok (.getfield 186, 3) := by decide +kernel
theorem dX7_begin_9 : decode cX7_begin 9 = .ok (.invokevirtual 257, 3) := by decide +kernel
theorem dX7_begin_12 : decode cX7_begin 12 = .ok (.aload_n 0, 1) := by decide +kernel
theorem dX7_begin_13 : decode cX7_begin 13 = .ok (.getfield 52, 3) := by decide +kernel
theorem dX7_begin_16 : decode cX7_begin 16 = .ok (.aload_n 0, 1) := by decide +kernel
theorem dX7_begin_17 : decode cX7_begin 17 = .ok (.getfield 186, 3) := by decide +kernel
theorem dX7_begin_20 : decode cX7_begin 20 = .ok (.aload_n 1, 1) := by decide +kernel
theorem dX7_begin_21 : decode cX7_begin 21 = .ok (.getfield 159, 3) := by decide +kernel
theorem dX7_begin_24 : decode cX7_begin 24 = .ok (.invokevirtual 260, 3) := by decide +kernel
theorem dX7_begin_27 : decode cX7_begin 27 = .ok (.aload_n 1, 1) := by decide +kernel
theorem dX7_begin_28 : decode cX7_begin 28 = .ok (.getfield 152, 3) := by decide +kernel
theorem dX7_begin_31 : decode cX7_begin 31 = .ok (.ifnull 23, 3) := by decide +kernel
theorem dX7_begin_34 : decode cX7_begin 34 = .ok (.aload_n 0, 1) := by decide +kernel
theorem dX7_begin_35 : decode cX7_begin 35 = .ok (.getfield 45, 3) := by decide +kernel
theorem dX7_begin_38 : decode cX7_begin 38 = .ok (.aload_n 1, 1) := by decide +kernel
theorem dX7_begin_39 : decode cX7_begin 39 = .ok (.getfield 152, 3) := by decide +kernel
theorem dX7_begin_42 : decode cX7_begin 42 = .ok (.aload_n 0, 1) := by decide +kernel
theorem dX7_begin_43 : decode cX7_begin 43 = .ok (.getfield 186, 3) := by decide +kernel
theorem dX7_begin_46 : decode cX7_begin 46 = .ok (.aload_n 1, 1) := by decide +kernel
theorem dX7_begin_47 : decode cX7_begin 47 = .ok (.getfield 156, 3) := by decide +kernel
theorem dX7_begin_50 : decode cX7_begin 50 = .ok (.iadd, 1) := by decide +kernel
theorem dX7_begin_51 : decode cX7_begin 51 = .ok (.invokevirtual 263, 3) := by decide +kernel
theorem dX7_begin_54 : decode cX7_begin 54 = .ok (.return_, 1) := by decide +kernel
theorem dX7_passOne_0 : decode cX7_passOne 0 = .ok (.aload_n 0, 1) := by decide +kernel
theorem dX7_passOne_1 : decode cX7_passOne 1 = .ok (.dup, 1) := by decide +kernel
theorem dX7_passOne_2 : decode cX7_passOne 2 = .ok (.getfield 186, 3) := by decide +kernel
theorem dX7_passOne_5 : decode cX7_passOne 5 = .ok (.iconst 1, 1) := by decide +kernel
theorem dX7_passOne_6 : decode cX7_passOne 6 = .ok (.iadd, 1) := by decide +kernel
theorem dX7_passOne_7 : decode cX7_passOne 7 = .ok (.putfield 186, 3) := by decide +kernel
theorem dX7_passOne_10 : decode cX7_passOne 10 = .ok (.aload_n 0, 1) := by decide +kernel
theorem dX7_passOne_11 : decode cX7_passOne 11 = .ok (.getfield 35, 3) := by decide +kernel
theorem dX7_passOne_14 : decode cX7_passOne 14 = .ok (.aload_n 0, 1) := by decide +kernel
theorem dX7_passOne_15 : decode cX7_passOne 15 = .ok (.getfield 186, 3) := by decide +kernel
theorem dX7_passOne_18 : decode cX7_passOne 18 = .ok (.invokevirtual 197, 3) := by decide +kernel
theorem dX7_passOne_21 : decode cX7_passOne 21 = .ok (.aload_n 0, 1) := by decide +kernel
theorem dX7_passOne_22 : decode cX7_passOne 22 = .ok (.getfield 45, 3) := by decide +kernel
theorem dX7_passOne_25 : decode cX7_passOne 25 = .ok (.aload_n 0, 1) := by decide +kernel
theorem dX7_passOne_26 : decode cX7_passOne 26 = .ok (.getfield 186, 3) := by decide +kernel
theorem dX7_passOne_29 : decode cX7_passOne 29 = .ok (.invokevirtual 266, 3) := by decide +kernel
theorem dX7_passOne_32 : decode cX7_passOne 32 = .ok (.iconst 0, 1) := by decide +kernel
theorem dX7_passOne_33 : decode cX7_passOne 33 = .ok (.istore_n 1, 1) := by decide +kernel
theorem dX7_passOne_34 : decode cX7_passOne 34 = .ok (.iload_n 1, 1) := by decide +kernel
theorem dX7_passOne_35 : decode cX7_passOne 35 = .ok (.aload_n 0, 1) := by decide +kernel
theorem dX7_passOne_36 : decode cX7_passOne 36 = .ok (.getfield 45, 3) := by decide +kernel
theorem dX7_passOne_39 : decode cX7_passOne 39 = .ok (.getfield 269, 3) := by decide +kernel
theorem dX7_passOne_42 : decode cX7_passOne 42 = .ok (.if_icmp .ge 51, 3) := by decide +kernel
theorem dX7_passOne_45 : decode cX7_passOne 45 = .ok (.aload_n 0, 1) := by decide +kernel
theorem dX7_passOne_46 : decode cX7_passOne 46 = .ok (.getfield 45, 3) := by decide +kernel
theorem dX7_passOne_49 : decode cX7_passOne 49 = .ok (.iload_n 1, 1) := by decide +kernel
theorem dX7_passOne_50 : decode cX7_passOne 50 = .ok (.invokevirtual 272, 3) := by decide +kernel
theorem dX7_passOne_53 : decode cX7_passOne 53 = .ok (.astore_n 2, 1) := by decide +kernel
theorem dX7_passOne_54 : decode cX7_passOne 54 = .ok (.aload_n 2, 1) := by decide +kernel
theorem dX7_passOne_55 : decode cX7_passOne 55 = .ok (.ifnonnull 6, 3) := by decide +kernel
theorem dX7_passOne_58 : decode cX7_passOne 58 = .ok (.goto 29, 3) := by decide +kernel
theorem dX7_passOne_61 : decode cX7_passOne 61 = .ok (.aload_n 0, 1) := by decide +kernel
theorem dX7_passOne_62 : decode cX7_passOne 62 = .ok (.aload_n 2, 1) := by decide +kernel
theorem dX7_passOne_63 : decode cX7_passOne 63 = .ok (.invokevirtual 162, 3) := by decide +kernel
theorem dX7_passOne_66 : decode cX7_passOne 66 = .ok (.ifCond .eq 11, 3) := by decide +kernel
theorem dX7_passOne_69 : decode cX7_passOne 69 = .ok (.aload_n 0, 1) := by decide +kernel
theorem dX7_passOne_70 : decode cX7_passOne 70 = .ok (.aload_n 2, 1) := by decide +kernel
theorem dX7_passOne_71 : decode cX7_passOne 71 = .ok (.invokevirtual 168, 3) := by decide +kernel
theorem dX7_passOne_74 : decode cX7_passOne 74 = .ok (.goto 13, 3) := by decide +kernel
theorem dX7_passOne_77 : decode cX7_passOne 77 = .ok (.aload_n 0, 1) := by decide +kernel
theorem dX7_passOne_78 : decode cX7_passOne 78 = .ok (.dup, 1) := by decide +kernel
theorem dX7_passOne_79 : decode cX7_passOne 79 = .ok (.getfield 236, 3) := by decide +kernel
theorem dX7_passOne_82 : decode cX7_passOne 82 = .ok (.iconst 1, 1) := by decide +kernel
theorem dX7_passOne_83 : decode cX7_passOne 83 = .ok (.iadd, 1) := by decide +kernel
theorem dX7_passOne_84 : decode cX7_passOne 84 = .ok (.putfield 236, 3) := by decide +kernel
theorem dX7_passOne_87 : decode cX7_passOne 87 = .ok (.iinc 1 1, 3) := by decide +kernel
theorem dX7_passOne_90 : decode cX7_passOne 90 = .ok (.goto (-56), 3) := by decide +kernel
theorem dX7_passOne_93 : decode cX7_passOne 93 = .ok (.return_, 1) := by decide +kernel
theorem dX7_loadNow_0 : decode cX7_loadNow 0 = .ok (.fconst 0, 1) := by decide +kernel
theorem dX7_loadNow_1 : decode cX7_loadNow 1 = .ok (.fstore_n 2, 1) := by decide +kernel
theorem dX7_loadNow_2 : decode cX7_loadNow 2 = .ok (.iconst 0, 1) := by decide +kernel
theorem dX7_loadNow_3 : decode cX7_loadNow 3 = .ok (.istore_n 3, 1) := by decide +kernel
theorem dX7_loadNow_4 : decode cX7_loadNow 4 = .ok (.iload_n 3, 1) := by decide +kernel
theorem dX7_loadNow_5 : decode cX7_loadNow 5 = .ok (.bipush 16, 2) := by decide +kernel
theorem dX7_loadNow_7 : decode cX7_loadNow 7 = .ok (.if_icmp .ge 59, 3) := by decide +kernel
theorem dX7_loadNow_10 : decode cX7_loadNow 10 = .ok (.aload_n 0, 1) := by decide +kernel
theorem dX7_loadNow_11 : decode cX7_loadNow 11 = .ok (.getfield 10, 3) := by decide +kernel
theorem dX7_loadNow_14 : decode cX7_loadNow 14 = .ok (.iload_n 3, 1) := by decide +kernel
theorem dX7_loadNow_15 : decode cX7_loadNow 15 = .ok (.invokevirtual 95, 3) := by decide +kernel
theorem dX7_loadNow_18 : decode cX7_loadNow 18 = .ok (.astore 4, 2) := by decide +kernel
theorem dX7_loadNow_20 : decode cX7_loadNow 20 = .ok (.aload 4, 2) := by decide +kernel
theorem dX7_loadNow_22 : decode cX7_loadNow 22 = .ok (.ifnull 38, 3) := by decide +kernel
theorem dX7_loadNow_25 : decode cX7_loadNow 25 = .ok (.aload 4, 2) := by decide +kernel
theorem dX7_loadNow_27 : decode cX7_loadNow 27 = .ok (.getfield 240, 3) := by decide +kernel
theorem dX7_loadNow_30 : decode cX7_loadNow 30 = .ok (.iload_n 1, 1) := by decide +kernel
theorem dX7_loadNow_31 : decode cX7_loadNow 31 = .ok (.if_icmp .ne 29, 3) := by decide +kernel
theorem dX7_loadNow_34 : decode cX7_loadNow 34 = .ok (.fload_n 2, 1) := by decide +kernel
theorem dX7_loadNow_35 : decode cX7_loadNow 35 = .ok (.aload 4, 2) := by decide +kernel
theorem dX7_loadNow_37 : decode cX7_loadNow 37 = .ok (.getfield 243, 3) := by decide +kernel
theorem dX7_loadNow_40 : decode cX7_loadNow 40 = .ok (.i2f, 1) := by decide +kernel
theorem dX7_loadNow_41 : decode cX7_loadNow 41 = .ok (.aload_n 0, 1) := by decide +kernel
theorem dX7_loadNow_42 : decode cX7_loadNow 42 = .ok (.getfield 35, 3) := by decide +kernel
theorem dX7_loadNow_45 : decode cX7_loadNow 45 = .ok (.iload_n 3, 1) := by decide +kernel
theorem dX7_loadNow_46 : decode cX7_loadNow 46 = .ok (.aload_n 0, 1) := by decide +kernel
theorem dX7_loadNow_47 : decode cX7_loadNow 47 = .ok (.getfield 186, 3) := by decide +kernel
theorem dX7_loadNow_50 : decode cX7_loadNow 50 = .ok (.invokevirtual 203, 3) := by decide +kernel
theorem dX7_loadNow_53 : decode cX7_loadNow 53 = .ok (.fmul, 1) := by decide +kernel
theorem dX7_loadNow_54 : decode cX7_loadNow 54 = .ok (.ldc_w 275, 3) := by decide +kernel
theorem dX7_loadNow_57 : decode cX7_loadNow 57 = .ok (.fdiv, 1) := by decide +kernel
theorem dX7_loadNow_58 : decode cX7_loadNow 58 = .ok (.fadd, 1) := by decide +kernel
theorem dX7_loadNow_59 : decode cX7_loadNow 59 = .ok (.fstore_n 2, 1) := by decide +kernel
theorem dX7_loadNow_60 : decode cX7_loadNow 60 = .ok (.iinc 3 1, 3) := by decide +kernel
theorem dX7_loadNow_63 : decode cX7_loadNow 63 = .ok (.goto (-59), 3) := by decide +kernel
theorem dX7_loadNow_66 : decode cX7_loadNow 66 = .ok (.fload_n 2, 1) := by decide +kernel
theorem dX7_loadNow_67 : decode cX7_loadNow 67 = .ok (.freturn, 1) := by decide +kernel
theorem dX7_retell_0 : decode cX7_retell 0 = .ok (.aload_n 0, 1) := by decide +kernel
theorem dX7_retell_1 : decode cX7_retell 1 = .ok (.getfield 39, 3) := by decide +kernel
theorem dX7_retell_4 : decode cX7_retell 4 = .ok (.invokevirtual 276, 3) := by decide +kernel
theorem dX7_retell_7 : decode cX7_retell 7 = .ok (.iconst 0, 1) := by decide +kernel
theorem dX7_retell_8 : decode cX7_retell 8 = .ok (.istore_n 1, 1) := by decide +kernel
theorem dX7_retell_9 : decode cX7_retell 9 = .ok (.iload_n 1, 1) := by decide +kernel
theorem dX7_retell_10 : decode cX7_retell 10 = .ok (.aload_n 0, 1) := by decide +kernel
theorem dX7_retell_11 : decode cX7_retell 11 = .ok (.getfield 52, 3) := by decide +kernel
theorem dX7_retell_14 : decode cX7_retell 14 = .ok (.getfield 279, 3) := by decide +kernel
theorem dX7_retell_17 : decode cX7_retell 17 = .ok (.if_icmp .ge 68, 3) := by decide +kernel
theorem dX7_retell_20 : decode cX7_retell 20 = .ok (.aload_n 0, 1) := by decide +kernel
theorem dX7_retell_21 : decode cX7_retell 21 = .ok (.getfield 52, 3) := by decide +kernel
theorem dX7_retell_24 : decode cX7_retell 24 = .ok (.iload_n 1, 1) := by decide +kernel
theorem dX7_retell_25 : decode cX7_retell 25 = .ok (.invokevirtual 280, 3) := by decide +kernel
theorem dX7_retell_28 : decode cX7_retell 28 = .ok (.istore_n 2, 1) := by decide +kernel
theorem dX7_retell_29 : decode cX7_retell 29 = .ok (.aload_n 0, 1) := by decide +kernel
theorem dX7_retell_30 : decode cX7_retell 30 = .ok (.iload_n 2, 1) := by decide +kernel
theorem dX7_retell_31 : decode cX7_retell 31 = .ok (.invokestatic 283, 3) := by decide +kernel
theorem dX7_retell_34 : decode cX7_retell 34 = .ok (.invokevirtual 132, 3) := by decide +kernel
theorem dX7_retell_37 : decode cX7_retell 37 = .ok (.astore_n 3, 1) := by decide +kernel
theorem dX7_retell_38 : decode cX7_retell 38 = .ok (.aload_n 3, 1) := by decide +kernel
theorem dX7_retell_39 : decode cX7_retell 39 = .ok (.ifnonnull 6, 3) := by decide +kernel
theorem dX7_retell_42 : decode cX7_retell 42 = .ok (.goto 37, 3) := by decide +kernel
theorem dX7_retell_45 : decode cX7_retell 45 = .ok (.iload_n 2, 1) := by decide +kernel
theorem dX7_retell_46 : decode cX7_retell 46 = .ok (.invokestatic 286, 3) := by decide +kernel
theorem dX7_retell_49 : decode cX7_retell 49 = .ok (.ifCond .eq 18, 3) := by decide +kernel
theorem dX7_retell_52 : decode cX7_retell 52 = .ok (.aload_n 0, 1) := by decide +kernel
theorem dX7_retell_53 : decode cX7_retell 53 = .ok (.getfield 39, 3) := by decide +kernel
theorem dX7_retell_56 : decode cX7_retell 56 = .ok (.aload_n 3, 1) := by decide +kernel
theorem dX7_retell_57 : decode cX7_retell 57 = .ok (.iload_n 2, 1) := by decide +kernel
theorem dX7_retell_58 : decode cX7_retell 58 = .ok (.invokestatic 289, 3) := by decide +kernel
theorem dX7_retell_61 : decode cX7_retell 61 = .ok (.invokevirtual 292, 3) := by decide +kernel
theorem dX7_retell_64 : decode cX7_retell 64 = .ok (.goto 15, 3) := by decide +kernel
theorem dX7_retell_67 : decode cX7_retell 67 = .ok (.aload_n 0, 1) := by decide +kernel
theorem dX7_retell_68 : decode cX7_retell 68 = .ok (.getfield 39, 3) := by decide +kernel
theorem dX7_retell_71 : decode cX7_retell 71 = .ok (.aload_n 3, 1) := by decide +kernel
theorem dX7_retell_72 : decode cX7_retell 72 = .ok (.iload_n 2, 1) := by decide +kernel
theorem dX7_retell_73 : decode cX7_retell 73 = .ok (.invokestatic 289, 3) := by decide +kernel
theorem dX7_retell_76 : decode cX7_retell 76 = .ok (.invokevirtual 257, 3) := by decide +kernel
theorem dX7_retell_79 : decode cX7_retell 79 = .ok (.iinc 1 1, 3) := by decide +kernel
theorem dX7_retell_82 : decode cX7_retell 82 = .ok (.goto (-73), 3) := by decide +kernel
theorem dX7_retell_85 : decode cX7_retell 85 = .ok (.aload_n 0, 1) := by decide +kernel
theorem dX7_retell_86 : decode cX7_retell 86 = .ok (.getfield 39, 3) := by decide +kernel
theorem dX7_retell_89 : decode cX7_retell 89 = .ok (.aload_n 0, 1) := by decide +kernel
theorem dX7_retell_90 : decode cX7_retell 90 = .ok (.getfield 186, 3) := by decide +kernel
theorem dX7_retell_93 : decode cX7_retell 93 = .ok (.invokevirtual 197, 3) := by decide +kernel
theorem dX7_retell_96 : decode cX7_retell 96 = .ok (.return_, 1) := by decide +kernel
theorem dJ9_abs_0f7a4_0 : decode cJ9_abs_0f7a4 0 = .ok (.iload_n 0, 1) := by decide +kernel
theorem dJ9_abs_0f7a4_1 : decode cJ9_abs_0f7a4 1 = .ok (.ifCond .ge 8, 3) := by decide +kernel
theorem dJ9_abs_0f7a4_4 : decode cJ9_abs_0f7a4 4 = .ok (.iload_n 0, 1) := by decide +kernel
theorem dJ9_abs_0f7a4_5 : decode cJ9_abs_0f7a4 5 = .ok (.ineg, 1) := by decide +kernel
theorem dJ9_abs_0f7a4_6 : decode cJ9_abs_0f7a4 6 = .ok (.goto 4, 3) := by decide +kernel
theorem dJ9_abs_0f7a4_9 : decode cJ9_abs_0f7a4 9 = .ok (.iload_n 0, 1) := by decide +kernel
theorem dJ9_abs_0f7a4_10 : decode cJ9_abs_0f7a4 10 = .ok (.ireturn, 1) := by decide +kernel
theorem dJ9_max_7cf53_0 : decode cJ9_max_7cf53 0 = .ok (.iload_n 0, 1) := by decide +kernel
theorem dJ9_max_7cf53_1 : decode cJ9_max_7cf53 1 = .ok (.iload_n 1, 1) := by decide +kernel
theorem dJ9_max_7cf53_2 : decode cJ9_max_7cf53 2 = .ok (.if_icmp .lt 7, 3) := by decide +kernel
theorem dJ9_max_7cf53_5 : decode cJ9_max_7cf53 5 = .ok (.iload_n 0, 1) := by decide +kernel
theorem dJ9_max_7cf53_6 : decode cJ9_max_7cf53 6 = .ok (.goto 4, 3) := by decide +kernel
theorem dJ9_max_7cf53_9 : decode cJ9_max_7cf53 9 = .ok (.iload_n 1, 1) := by decide +kernel
theorem dJ9_max_7cf53_10 : decode cJ9_max_7cf53 10 = .ok (.ireturn, 1) := by decide +kernel
theorem dJ9_min_7cf53_0 : decode cJ9_min_7cf53 0 = .ok (.iload_n 0, 1) := by decide +kernel
theorem dJ9_min_7cf53_1 : decode cJ9_min_7cf53 1 = .ok (.iload_n 1, 1) := by decide +kernel
theorem dJ9_min_7cf53_2 : decode cJ9_min_7cf53 2 = .ok (.if_icmp .gt 7, 3) := by decide +kernel
theorem dJ9_min_7cf53_5 : decode cJ9_min_7cf53 5 = .ok (.iload_n 0, 1) := by decide +kernel
theorem dJ9_min_7cf53_6 : decode cJ9_min_7cf53 6 = .ok (.goto 4, 3) := by decide +kernel
theorem dJ9_min_7cf53_9 : decode cJ9_min_7cf53 9 = .ok (.iload_n 1, 1) := by decide +kernel
theorem dJ9_min_7cf53_10 : decode cJ9_min_7cf53 10 = .ok (.ireturn, 1) := by decide +kernel
theorem dJ7_fill_53178_0 : decode cJ7_fill_53178 0 = .ok (.iconst 0, 1) := by decide +kernel
theorem dJ7_fill_53178_1 : decode cJ7_fill_53178 1 = .ok (.istore_n 2, 1) := by decide +kernel
theorem dJ7_fill_53178_2 : decode cJ7_fill_53178 2 = .ok (.aload_n 0, 1) := by decide +kernel
theorem dJ7_fill_53178_3 : decode cJ7_fill_53178 3 = .ok (.arraylength, 1) := by decide +kernel
theorem dJ7_fill_53178_4 : decode cJ7_fill_53178 4 = .ok (.istore_n 3, 1) := by decide +kernel
theorem dJ7_fill_53178_5 : decode cJ7_fill_53178 5 = .ok (.iload_n 2, 1) := by decide +kernel
theorem dJ7_fill_53178_6 : decode cJ7_fill_53178 6 = .ok (.iload_n 3, 1) := by decide +kernel
theorem dJ7_fill_53178_7 : decode cJ7_fill_53178 7 = .ok (.if_icmp .ge 13, 3) := by decide +kernel
theorem dJ7_fill_53178_10 : decode cJ7_fill_53178 10 = .ok (.aload_n 0, 1) := by decide +kernel
theorem dJ7_fill_53178_11 : decode cJ7_fill_53178 11 = .ok (.iload_n 2, 1) := by decide +kernel
theorem dJ7_fill_53178_12 : decode cJ7_fill_53178 12 = .ok (.iload_n 1, 1) := by decide +kernel
theorem dJ7_fill_53178_13 : decode cJ7_fill_53178 13 = .ok (.iastore, 1) := by decide +kernel
theorem dJ7_fill_53178_14 : decode cJ7_fill_53178 14 = .ok (.iinc 2 1, 3) := by decide +kernel
theorem dJ7_fill_53178_17 : decode cJ7_fill_53178 17 = .ok (.goto (-12), 3) := by decide +kernel
theorem dJ7_fill_53178_20 : decode cJ7_fill_53178 20 = .ok (.return_, 1) := by decide +kernel
theorem dJ7_copyOf_59c91_0 : decode cJ7_copyOf_59c91 0 = .ok (.iload_n 1, 1) := by decide +kernel
theorem dJ7_copyOf_59c91_1 : decode cJ7_copyOf_59c91 1 = .ok (.aload_n 0, 1) := by decide +kernel
theorem dJ7_copyOf_59c91_2 : decode cJ7_copyOf_59c91 2 = .ok (.arraylength, 1) := by decide +kernel
theorem dJ7_copyOf_59c91_3 : decode cJ7_copyOf_59c91 3 = .ok (.if_icmp .ne 11, 3) := by decide +kernel
theorem dJ7_copyOf_59c91_6 : decode cJ7_copyOf_59c91 6 = .ok (.aload_n 0, 1) := by decide +kernel
theorem dJ7_copyOf_59c91_7 : decode cJ7_copyOf_59c91 7 = .ok (.invokevirtual 316, 3) := by decide +kernel
theorem dJ7_copyOf_59c91_10 : decode cJ7_copyOf_59c91 10 = .ok (.checkcast 317, 3) := by decide +kernel
theorem dJ7_copyOf_59c91_13 : decode cJ7_copyOf_59c91 13 = .ok (.areturn, 1) := by decide +kernel
theorem dJ7_copyOf_59c91_14 : decode cJ7_copyOf_59c91 14 = .ok (.iload_n 1, 1) := by decide +kernel
theorem dJ7_copyOf_59c91_15 : decode cJ7_copyOf_59c91 15 = .ok (.newarray .int, 2) := by decide +kernel
theorem dJ7_copyOf_59c91_17 : decode cJ7_copyOf_59c91 17 = .ok (.astore_n 2, 1) := by decide +kernel
theorem dJ7_copyOf_59c91_18 : decode cJ7_copyOf_59c91 18 = .ok (.aload_n 0, 1) := by decide +kernel
theorem dJ7_copyOf_59c91_19 : decode cJ7_copyOf_59c91 19 = .ok (.iconst 0, 1) := by decide +kernel
theorem dJ7_copyOf_59c91_20 : decode cJ7_copyOf_59c91 20 = .ok (.aload_n 2, 1) := by decide +kernel
theorem dJ7_copyOf_59c91_21 : decode cJ7_copyOf_59c91 21 = .ok (.iconst 0, 1) := by decide +kernel
theorem dJ7_copyOf_59c91_22 : decode cJ7_copyOf_59c91 22 = .ok (.aload_n 0, 1) := by decide +kernel
theorem dJ7_copyOf_59c91_23 : decode cJ7_copyOf_59c91 23 = .ok (.arraylength, 1) := by decide +kernel
theorem dJ7_copyOf_59c91_24 : decode cJ7_copyOf_59c91 24 = .ok (.iload_n 1, 1) := by decide +kernel
theorem dJ7_copyOf_59c91_25 : decode cJ7_copyOf_59c91 25 = .ok (.invokestatic 304, 3) := by decide +kernel
theorem dJ7_copyOf_59c91_28 : decode cJ7_copyOf_59c91 28 = .ok (.invokestatic 150, 3) := by decide +kernel
theorem dJ7_copyOf_59c91_31 : decode cJ7_copyOf_59c91 31 = .ok (.aload_n 2, 1) := by decide +kernel
theorem dJ7_copyOf_59c91_32 : decode cJ7_copyOf_59c91 32 = .ok (.areturn, 1) := by decide +kernel
