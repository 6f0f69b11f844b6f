theorem d_X0_init_0 : decode (qMc M_X0_init) 0 = .ok (.aload_n 0, 1) := by decide +kernel
theorem d_X0_init_1 : decode (qMc M_X0_init) 1 = .ok (.invokespecial 3, 3) := by decide +kernel
theorem d_X0_init_4 : decode (qMc M_X0_init) 4 = .ok (.aload_n 0, 1) := by decide +kernel
theorem d_X0_init_5 : decode (qMc M_X0_init) 5 = .ok (.iconst 4, 1) := by decide +kernel
theorem d_X0_init_6 : decode (qMc M_X0_init) 6 = .ok (.anewarray 9, 3) := by decide +kernel
theorem d_X0_init_9 : decode (qMc M_X0_init) 9 = .ok (.putfield 11, 3) := by decide +kernel
theorem d_X0_init_12 : decode (qMc M_X0_init) 12 = .ok (.aload_n 0, 1) := by decide +kernel
theorem d_X0_init_13 : decode (qMc M_X0_init) 13 = .ok (.sipush 648, 3) := by decide +kernel
theorem d_X0_init_16 : decode (qMc M_X0_init) 16 = .ok (.newarray .int, 2) := by decide +kernel
theorem d_X0_init_18 : decode (qMc M_X0_init) 18 = .ok (.putfield 17, 3) := by decide +kernel
theorem d_X0_init_21 : decode (qMc M_X0_init) 21 = .ok (.aload_n 0, 1) := by decide +kernel
theorem d_X0_init_22 : decode (qMc M_X0_init) 22 = .ok (.sipush 648, 3) := by decide +kernel
theorem d_X0_init_25 : decode (qMc M_X0_init) 25 = .ok (.newarray .int, 2) := by decide +kernel
theorem d_X0_init_27 : decode (qMc M_X0_init) 27 = .ok (.putfield 21, 3) := by decide +kernel
theorem d_X0_init_30 : decode (qMc M_X0_init) 30 = .ok (.iconst 0, 1) := by decide +kernel
theorem d_X0_init_31 : decode (qMc M_X0_init) 31 = .ok (.istore_n 1, 1) := by decide +kernel
theorem d_X0_init_32 : decode (qMc M_X0_init) 32 = .ok (.iload_n 1, 1) := by decide +kernel
theorem d_X0_init_33 : decode (qMc M_X0_init) 33 = .ok (.iconst 4, 1) := by decide +kernel
theorem d_X0_init_34 : decode (qMc M_X0_init) 34 = .ok (.if_icmp .ge 22, 3) := by decide +kernel
theorem d_X0_init_37 : decode (qMc M_X0_init) 37 = .ok (.aload_n 0, 1) := by decide +kernel
theorem d_X0_init_38 : decode (qMc M_X0_init) 38 = .ok (.getfield 11, 3) := by decide +kernel
theorem d_X0_init_41 : decode (qMc M_X0_init) 41 = .ok (.iload_n 1, 1) := by decide +kernel
theorem d_X0_init_42 : decode (qMc M_X0_init) 42 = .ok (.new 9, 3) := by decide +kernel
theorem d_X0_init_45 : decode (qMc M_X0_init) 45 = .ok (.dup, 1) := by decide +kernel
theorem d_X0_init_46 : decode (qMc M_X0_init) 46 = .ok (.invokespecial 24, 3) := by decide +kernel
theorem d_X0_init_49 : decode (qMc M_X0_init) 49 = .ok (.aastore, 1) := by decide +kernel
theorem d_X0_init_50 : decode (qMc M_X0_init) 50 = .ok (.iinc 1 1, 3) := by decide +kernel
theorem d_X0_init_53 : decode (qMc M_X0_init) 53 = .ok (.goto (-21), 3) := by decide +kernel
theorem d_X0_init_56 : decode (qMc M_X0_init) 56 = .ok (.iconst 0, 1) := by decide +kernel
theorem d_X0_init_57 : decode (qMc M_X0_init) 57 = .ok (.istore_n 1, 1) := by decide +kernel
theorem d_X0_init_58 : decode (qMc M_X0_init) 58 = .ok (.iload_n 1, 1) := by decide +kernel
theorem d_X0_init_59 : decode (qMc M_X0_init) 59 = .ok (.sipush 648, 3) := by decide +kernel
theorem d_X0_init_62 : decode (qMc M_X0_init) 62 = .ok (.if_icmp .ge 26, 3) := by decide +kernel
theorem d_X0_init_65 : decode (qMc M_X0_init) 65 = .ok (.aload_n 0, 1) := by decide +kernel
theorem d_X0_init_66 : decode (qMc M_X0_init) 66 = .ok (.getfield 17, 3) := by decide +kernel
theorem d_X0_init_69 : decode (qMc M_X0_init) 69 = .ok (.iload_n 1, 1) := by decide +kernel
theorem d_X0_init_70 : decode (qMc M_X0_init) 70 = .ok (.iload_n 1, 1) := by decide +kernel
theorem d_X0_init_71 : decode (qMc M_X0_init) 71 = .ok (.bipush 81, 2) := by decide +kernel
theorem d_X0_init_73 : decode (qMc M_X0_init) 73 = .ok (.idiv, 1) := by decide +kernel
theorem d_X0_init_74 : decode (qMc M_X0_init) 74 = .ok (.iastore, 1) := by decide +kernel
theorem d_X0_init_75 : decode (qMc M_X0_init) 75 = .ok (.aload_n 0, 1) := by decide +kernel
theorem d_X0_init_76 : decode (qMc M_X0_init) 76 = .ok (.getfield 21, 3) := by decide +kernel
theorem d_X0_init_79 : decode (qMc M_X0_init) 79 = .ok (.iload_n 1, 1) := by decide +kernel
theorem d_X0_init_80 : decode (qMc M_X0_init) 80 = .ok (.iconst (-1), 1) := by decide +kernel
theorem d_X0_init_81 : decode (qMc M_X0_init) 81 = .ok (.iastore, 1) := by decide +kernel
theorem d_X0_init_82 : decode (qMc M_X0_init) 82 = .ok (.iinc 1 1, 3) := by decide +kernel
theorem d_X0_init_85 : decode (qMc M_X0_init) 85 = .ok (.goto (-27), 3) := by decide +kernel
theorem d_X0_init_88 : decode (qMc M_X0_init) 88 = .ok (.return_, 1) := by decide +kernel
theorem d_X0_copyFrom_0 : decode (qMc M_X0_copyFrom) 0 = .ok (.iconst 0, 1) := by decide +kernel
theorem d_X0_copyFrom_1 : decode (qMc M_X0_copyFrom) 1 = .ok (.istore_n 2, 1) := by decide +kernel
theorem d_X0_copyFrom_2 : decode (qMc M_X0_copyFrom) 2 = .ok (.iload_n 2, 1) := by decide +kernel
theorem d_X0_copyFrom_3 : decode (qMc M_X0_copyFrom) 3 = .ok (.iconst 4, 1) := by decide +kernel
theorem d_X0_copyFrom_4 : decode (qMc M_X0_copyFrom) 4 = .ok (.if_icmp .ge 24, 3) := by decide +kernel
theorem d_X0_copyFrom_7 : decode (qMc M_X0_copyFrom) 7 = .ok (.aload_n 0, 1) := by decide +kernel
theorem d_X0_copyFrom_8 : decode (qMc M_X0_copyFrom) 8 = .ok (.getfield 11, 3) := by decide +kernel
theorem d_X0_copyFrom_11 : decode (qMc M_X0_copyFrom) 11 = .ok (.iload_n 2, 1) := by decide +kernel
theorem d_X0_copyFrom_12 : decode (qMc M_X0_copyFrom) 12 = .ok (.aaload, 1) := by decide +kernel
theorem d_X0_copyFrom_13 : decode (qMc M_X0_copyFrom) 13 = .ok (.aload_n 1, 1) := by decide +kernel
theorem d_X0_copyFrom_14 : decode (qMc M_X0_copyFrom) 14 = .ok (.getfield 11, 3) := by decide +kernel
theorem d_X0_copyFrom_17 : decode (qMc M_X0_copyFrom) 17 = .ok (.iload_n 2, 1) := by decide +kernel
theorem d_X0_copyFrom_18 : decode (qMc M_X0_copyFrom) 18 = .ok (.aaload, 1) := by decide +kernel
theorem d_X0_copyFrom_19 : decode (qMc M_X0_copyFrom) 19 = .ok (.invokevirtual 25, 3) := by decide +kernel
theorem d_X0_copyFrom_22 : decode (qMc M_X0_copyFrom) 22 = .ok (.iinc 2 1, 3) := by decide +kernel
theorem d_X0_copyFrom_25 : decode (qMc M_X0_copyFrom) 25 = .ok (.goto (-23), 3) := by decide +kernel
theorem d_X0_copyFrom_28 : decode (qMc M_X0_copyFrom) 28 = .ok (.aload_n 1, 1) := by decide +kernel
theorem d_X0_copyFrom_29 : decode (qMc M_X0_copyFrom) 29 = .ok (.getfield 17, 3) := by decide +kernel
theorem d_X0_copyFrom_32 : decode (qMc M_X0_copyFrom) 32 = .ok (.iconst 0, 1) := by decide +kernel
theorem d_X0_copyFrom_33 : decode (qMc M_X0_copyFrom) 33 = .ok (.aload_n 0, 1) := by decide +kernel
theorem d_X0_copyFrom_34 : decode (qMc M_X0_copyFrom) 34 = .ok (.getfield 17, 3) := by decide +kernel
theorem d_X0_copyFrom_37 : decode (qMc M_X0_copyFrom) 37 = .ok (.iconst 0, 1) := by decide +kernel
theorem d_X0_copyFrom_38 : decode (qMc M_X0_copyFrom) 38 = .ok (.sipush 648, 3) := by decide +kernel
theorem d_X0_copyFrom_41 : decode (qMc M_X0_copyFrom) 41 = .ok (.invokestatic 29, 3) := by decide +kernel
theorem d_X0_copyFrom_44 : decode (qMc M_X0_copyFrom) 44 = .ok (.aload_n 1, 1) := by decide +kernel
theorem d_X0_copyFrom_45 : decode (qMc M_X0_copyFrom) 45 = .ok (.getfield 21, 3) := by decide +kernel
theorem d_X0_copyFrom_48 : decode (qMc M_X0_copyFrom) 48 = .ok (.iconst 0, 1) := by decide +kernel
theorem d_X0_copyFrom_49 : decode (qMc M_X0_copyFrom) 49 = .ok (.aload_n 0, 1) := by decide +kernel
theorem d_X0_copyFrom_50 : decode (qMc M_X0_copyFrom) 50 = .ok (.getfield 21, 3) := by decide +kernel
theorem d_X0_copyFrom_53 : decode (qMc M_X0_copyFrom) 53 = .ok (.iconst 0, 1) := by decide +kernel
theorem d_X0_copyFrom_54 : decode (qMc M_X0_copyFrom) 54 = .ok (.sipush 648, 3) := by decide +kernel
theorem d_X0_copyFrom_57 : decode (qMc M_X0_copyFrom) 57 = .ok (.invokestatic 29, 3) := by decide +kernel
theorem d_X0_copyFrom_60 : decode (qMc M_X0_copyFrom) 60 = .ok (.return_, 1) := by decide +kernel
theorem d_X0_settle_0 : decode (qMc M_X0_settle) 0 = .ok (.iconst 0, 1) := by decide +kernel
theorem d_X0_settle_1 : decode (qMc M_X0_settle) 1 = .ok (.istore_n 1, 1) := by decide +kernel
theorem d_X0_settle_2 : decode (qMc M_X0_settle) 2 = .ok (.iload_n 1, 1) := by decide +kernel
theorem d_X0_settle_3 : decode (qMc M_X0_settle) 3 = .ok (.sipush 567, 3) := by decide +kernel
theorem d_X0_settle_6 : decode (qMc M_X0_settle) 6 = .ok (.if_icmp .ge 26, 3) := by decide +kernel
theorem d_X0_settle_9 : decode (qMc M_X0_settle) 9 = .ok (.aload_n 0, 1) := by decide +kernel
theorem d_X0_settle_10 : decode (qMc M_X0_settle) 10 = .ok (.iload_n 1, 1) := by decide +kernel
theorem d_X0_settle_11 : decode (qMc M_X0_settle) 11 = .ok (.iload_n 1, 1) := by decide +kernel
theorem d_X0_settle_12 : decode (qMc M_X0_settle) 12 = .ok (.invokestatic 35, 3) := by decide +kernel
theorem d_X0_settle_15 : decode (qMc M_X0_settle) 15 = .ok (.iload_n 1, 1) := by decide +kernel
theorem d_X0_settle_16 : decode (qMc M_X0_settle) 16 = .ok (.invokestatic 39, 3) := by decide +kernel
theorem d_X0_settle_19 : decode (qMc M_X0_settle) 19 = .ok (.iload_n 1, 1) := by decide +kernel
theorem d_X0_settle_20 : decode (qMc M_X0_settle) 20 = .ok (.invokestatic 42, 3) := by decide +kernel
theorem d_X0_settle_23 : decode (qMc M_X0_settle) 23 = .ok (.invokevirtual 45, 3) := by decide +kernel
theorem d_X0_settle_26 : decode (qMc M_X0_settle) 26 = .ok (.iinc 1 1, 3) := by decide +kernel
theorem d_X0_settle_29 : decode (qMc M_X0_settle) 29 = .ok (.goto (-27), 3) := by decide +kernel
theorem d_X0_settle_32 : decode (qMc M_X0_settle) 32 = .ok (.return_, 1) := by decide +kernel
theorem d_X0_settleCase_0 : decode (qMc M_X0_settleCase) 0 = .ok (.aload_n 0, 1) := by decide +kernel
theorem d_X0_settleCase_1 : decode (qMc M_X0_settleCase) 1 = .ok (.getfield 17, 3) := by decide +kernel
theorem d_X0_settleCase_4 : decode (qMc M_X0_settleCase) 4 = .ok (.iload_n 1, 1) := by decide +kernel
theorem d_X0_settleCase_5 : decode (qMc M_X0_settleCase) 5 = .ok (.iload_n 2, 1) := by decide +kernel
theorem d_X0_settleCase_6 : decode (qMc M_X0_settleCase) 6 = .ok (.iastore, 1) := by decide +kernel
theorem d_X0_settleCase_7 : decode (qMc M_X0_settleCase) 7 = .ok (.aload_n 0, 1) := by decide +kernel
theorem d_X0_settleCase_8 : decode (qMc M_X0_settleCase) 8 = .ok (.getfield 21, 3) := by decide +kernel
theorem d_X0_settleCase_11 : decode (qMc M_X0_settleCase) 11 = .ok (.iload_n 1, 1) := by decide +kernel
theorem d_X0_settleCase_12 : decode (qMc M_X0_settleCase) 12 = .ok (.iconst (-1), 1) := by decide +kernel
theorem d_X0_settleCase_13 : decode (qMc M_X0_settleCase) 13 = .ok (.iastore, 1) := by decide +kernel
theorem d_X0_settleCase_14 : decode (qMc M_X0_settleCase) 14 = .ok (.iconst 0, 1) := by decide +kernel
theorem d_X0_settleCase_15 : decode (qMc M_X0_settleCase) 15 = .ok (.istore 5, 2) := by decide +kernel
theorem d_X0_settleCase_17 : decode (qMc M_X0_settleCase) 17 = .ok (.iload 5, 2) := by decide +kernel
theorem d_X0_settleCase_19 : decode (qMc M_X0_settleCase) 19 = .ok (.iconst 4, 1) := by decide +kernel
theorem d_X0_settleCase_20 : decode (qMc M_X0_settleCase) 20 = .ok (.if_icmp .ge 65, 3) := by decide +kernel
theorem d_X0_settleCase_23 : decode (qMc M_X0_settleCase) 23 = .ok (.aload_n 0, 1) := by decide +kernel
theorem d_X0_settleCase_24 : decode (qMc M_X0_settleCase) 24 = .ok (.getfield 11, 3) := by decide +kernel
theorem d_X0_settleCase_27 : decode (qMc M_X0_settleCase) 27 = .ok (.iload 5, 2) := by decide +kernel
theorem d_X0_settleCase_29 : decode (qMc M_X0_settleCase) 29 = .ok (.aaload, 1) := by decide +kernel
theorem d_X0_settleCase_30 : decode (qMc M_X0_settleCase) 30 = .ok (.iload_n 2, 1) := by decide +kernel
theorem d_X0_settleCase_31 : decode (qMc M_X0_settleCase) 31 = .ok (.iload_n 3, 1) := by decide +kernel
theorem d_X0_settleCase_32 : decode (qMc M_X0_settleCase) 32 = .ok (.iload 4, 2) := by decide +kernel
theorem d_X0_settleCase_34 : decode (qMc M_X0_settleCase) 34 = .ok (.invokevirtual 49, 3) := by decide +kernel
theorem d_X0_settleCase_37 : decode (qMc M_X0_settleCase) 37 = .ok (.istore 6, 2) := by decide +kernel
theorem d_X0_settleCase_39 : decode (qMc M_X0_settleCase) 39 = .ok (.iload 6, 2) := by decide +kernel
theorem d_X0_settleCase_41 : decode (qMc M_X0_settleCase) 41 = .ok (.iconst (-1), 1) := by decide +kernel
theorem d_X0_settleCase_42 : decode (qMc M_X0_settleCase) 42 = .ok (.if_icmp .eq 37, 3) := by decide +kernel
theorem d_X0_settleCase_45 : decode (qMc M_X0_settleCase) 45 = .ok (.aload_n 0, 1) := by decide +kernel
theorem d_X0_settleCase_46 : decode (qMc M_X0_settleCase) 46 = .ok (.getfield 17, 3) := by decide +kernel
theorem d_X0_settleCase_49 : decode (qMc M_X0_settleCase) 49 = .ok (.iload_n 1, 1) := by decide +kernel
theorem d_X0_settleCase_50 : decode (qMc M_X0_settleCase) 50 = .ok (.aload_n 0, 1) := by decide +kernel
theorem d_X0_settleCase_51 : decode (qMc M_X0_settleCase) 51 = .ok (.getfield 11, 3) := by decide +kernel
theorem d_X0_settleCase_54 : decode (qMc M_X0_settleCase) 54 = .ok (.iload 5, 2) := by decide +kernel
theorem d_X0_settleCase_56 : decode (qMc M_X0_settleCase) 56 = .ok (.aaload, 1) := by decide +kernel
theorem d_X0_settleCase_57 : decode (qMc M_X0_settleCase) 57 = .ok (.iload 6, 2) := by decide +kernel
theorem d_X0_settleCase_59 : decode (qMc M_X0_settleCase) 59 = .ok (.iload_n 2, 1) := by decide +kernel
theorem d_X0_settleCase_60 : decode (qMc M_X0_settleCase) 60 = .ok (.invokevirtual 53, 3) := by decide +kernel
theorem d_X0_settleCase_63 : decode (qMc M_X0_settleCase) 63 = .ok (.iastore, 1) := by decide +kernel
theorem d_X0_settleCase_64 : decode (qMc M_X0_settleCase) 64 = .ok (.aload_n 0, 1) := by decide +kernel
theorem d_X0_settleCase_65 : decode (qMc M_X0_settleCase) 65 = .ok (.getfield 21, 3) := by decide +kernel
theorem d_X0_settleCase_68 : decode (qMc M_X0_settleCase) 68 = .ok (.iload_n 1, 1) := by decide +kernel
theorem d_X0_settleCase_69 : decode (qMc M_X0_settleCase) 69 = .ok (.bipush 24, 2) := by decide +kernel
theorem d_X0_settleCase_71 : decode (qMc M_X0_settleCase) 71 = .ok (.iload 5, 2) := by decide +kernel
theorem d_X0_settleCase_73 : decode (qMc M_X0_settleCase) 73 = .ok (.imul, 1) := by decide +kernel
theorem d_X0_settleCase_74 : decode (qMc M_X0_settleCase) 74 = .ok (.iload 6, 2) := by decide +kernel
theorem d_X0_settleCase_76 : decode (qMc M_X0_settleCase) 76 = .ok (.iadd, 1) := by decide +kernel
theorem d_X0_settleCase_77 : decode (qMc M_X0_settleCase) 77 = .ok (.iastore, 1) := by decide +kernel
theorem d_X0_settleCase_78 : decode (qMc M_X0_settleCase) 78 = .ok (.return_, 1) := by decide +kernel
theorem d_X0_settleCase_79 : decode (qMc M_X0_settleCase) 79 = .ok (.iinc 5 1, 3) := by decide +kernel
theorem d_X0_settleCase_82 : decode (qMc M_X0_settleCase) 82 = .ok (.goto (-65), 3) := by decide +kernel
theorem d_X0_settleCase_85 : decode (qMc M_X0_settleCase) 85 = .ok (.return_, 1) := by decide +kernel
theorem d_X0_has_0 : decode (qMc M_X0_has) 0 = .ok (.iload_n 1, 1) := by decide +kernel
theorem d_X0_has_1 : decode (qMc M_X0_has) 1 = .ok (.iconst 0, 1) := by decide +kernel
theorem d_X0_has_2 : decode (qMc M_X0_has) 2 = .ok (.bipush 95, 2) := by decide +kernel
theorem d_X0_has_4 : decode (qMc M_X0_has) 4 = .ok (.invokestatic 57, 3) := by decide +kernel
theorem d_X0_has_7 : decode (qMc M_X0_has) 7 = .ok (.ifCond .eq 26, 3) := by decide +kernel
theorem d_X0_has_10 : decode (qMc M_X0_has) 10 = .ok (.aload_n 0, 1) := by decide +kernel
theorem d_X0_has_11 : decode (qMc M_X0_has) 11 = .ok (.getfield 11, 3) := by decide +kernel
theorem d_X0_has_14 : decode (qMc M_X0_has) 14 = .ok (.iload_n 1, 1) := by decide +kernel
theorem d_X0_has_15 : decode (qMc M_X0_has) 15 = .ok (.bipush 24, 2) := by decide +kernel
theorem d_X0_has_17 : decode (qMc M_X0_has) 17 = .ok (.idiv, 1) := by decide +kernel
theorem d_X0_has_18 : decode (qMc M_X0_has) 18 = .ok (.aaload, 1) := by decide +kernel
theorem d_X0_has_19 : decode (qMc M_X0_has) 19 = .ok (.iload_n 1, 1) := by decide +kernel
theorem d_X0_has_20 : decode (qMc M_X0_has) 20 = .ok (.bipush 24, 2) := by decide +kernel
theorem d_X0_has_22 : decode (qMc M_X0_has) 22 = .ok (.irem, 1) := by decide +kernel
theorem d_X0_has_23 : decode (qMc M_X0_has) 23 = .ok (.invokevirtual 61, 3) := by decide +kernel
theorem d_X0_has_26 : decode (qMc M_X0_has) 26 = .ok (.ifCond .eq 7, 3) := by decide +kernel
theorem d_X0_has_29 : decode (qMc M_X0_has) 29 = .ok (.iconst 1, 1) := by decide +kernel
theorem d_X0_has_30 : decode (qMc M_X0_has) 30 = .ok (.goto 4, 3) := by decide +kernel
theorem d_X0_has_33 : decode (qMc M_X0_has) 33 = .ok (.iconst 0, 1) := by decide +kernel
theorem d_X0_has_34 : decode (qMc M_X0_has) 34 = .ok (.ireturn, 1) := by decide +kernel
theorem d_X0_ruleCount_0 : decode (qMc M_X0_ruleCount) 0 = .ok (.iconst 0, 1) := by decide +kernel
theorem d_X0_ruleCount_1 : decode (qMc M_X0_ruleCount) 1 = .ok (.istore_n 1, 1) := by decide +kernel
theorem d_X0_ruleCount_2 : decode (qMc M_X0_ruleCount) 2 = .ok (.iconst 0, 1) := by decide +kernel
theorem d_X0_ruleCount_3 : decode (qMc M_X0_ruleCount) 3 = .ok (.istore_n 2, 1) := by decide +kernel
theorem d_X0_ruleCount_4 : decode (qMc M_X0_ruleCount) 4 = .ok (.iload_n 2, 1) := by decide +kernel
theorem d_X0_ruleCount_5 : decode (qMc M_X0_ruleCount) 5 = .ok (.iconst 4, 1) := by decide +kernel
theorem d_X0_ruleCount_6 : decode (qMc M_X0_ruleCount) 6 = .ok (.if_icmp .ge 21, 3) := by decide +kernel
theorem d_X0_ruleCount_9 : decode (qMc M_X0_ruleCount) 9 = .ok (.iload_n 1, 1) := by decide +kernel
theorem d_X0_ruleCount_10 : decode (qMc M_X0_ruleCount) 10 = .ok (.aload_n 0, 1) := by decide +kernel
theorem d_X0_ruleCount_11 : decode (qMc M_X0_ruleCount) 11 = .ok (.getfield 11, 3) := by decide +kernel
theorem d_X0_ruleCount_14 : decode (qMc M_X0_ruleCount) 14 = .ok (.iload_n 2, 1) := by decide +kernel
theorem d_X0_ruleCount_15 : decode (qMc M_X0_ruleCount) 15 = .ok (.aaload, 1) := by decide +kernel
theorem d_X0_ruleCount_16 : decode (qMc M_X0_ruleCount) 16 = .ok (.getfield 65, 3) := by decide +kernel
theorem d_X0_ruleCount_19 : decode (qMc M_X0_ruleCount) 19 = .ok (.iadd, 1) := by decide +kernel
theorem d_X0_ruleCount_20 : decode (qMc M_X0_ruleCount) 20 = .ok (.istore_n 1, 1) := by decide +kernel
theorem d_X0_ruleCount_21 : decode (qMc M_X0_ruleCount) 21 = .ok (.iinc 2 1, 3) := by decide +kernel
theorem d_X0_ruleCount_24 : decode (qMc M_X0_ruleCount) 24 = .ok (.goto (-20), 3) := by decide +kernel
theorem d_X0_ruleCount_27 : decode (qMc M_X0_ruleCount) 27 = .ok (.iload_n 1, 1) := by decide +kernel
theorem d_X0_ruleCount_28 : decode (qMc M_X0_ruleCount) 28 = .ok (.ireturn, 1) := by decide +kernel
theorem d_X0_clashes_0 : decode (qMc M_X0_clashes) 0 = .ok (.iconst 0, 1) := by decide +kernel
theorem d_X0_clashes_1 : decode (qMc M_X0_clashes) 1 = .ok (.istore_n 1, 1) := by decide +kernel
theorem d_X0_clashes_2 : decode (qMc M_X0_clashes) 2 = .ok (.iconst 0, 1) := by decide +kernel
theorem d_X0_clashes_3 : decode (qMc M_X0_clashes) 3 = .ok (.istore_n 2, 1) := by decide +kernel
theorem d_X0_clashes_4 : decode (qMc M_X0_clashes) 4 = .ok (.iload_n 2, 1) := by decide +kernel
theorem d_X0_clashes_5 : decode (qMc M_X0_clashes) 5 = .ok (.bipush 96, 2) := by decide +kernel
theorem d_X0_clashes_7 : decode (qMc M_X0_clashes) 7 = .ok (.if_icmp .ge 25, 3) := by decide +kernel
theorem d_X0_clashes_10 : decode (qMc M_X0_clashes) 10 = .ok (.aload_n 0, 1) := by decide +kernel
theorem d_X0_clashes_11 : decode (qMc M_X0_clashes) 11 = .ok (.iload_n 2, 1) := by decide +kernel
theorem d_X0_clashes_12 : decode (qMc M_X0_clashes) 12 = .ok (.invokevirtual 69, 3) := by decide +kernel
theorem d_X0_clashes_15 : decode (qMc M_X0_clashes) 15 = .ok (.ifCond .eq 11, 3) := by decide +kernel
theorem d_X0_clashes_18 : decode (qMc M_X0_clashes) 18 = .ok (.iload_n 1, 1) := by decide +kernel
theorem d_X0_clashes_19 : decode (qMc M_X0_clashes) 19 = .ok (.aload_n 0, 1) := by decide +kernel
theorem d_X0_clashes_20 : decode (qMc M_X0_clashes) 20 = .ok (.iload_n 2, 1) := by decide +kernel
theorem d_X0_clashes_21 : decode (qMc M_X0_clashes) 21 = .ok (.invokevirtual 70, 3) := by decide +kernel
theorem d_X0_clashes_24 : decode (qMc M_X0_clashes) 24 = .ok (.iadd, 1) := by decide +kernel
theorem d_X0_clashes_25 : decode (qMc M_X0_clashes) 25 = .ok (.istore_n 1, 1) := by decide +kernel
theorem d_X0_clashes_26 : decode (qMc M_X0_clashes) 26 = .ok (.iinc 2 1, 3) := by decide +kernel
theorem d_X0_clashes_29 : decode (qMc M_X0_clashes) 29 = .ok (.goto (-25), 3) := by decide +kernel
theorem d_X0_clashes_32 : decode (qMc M_X0_clashes) 32 = .ok (.iload_n 1, 1) := by decide +kernel
theorem d_X0_clashes_33 : decode (qMc M_X0_clashes) 33 = .ok (.ireturn, 1) := by decide +kernel
theorem d_X0_clashesBehind_0 : decode (qMc M_X0_clashesBehind) 0 = .ok (.aload_n 0, 1) := by decide +kernel
theorem d_X0_clashesBehind_1 : decode (qMc M_X0_clashesBehind) 1 = .ok (.getfield 11, 3) := by decide +kernel
theorem d_X0_clashesBehind_4 : decode (qMc M_X0_clashesBehind) 4 = .ok (.iload_n 1, 1) := by decide +kernel
theorem d_X0_clashesBehind_5 : decode (qMc M_X0_clashesBehind) 5 = .ok (.bipush 24, 2) := by decide +kernel
theorem d_X0_clashesBehind_7 : decode (qMc M_X0_clashesBehind) 7 = .ok (.idiv, 1) := by decide +kernel
theorem d_X0_clashesBehind_8 : decode (qMc M_X0_clashesBehind) 8 = .ok (.aaload, 1) := by decide +kernel
theorem d_X0_clashesBehind_9 : decode (qMc M_X0_clashesBehind) 9 = .ok (.astore_n 2, 1) := by decide +kernel
theorem d_X0_clashesBehind_10 : decode (qMc M_X0_clashesBehind) 10 = .ok (.iconst 0, 1) := by decide +kernel
theorem d_X0_clashesBehind_11 : decode (qMc M_X0_clashesBehind) 11 = .ok (.istore_n 3, 1) := by decide +kernel
theorem d_X0_clashesBehind_12 : decode (qMc M_X0_clashesBehind) 12 = .ok (.iload_n 1, 1) := by decide +kernel
theorem d_X0_clashesBehind_13 : decode (qMc M_X0_clashesBehind) 13 = .ok (.iconst 1, 1) := by decide +kernel
theorem d_X0_clashesBehind_14 : decode (qMc M_X0_clashesBehind) 14 = .ok (.iadd, 1) := by decide +kernel
theorem d_X0_clashesBehind_15 : decode (qMc M_X0_clashesBehind) 15 = .ok (.istore 4, 2) := by decide +kernel
theorem d_X0_clashesBehind_17 : decode (qMc M_X0_clashesBehind) 17 = .ok (.iload 4, 2) := by decide +kernel
theorem d_X0_clashesBehind_19 : decode (qMc M_X0_clashesBehind) 19 = .ok (.bipush 96, 2) := by decide +kernel
theorem d_X0_clashesBehind_21 : decode (qMc M_X0_clashesBehind) 21 = .ok (.if_icmp .ge 51, 3) := by decide +kernel
theorem d_X0_clashesBehind_24 : decode (qMc M_X0_clashesBehind) 24 = .ok (.aload_n 0, 1) := by decide +kernel
theorem d_X0_clashesBehind_25 : decode (qMc M_X0_clashesBehind) 25 = .ok (.getfield 11, 3) := by decide +kernel
theorem d_X0_clashesBehind_28 : decode (qMc M_X0_clashesBehind) 28 = .ok (.iload 4, 2) := by decide +kernel
theorem d_X0_clashesBehind_30 : decode (qMc M_X0_clashesBehind) 30 = .ok (.bipush 24, 2) := by decide +kernel
theorem d_X0_clashesBehind_32 : decode (qMc M_X0_clashesBehind) 32 = .ok (.idiv, 1) := by decide +kernel
theorem d_X0_clashesBehind_33 : decode (qMc M_X0_clashesBehind) 33 = .ok (.aaload, 1) := by decide +kernel
theorem d_X0_clashesBehind_34 : decode (qMc M_X0_clashesBehind) 34 = .ok (.astore 5, 2) := by decide +kernel
theorem d_X0_clashesBehind_36 : decode (qMc M_X0_clashesBehind) 36 = .ok (.aload_n 0, 1) := by decide +kernel
theorem d_X0_clashesBehind_37 : decode (qMc M_X0_clashesBehind) 37 = .ok (.iload 4, 2) := by decide +kernel
theorem d_X0_clashesBehind_39 : decode (qMc M_X0_clashesBehind) 39 = .ok (.invokevirtual 69, 3) := by decide +kernel
theorem d_X0_clashesBehind_42 : decode (qMc M_X0_clashesBehind) 42 = .ok (.ifCond .eq 24, 3) := by decide +kernel
theorem d_X0_clashesBehind_45 : decode (qMc M_X0_clashesBehind) 45 = .ok (.aload_n 2, 1) := by decide +kernel
theorem d_X0_clashesBehind_46 : decode (qMc M_X0_clashesBehind) 46 = .ok (.iload_n 1, 1) := by decide +kernel
theorem d_X0_clashesBehind_47 : decode (qMc M_X0_clashesBehind) 47 = .ok (.bipush 24, 2) := by decide +kernel
theorem d_X0_clashesBehind_49 : decode (qMc M_X0_clashesBehind) 49 = .ok (.irem, 1) := by decide +kernel
theorem d_X0_clashesBehind_50 : decode (qMc M_X0_clashesBehind) 50 = .ok (.aload 5, 2) := by decide +kernel
theorem d_X0_clashesBehind_52 : decode (qMc M_X0_clashesBehind) 52 = .ok (.iload 4, 2) := by decide +kernel
theorem d_X0_clashesBehind_54 : decode (qMc M_X0_clashesBehind) 54 = .ok (.bipush 24, 2) := by decide +kernel
theorem d_X0_clashesBehind_56 : decode (qMc M_X0_clashesBehind) 56 = .ok (.irem, 1) := by decide +kernel
theorem d_X0_clashesBehind_57 : decode (qMc M_X0_clashesBehind) 57 = .ok (.invokevirtual 73, 3) := by decide +kernel
theorem d_X0_clashesBehind_60 : decode (qMc M_X0_clashesBehind) 60 = .ok (.ifCond .eq 6, 3) := by decide +kernel
theorem d_X0_clashesBehind_63 : decode (qMc M_X0_clashesBehind) 63 = .ok (.iinc 3 1, 3) := by decide +kernel
theorem d_X0_clashesBehind_66 : decode (qMc M_X0_clashesBehind) 66 = .ok (.iinc 4 1, 3) := by decide +kernel
theorem d_X0_clashesBehind_69 : decode (qMc M_X0_clashesBehind) 69 = .ok (.goto (-52), 3) := by decide +kernel
theorem d_X0_clashesBehind_72 : decode (qMc M_X0_clashesBehind) 72 = .ok (.iload_n 3, 1) := by decide +kernel
theorem d_X0_clashesBehind_73 : decode (qMc M_X0_clashesBehind) 73 = .ok (.ireturn, 1) := by decide +kernel
theorem d_X0_unmirrored_0 : decode (qMc M_X0_unmirrored) 0 = .ok (.iconst 0, 1) := by decide +kernel
theorem d_X0_unmirrored_1 : decode (qMc M_X0_unmirrored) 1 = .ok (.istore_n 1, 1) := by decide +kernel
theorem d_X0_unmirrored_2 : decode (qMc M_X0_unmirrored) 2 = .ok (.iconst 0, 1) := by decide +kernel
theorem d_X0_unmirrored_3 : decode (qMc M_X0_unmirrored) 3 = .ok (.istore_n 2, 1) := by decide +kernel
theorem d_X0_unmirrored_4 : decode (qMc M_X0_unmirrored) 4 = .ok (.iload_n 2, 1) := by decide +kernel
theorem d_X0_unmirrored_5 : decode (qMc M_X0_unmirrored) 5 = .ok (.sipush 648, 3) := by decide +kernel
theorem d_X0_unmirrored_8 : decode (qMc M_X0_unmirrored) 8 = .ok (.if_icmp .ge 41, 3) := by decide +kernel
theorem d_X0_unmirrored_11 : decode (qMc M_X0_unmirrored) 11 = .ok (.aload_n 0, 1) := by decide +kernel
theorem d_X0_unmirrored_12 : decode (qMc M_X0_unmirrored) 12 = .ok (.getfield 17, 3) := by decide +kernel
theorem d_X0_unmirrored_15 : decode (qMc M_X0_unmirrored) 15 = .ok (.iload_n 2, 1) := by decide +kernel
theorem d_X0_unmirrored_16 : decode (qMc M_X0_unmirrored) 16 = .ok (.iaload, 1) := by decide +kernel
theorem d_X0_unmirrored_17 : decode (qMc M_X0_unmirrored) 17 = .ok (.aload_n 0, 1) := by decide +kernel
theorem d_X0_unmirrored_18 : decode (qMc M_X0_unmirrored) 18 = .ok (.getfield 17, 3) := by decide +kernel
theorem d_X0_unmirrored_21 : decode (qMc M_X0_unmirrored) 21 = .ok (.iload_n 2, 1) := by decide +kernel
theorem d_X0_unmirrored_22 : decode (qMc M_X0_unmirrored) 22 = .ok (.invokestatic 35, 3) := by decide +kernel
theorem d_X0_unmirrored_25 : decode (qMc M_X0_unmirrored) 25 = .ok (.iload_n 2, 1) := by decide +kernel
theorem d_X0_unmirrored_26 : decode (qMc M_X0_unmirrored) 26 = .ok (.invokestatic 42, 3) := by decide +kernel
theorem d_X0_unmirrored_29 : decode (qMc M_X0_unmirrored) 29 = .ok (.iload_n 2, 1) := by decide +kernel
theorem d_X0_unmirrored_30 : decode (qMc M_X0_unmirrored) 30 = .ok (.invokestatic 39, 3) := by decide +kernel
theorem d_X0_unmirrored_33 : decode (qMc M_X0_unmirrored) 33 = .ok (.invokestatic 77, 3) := by decide +kernel
theorem d_X0_unmirrored_36 : decode (qMc M_X0_unmirrored) 36 = .ok (.iaload, 1) := by decide +kernel
theorem d_X0_unmirrored_37 : decode (qMc M_X0_unmirrored) 37 = .ok (.if_icmp .eq 6, 3) := by decide +kernel
theorem d_X0_unmirrored_40 : decode (qMc M_X0_unmirrored) 40 = .ok (.iinc 1 1, 3) := by decide +kernel
theorem d_X0_unmirrored_43 : decode (qMc M_X0_unmirrored) 43 = .ok (.iinc 2 1, 3) := by decide +kernel
theorem d_X0_unmirrored_46 : decode (qMc M_X0_unmirrored) 46 = .ok (.goto (-42), 3) := by decide +kernel
theorem d_X0_unmirrored_49 : decode (qMc M_X0_unmirrored) 49 = .ok (.iload_n 1, 1) := by decide +kernel
theorem d_X0_unmirrored_50 : decode (qMc M_X0_unmirrored) 50 = .ok (.ireturn, 1) := by decide +kernel
theorem d_X1_init_0 : decode (qMc M_X1_init) 0 = .ok (.aload_n 0, 1) := by decide +kernel
theorem d_X1_init_1 : decode (qMc M_X1_init) 1 = .ok (.invokespecial 3, 3) := by decide +kernel
theorem d_X1_init_4 : decode (qMc M_X1_init) 4 = .ok (.aload_n 0, 1) := by decide +kernel
theorem d_X1_init_5 : decode (qMc M_X1_init) 5 = .ok (.bipush 72, 2) := by decide +kernel
theorem d_X1_init_7 : decode (qMc M_X1_init) 7 = .ok (.newarray .long, 2) := by decide +kernel
theorem d_X1_init_9 : decode (qMc M_X1_init) 9 = .ok (.putfield 9, 3) := by decide +kernel
theorem d_X1_init_12 : decode (qMc M_X1_init) 12 = .ok (.aload_n 0, 1) := by decide +kernel
theorem d_X1_init_13 : decode (qMc M_X1_init) 13 = .ok (.bipush 72, 2) := by decide +kernel
theorem d_X1_init_15 : decode (qMc M_X1_init) 15 = .ok (.newarray .long, 2) := by decide +kernel
theorem d_X1_init_17 : decode (qMc M_X1_init) 17 = .ok (.putfield 15, 3) := by decide +kernel
theorem d_X1_init_20 : decode (qMc M_X1_init) 20 = .ok (.return_, 1) := by decide +kernel
theorem d_X1_count_0 : decode (qMc M_X1_count) 0 = .ok (.aload_n 0, 1) := by decide +kernel
theorem d_X1_count_1 : decode (qMc M_X1_count) 1 = .ok (.getfield 9, 3) := by decide +kernel
theorem d_X1_count_4 : decode (qMc M_X1_count) 4 = .ok (.lconst 0, 1) := by decide +kernel
theorem d_X1_count_5 : decode (qMc M_X1_count) 5 = .ok (.invokestatic 18, 3) := by decide +kernel
theorem d_X1_count_8 : decode (qMc M_X1_count) 8 = .ok (.iconst 0, 1) := by decide +kernel
theorem d_X1_count_9 : decode (qMc M_X1_count) 9 = .ok (.istore 4, 2) := by decide +kernel
theorem d_X1_count_11 : decode (qMc M_X1_count) 11 = .ok (.iload 4, 2) := by decide +kernel
theorem d_X1_count_13 : decode (qMc M_X1_count) 13 = .ok (.bipush 8, 2) := by decide +kernel
theorem d_X1_count_15 : decode (qMc M_X1_count) 15 = .ok (.if_icmp .ge 20, 3) := by decide +kernel
theorem d_X1_count_18 : decode (qMc M_X1_count) 18 = .ok (.aload_n 0, 1) := by decide +kernel
theorem d_X1_count_19 : decode (qMc M_X1_count) 19 = .ok (.getfield 9, 3) := by decide +kernel
theorem d_X1_count_22 : decode (qMc M_X1_count) 22 = .ok (.bipush 64, 2) := by decide +kernel
theorem d_X1_count_24 : decode (qMc M_X1_count) 24 = .ok (.iload 4, 2) := by decide +kernel
theorem d_X1_count_26 : decode (qMc M_X1_count) 26 = .ok (.iadd, 1) := by decide +kernel
theorem d_X1_count_27 : decode (qMc M_X1_count) 27 = .ok (.lconst 1, 1) := by decide +kernel
theorem d_X1_count_28 : decode (qMc M_X1_count) 28 = .ok (.lastore, 1) := by decide +kernel
theorem d_X1_count_29 : decode (qMc M_X1_count) 29 = .ok (.iinc 4 1, 3) := by decide +kernel
theorem d_X1_count_32 : decode (qMc M_X1_count) 32 = .ok (.goto (-21), 3) := by decide +kernel
theorem d_X1_count_35 : decode (qMc M_X1_count) 35 = .ok (.iconst 0, 1) := by decide +kernel
theorem d_X1_count_36 : decode (qMc M_X1_count) 36 = .ok (.istore 4, 2) := by decide +kernel
theorem d_X1_count_38 : decode (qMc M_X1_count) 38 = .ok (.iload 4, 2) := by decide +kernel
theorem d_X1_count_40 : decode (qMc M_X1_count) 40 = .ok (.iload_n 2, 1) := by decide +kernel
theorem d_X1_count_41 : decode (qMc M_X1_count) 41 = .ok (.iconst 1, 1) := by decide +kernel
theorem d_X1_count_42 : decode (qMc M_X1_count) 42 = .ok (.isub, 1) := by decide +kernel
theorem d_X1_count_43 : decode (qMc M_X1_count) 43 = .ok (.if_icmp .ge 18, 3) := by decide +kernel
theorem d_X1_count_46 : decode (qMc M_X1_count) 46 = .ok (.aload_n 0, 1) := by decide +kernel
theorem d_X1_count_47 : decode (qMc M_X1_count) 47 = .ok (.aload_n 1, 1) := by decide +kernel
theorem d_X1_count_48 : decode (qMc M_X1_count) 48 = .ok (.iload 4, 2) := by decide +kernel
theorem d_X1_count_50 : decode (qMc M_X1_count) 50 = .ok (.iaload, 1) := by decide +kernel
theorem d_X1_count_51 : decode (qMc M_X1_count) 51 = .ok (.aload_n 3, 1) := by decide +kernel
theorem d_X1_count_52 : decode (qMc M_X1_count) 52 = .ok (.invokevirtual 24, 3) := by decide +kernel
theorem d_X1_count_55 : decode (qMc M_X1_count) 55 = .ok (.iinc 4 1, 3) := by decide +kernel
theorem d_X1_count_58 : decode (qMc M_X1_count) 58 = .ok (.goto (-20), 3) := by decide +kernel
theorem d_X1_count_61 : decode (qMc M_X1_count) 61 = .ok (.lconst 0, 1) := by decide +kernel
theorem d_X1_count_62 : decode (qMc M_X1_count) 62 = .ok (.lstore 4, 2) := by decide +kernel
theorem d_X1_count_64 : decode (qMc M_X1_count) 64 = .ok (.iconst 0, 1) := by decide +kernel
theorem d_X1_count_65 : decode (qMc M_X1_count) 65 = .ok (.istore 6, 2) := by decide +kernel
theorem d_X1_count_67 : decode (qMc M_X1_count) 67 = .ok (.iload 6, 2) := by decide +kernel
theorem d_X1_count_69 : decode (qMc M_X1_count) 69 = .ok (.bipush 72, 2) := by decide +kernel
theorem d_X1_count_71 : decode (qMc M_X1_count) 71 = .ok (.if_icmp .ge 46, 3) := by decide +kernel
theorem d_X1_count_74 : decode (qMc M_X1_count) 74 = .ok (.aload_n 3, 1) := by decide +kernel
theorem d_X1_count_75 : decode (qMc M_X1_count) 75 = .ok (.iload 6, 2) := by decide +kernel
theorem d_X1_count_77 : decode (qMc M_X1_count) 77 = .ok (.bipush 8, 2) := by decide +kernel
theorem d_X1_count_79 : decode (qMc M_X1_count) 79 = .ok (.irem, 1) := by decide +kernel
theorem d_X1_count_80 : decode (qMc M_X1_count) 80 = .ok (.iload 6, 2) := by decide +kernel
theorem d_X1_count_82 : decode (qMc M_X1_count) 82 = .ok (.bipush 8, 2) := by decide +kernel
theorem d_X1_count_84 : decode (qMc M_X1_count) 84 = .ok (.idiv, 1) := by decide +kernel
theorem d_X1_count_85 : decode (qMc M_X1_count) 85 = .ok (.bipush 8, 2) := by decide +kernel
theorem d_X1_count_87 : decode (qMc M_X1_count) 87 = .ok (.invokestatic 28, 3) := by decide +kernel
theorem d_X1_count_90 : decode (qMc M_X1_count) 90 = .ok (.iaload, 1) := by decide +kernel
theorem d_X1_count_91 : decode (qMc M_X1_count) 91 = .ok (.aload_n 1, 1) := by decide +kernel
theorem d_X1_count_92 : decode (qMc M_X1_count) 92 = .ok (.iload_n 2, 1) := by decide +kernel
theorem d_X1_count_93 : decode (qMc M_X1_count) 93 = .ok (.iconst 1, 1) := by decide +kernel
theorem d_X1_count_94 : decode (qMc M_X1_count) 94 = .ok (.isub, 1) := by decide +kernel
theorem d_X1_count_95 : decode (qMc M_X1_count) 95 = .ok (.iaload, 1) := by decide +kernel
theorem d_X1_count_96 : decode (qMc M_X1_count) 96 = .ok (.if_icmp .ne 15, 3) := by decide +kernel
theorem d_X1_count_99 : decode (qMc M_X1_count) 99 = .ok (.lload 4, 2) := by decide +kernel
theorem d_X1_count_101 : decode (qMc M_X1_count) 101 = .ok (.aload_n 0, 1) := by decide +kernel
theorem d_X1_count_102 : decode (qMc M_X1_count) 102 = .ok (.getfield 9, 3) := by decide +kernel
theorem d_X1_count_105 : decode (qMc M_X1_count) 105 = .ok (.iload 6, 2) := by decide +kernel
theorem d_X1_count_107 : decode (qMc M_X1_count) 107 = .ok (.laload, 1) := by decide +kernel
theorem d_X1_count_108 : decode (qMc M_X1_count) 108 = .ok (.ladd, 1) := by decide +kernel
theorem d_X1_count_109 : decode (qMc M_X1_count) 109 = .ok (.lstore 4, 2) := by decide +kernel
theorem d_X1_count_111 : decode (qMc M_X1_count) 111 = .ok (.iinc 6 1, 3) := by decide +kernel
theorem d_X1_count_114 : decode (qMc M_X1_count) 114 = .ok (.goto (-47), 3) := by decide +kernel
theorem d_X1_count_117 : decode (qMc M_X1_count) 117 = .ok (.lload 4, 2) := by decide +kernel
theorem d_X1_count_119 : decode (qMc M_X1_count) 119 = .ok (.ldc2_w 32, 3) := by decide +kernel
theorem d_X1_count_122 : decode (qMc M_X1_count) 122 = .ok (.lrem, 1) := by decide +kernel
theorem d_X1_count_123 : decode (qMc M_X1_count) 123 = .ok (.l2i, 1) := by decide +kernel
theorem d_X1_count_124 : decode (qMc M_X1_count) 124 = .ok (.ireturn, 1) := by decide +kernel
theorem d_X1_goRight_0 : decode (qMc M_X1_goRight) 0 = .ok (.aload_n 0, 1) := by decide +kernel
theorem d_X1_goRight_1 : decode (qMc M_X1_goRight) 1 = .ok (.getfield 15, 3) := by decide +kernel
theorem d_X1_goRight_4 : decode (qMc M_X1_goRight) 4 = .ok (.lconst 0, 1) := by decide +kernel
theorem d_X1_goRight_5 : decode (qMc M_X1_goRight) 5 = .ok (.invokestatic 18, 3) := by decide +kernel
theorem d_X1_goRight_8 : decode (qMc M_X1_goRight) 8 = .ok (.iconst 0, 1) := by decide +kernel
theorem d_X1_goRight_9 : decode (qMc M_X1_goRight) 9 = .ok (.istore_n 3, 1) := by decide +kernel
theorem d_X1_goRight_10 : decode (qMc M_X1_goRight) 10 = .ok (.iload_n 3, 1) := by decide +kernel
theorem d_X1_goRight_11 : decode (qMc M_X1_goRight) 11 = .ok (.bipush 72, 2) := by decide +kernel
theorem d_X1_goRight_13 : decode (qMc M_X1_goRight) 13 = .ok (.if_icmp .ge 94, 3) := by decide +kernel
theorem d_X1_goRight_16 : decode (qMc M_X1_goRight) 16 = .ok (.iload_n 3, 1) := by decide +kernel
theorem d_X1_goRight_17 : decode (qMc M_X1_goRight) 17 = .ok (.bipush 8, 2) := by decide +kernel
theorem d_X1_goRight_19 : decode (qMc M_X1_goRight) 19 = .ok (.irem, 1) := by decide +kernel
theorem d_X1_goRight_20 : decode (qMc M_X1_goRight) 20 = .ok (.istore 4, 2) := by decide +kernel
theorem d_X1_goRight_22 : decode (qMc M_X1_goRight) 22 = .ok (.iconst 0, 1) := by decide +kernel
theorem d_X1_goRight_23 : decode (qMc M_X1_goRight) 23 = .ok (.istore 5, 2) := by decide +kernel
theorem d_X1_goRight_25 : decode (qMc M_X1_goRight) 25 = .ok (.iload 5, 2) := by decide +kernel
theorem d_X1_goRight_27 : decode (qMc M_X1_goRight) 27 = .ok (.bipush 8, 2) := by decide +kernel
theorem d_X1_goRight_29 : decode (qMc M_X1_goRight) 29 = .ok (.if_icmp .ge 72, 3) := by decide +kernel
theorem d_X1_goRight_32 : decode (qMc M_X1_goRight) 32 = .ok (.aload_n 0, 1) := by decide +kernel
theorem d_X1_goRight_33 : decode (qMc M_X1_goRight) 33 = .ok (.getfield 9, 3) := by decide +kernel
theorem d_X1_goRight_36 : decode (qMc M_X1_goRight) 36 = .ok (.iload_n 3, 1) := by decide +kernel
theorem d_X1_goRight_37 : decode (qMc M_X1_goRight) 37 = .ok (.laload, 1) := by decide +kernel
theorem d_X1_goRight_38 : decode (qMc M_X1_goRight) 38 = .ok (.lconst 0, 1) := by decide +kernel
theorem d_X1_goRight_39 : decode (qMc M_X1_goRight) 39 = .ok (.lcmp, 1) := by decide +kernel
theorem d_X1_goRight_40 : decode (qMc M_X1_goRight) 40 = .ok (.ifCond .eq 61, 3) := by decide +kernel
theorem d_X1_goRight_43 : decode (qMc M_X1_goRight) 43 = .ok (.aload_n 2, 1) := by decide +kernel
theorem d_X1_goRight_44 : decode (qMc M_X1_goRight) 44 = .ok (.iload 4, 2) := by decide +kernel
theorem d_X1_goRight_46 : decode (qMc M_X1_goRight) 46 = .ok (.iload_n 3, 1) := by decide +kernel
theorem d_X1_goRight_47 : decode (qMc M_X1_goRight) 47 = .ok (.bipush 8, 2) := by decide +kernel
theorem d_X1_goRight_49 : decode (qMc M_X1_goRight) 49 = .ok (.idiv, 1) := by decide +kernel
theorem d_X1_goRight_50 : decode (qMc M_X1_goRight) 50 = .ok (.iload 5, 2) := by decide +kernel
theorem d_X1_goRight_52 : decode (qMc M_X1_goRight) 52 = .ok (.invokestatic 28, 3) := by decide +kernel
theorem d_X1_goRight_55 : decode (qMc M_X1_goRight) 55 = .ok (.iaload, 1) := by decide +kernel
theorem d_X1_goRight_56 : decode (qMc M_X1_goRight) 56 = .ok (.iload_n 1, 1) := by decide +kernel
theorem d_X1_goRight_57 : decode (qMc M_X1_goRight) 57 = .ok (.if_icmp .ne 38, 3) := by decide +kernel
theorem d_X1_goRight_60 : decode (qMc M_X1_goRight) 60 = .ok (.iload 4, 2) := by decide +kernel
theorem d_X1_goRight_62 : decode (qMc M_X1_goRight) 62 = .ok (.bipush 8, 2) := by decide +kernel
theorem d_X1_goRight_64 : decode (qMc M_X1_goRight) 64 = .ok (.imul, 1) := by decide +kernel
theorem d_X1_goRight_65 : decode (qMc M_X1_goRight) 65 = .ok (.iload 5, 2) := by decide +kernel
theorem d_X1_goRight_67 : decode (qMc M_X1_goRight) 67 = .ok (.iadd, 1) := by decide +kernel
theorem d_X1_goRight_68 : decode (qMc M_X1_goRight) 68 = .ok (.istore 6, 2) := by decide +kernel
theorem d_X1_goRight_70 : decode (qMc M_X1_goRight) 70 = .ok (.aload_n 0, 1) := by decide +kernel
theorem d_X1_goRight_71 : decode (qMc M_X1_goRight) 71 = .ok (.getfield 15, 3) := by decide +kernel
theorem d_X1_goRight_74 : decode (qMc M_X1_goRight) 74 = .ok (.iload 6, 2) := by decide +kernel
theorem d_X1_goRight_76 : decode (qMc M_X1_goRight) 76 = .ok (.aload_n 0, 1) := by decide +kernel
theorem d_X1_goRight_77 : decode (qMc M_X1_goRight) 77 = .ok (.getfield 15, 3) := by decide +kernel
theorem d_X1_goRight_80 : decode (qMc M_X1_goRight) 80 = .ok (.iload 6, 2) := by decide +kernel
theorem d_X1_goRight_82 : decode (qMc M_X1_goRight) 82 = .ok (.laload, 1) := by decide +kernel
theorem d_X1_goRight_83 : decode (qMc M_X1_goRight) 83 = .ok (.aload_n 0, 1) := by decide +kernel
theorem d_X1_goRight_84 : decode (qMc M_X1_goRight) 84 = .ok (.getfield 9, 3) := by decide +kernel
theorem d_X1_goRight_87 : decode (qMc M_X1_goRight) 87 = .ok (.iload_n 3, 1) := by decide +kernel
theorem d_X1_goRight_88 : decode (qMc M_X1_goRight) 88 = .ok (.laload, 1) := by decide +kernel
theorem d_X1_goRight_89 : decode (qMc M_X1_goRight) 89 = .ok (.ladd, 1) := by decide +kernel
theorem d_X1_goRight_90 : decode (qMc M_X1_goRight) 90 = .ok (.ldc2_w 32, 3) := by decide +kernel
theorem d_X1_goRight_93 : decode (qMc M_X1_goRight) 93 = .ok (.lrem, 1) := by decide +kernel
theorem d_X1_goRight_94 : decode (qMc M_X1_goRight) 94 = .ok (.lastore, 1) := by decide +kernel
theorem d_X1_goRight_95 : decode (qMc M_X1_goRight) 95 = .ok (.iinc 5 1, 3) := by decide +kernel
theorem d_X1_goRight_98 : decode (qMc M_X1_goRight) 98 = .ok (.goto (-73), 3) := by decide +kernel
theorem d_X1_goRight_101 : decode (qMc M_X1_goRight) 101 = .ok (.iinc 3 1, 3) := by decide +kernel
theorem d_X1_goRight_104 : decode (qMc M_X1_goRight) 104 = .ok (.goto (-94), 3) := by decide +kernel
theorem d_X1_goRight_107 : decode (qMc M_X1_goRight) 107 = .ok (.aload_n 0, 1) := by decide +kernel
theorem d_X1_goRight_108 : decode (qMc M_X1_goRight) 108 = .ok (.getfield 9, 3) := by decide +kernel
theorem d_X1_goRight_111 : decode (qMc M_X1_goRight) 111 = .ok (.astore_n 3, 1) := by decide +kernel
theorem d_X1_goRight_112 : decode (qMc M_X1_goRight) 112 = .ok (.aload_n 0, 1) := by decide +kernel
theorem d_X1_goRight_113 : decode (qMc M_X1_goRight) 113 = .ok (.aload_n 0, 1) := by decide +kernel
theorem d_X1_goRight_114 : decode (qMc M_X1_goRight) 114 = .ok (.getfield 15, 3) := by decide +kernel
theorem d_X1_goRight_117 : decode (qMc M_X1_goRight) 117 = .ok (.putfield 9, 3) := by decide +kernel
theorem d_X1_goRight_120 : decode (qMc M_X1_goRight) 120 = .ok (.aload_n 0, 1) := by decide +kernel
theorem d_X1_goRight_121 : decode (qMc M_X1_goRight) 121 = .ok (.aload_n 3, 1) := by decide +kernel
theorem d_X1_goRight_122 : decode (qMc M_X1_goRight) 122 = .ok (.putfield 15, 3) := by decide +kernel
theorem d_X1_goRight_125 : decode (qMc M_X1_goRight) 125 = .ok (.return_, 1) := by decide +kernel
theorem d_X2_init_0 : decode (qMc M_X2_init) 0 = .ok (.aload_n 0, 1) := by decide +kernel
theorem d_X2_init_1 : decode (qMc M_X2_init) 1 = .ok (.invokespecial 3, 3) := by decide +kernel
theorem d_X2_init_4 : decode (qMc M_X2_init) 4 = .ok (.aload_n 0, 1) := by decide +kernel
theorem d_X2_init_5 : decode (qMc M_X2_init) 5 = .ok (.bipush 9, 2) := by decide +kernel
theorem d_X2_init_7 : decode (qMc M_X2_init) 7 = .ok (.newarray .int, 2) := by decide +kernel
theorem d_X2_init_9 : decode (qMc M_X2_init) 9 = .ok (.putfield 9, 3) := by decide +kernel
theorem d_X2_init_12 : decode (qMc M_X2_init) 12 = .ok (.aload_n 0, 1) := by decide +kernel
theorem d_X2_init_13 : decode (qMc M_X2_init) 13 = .ok (.bipush 9, 2) := by decide +kernel
theorem d_X2_init_15 : decode (qMc M_X2_init) 15 = .ok (.newarray .int, 2) := by decide +kernel
theorem d_X2_init_17 : decode (qMc M_X2_init) 17 = .ok (.putfield 15, 3) := by decide +kernel
theorem d_X2_init_20 : decode (qMc M_X2_init) 20 = .ok (.aload_n 0, 1) := by decide +kernel
theorem d_X2_init_21 : decode (qMc M_X2_init) 21 = .ok (.bipush 9, 2) := by decide +kernel
theorem d_X2_init_23 : decode (qMc M_X2_init) 23 = .ok (.newarray .int, 2) := by decide +kernel
theorem d_X2_init_25 : decode (qMc M_X2_init) 25 = .ok (.putfield 18, 3) := by decide +kernel
theorem d_X2_init_28 : decode (qMc M_X2_init) 28 = .ok (.aload_n 0, 1) := by decide +kernel
theorem d_X2_init_29 : decode (qMc M_X2_init) 29 = .ok (.bipush 24, 2) := by decide +kernel
theorem d_X2_init_31 : decode (qMc M_X2_init) 31 = .ok (.newarray .int, 2) := by decide +kernel
theorem d_X2_init_33 : decode (qMc M_X2_init) 33 = .ok (.putfield 21, 3) := by decide +kernel
theorem d_X2_init_36 : decode (qMc M_X2_init) 36 = .ok (.aload_n 0, 1) := by decide +kernel
theorem d_X2_init_37 : decode (qMc M_X2_init) 37 = .ok (.iconst 0, 1) := by decide +kernel
theorem d_X2_init_38 : decode (qMc M_X2_init) 38 = .ok (.putfield 24, 3) := by decide +kernel
theorem d_X2_init_41 : decode (qMc M_X2_init) 41 = .ok (.return_, 1) := by decide +kernel
theorem d_X2_clear_0 : decode (qMc M_X2_clear) 0 = .ok (.aload_n 0, 1) := by decide +kernel
theorem d_X2_clear_1 : decode (qMc M_X2_clear) 1 = .ok (.getfield 9, 3) := by decide +kernel
theorem d_X2_clear_4 : decode (qMc M_X2_clear) 4 = .ok (.iconst 0, 1) := by decide +kernel
theorem d_X2_clear_5 : decode (qMc M_X2_clear) 5 = .ok (.invokestatic 28, 3) := by decide +kernel
theorem d_X2_clear_8 : decode (qMc M_X2_clear) 8 = .ok (.aload_n 0, 1) := by decide +kernel
theorem d_X2_clear_9 : decode (qMc M_X2_clear) 9 = .ok (.getfield 15, 3) := by decide +kernel
theorem d_X2_clear_12 : decode (qMc M_X2_clear) 12 = .ok (.iconst 0, 1) := by decide +kernel
theorem d_X2_clear_13 : decode (qMc M_X2_clear) 13 = .ok (.invokestatic 28, 3) := by decide +kernel
theorem d_X2_clear_16 : decode (qMc M_X2_clear) 16 = .ok (.aload_n 0, 1) := by decide +kernel
theorem d_X2_clear_17 : decode (qMc M_X2_clear) 17 = .ok (.getfield 18, 3) := by decide +kernel
theorem d_X2_clear_20 : decode (qMc M_X2_clear) 20 = .ok (.iconst 0, 1) := by decide +kernel
theorem d_X2_clear_21 : decode (qMc M_X2_clear) 21 = .ok (.invokestatic 28, 3) := by decide +kernel
theorem d_X2_clear_24 : decode (qMc M_X2_clear) 24 = .ok (.aload_n 0, 1) := by decide +kernel
theorem d_X2_clear_25 : decode (qMc M_X2_clear) 25 = .ok (.iconst 0, 1) := by decide +kernel
theorem d_X2_clear_26 : decode (qMc M_X2_clear) 26 = .ok (.putfield 24, 3) := by decide +kernel
theorem d_X2_clear_29 : decode (qMc M_X2_clear) 29 = .ok (.return_, 1) := by decide +kernel
theorem d_X2_copyFrom_0 : decode (qMc M_X2_copyFrom) 0 = .ok (.aload_n 1, 1) := by decide +kernel
theorem d_X2_copyFrom_1 : decode (qMc M_X2_copyFrom) 1 = .ok (.getfield 9, 3) := by decide +kernel
theorem d_X2_copyFrom_4 : decode (qMc M_X2_copyFrom) 4 = .ok (.iconst 0, 1) := by decide +kernel
theorem d_X2_copyFrom_5 : decode (qMc M_X2_copyFrom) 5 = .ok (.aload_n 0, 1) := by decide +kernel
theorem d_X2_copyFrom_6 : decode (qMc M_X2_copyFrom) 6 = .ok (.getfield 9, 3) := by decide +kernel
theorem d_X2_copyFrom_9 : decode (qMc M_X2_copyFrom) 9 = .ok (.iconst 0, 1) := by decide +kernel
theorem d_X2_copyFrom_10 : decode (qMc M_X2_copyFrom) 10 = .ok (.bipush 9, 2) := by decide +kernel
theorem d_X2_copyFrom_12 : decode (qMc M_X2_copyFrom) 12 = .ok (.invokestatic 34, 3) := by decide +kernel
theorem d_X2_copyFrom_15 : decode (qMc M_X2_copyFrom) 15 = .ok (.aload_n 1, 1) := by decide +kernel
theorem d_X2_copyFrom_16 : decode (qMc M_X2_copyFrom) 16 = .ok (.getfield 15, 3) := by decide +kernel
theorem d_X2_copyFrom_19 : decode (qMc M_X2_copyFrom) 19 = .ok (.iconst 0, 1) := by decide +kernel
theorem d_X2_copyFrom_20 : decode (qMc M_X2_copyFrom) 20 = .ok (.aload_n 0, 1) := by decide +kernel
theorem d_X2_copyFrom_21 : decode (qMc M_X2_copyFrom) 21 = .ok (.getfield 15, 3) := by decide +kernel
theorem d_X2_copyFrom_24 : decode (qMc M_X2_copyFrom) 24 = .ok (.iconst 0, 1) := by decide +kernel
theorem d_X2_copyFrom_25 : decode (qMc M_X2_copyFrom) 25 = .ok (.bipush 9, 2) := by decide +kernel
theorem d_X2_copyFrom_27 : decode (qMc M_X2_copyFrom) 27 = .ok (.invokestatic 34, 3) := by decide +kernel
theorem d_X2_copyFrom_30 : decode (qMc M_X2_copyFrom) 30 = .ok (.aload_n 1, 1) := by decide +kernel
theorem d_X2_copyFrom_31 : decode (qMc M_X2_copyFrom) 31 = .ok (.getfield 18, 3) := by decide +kernel
theorem d_X2_copyFrom_34 : decode (qMc M_X2_copyFrom) 34 = .ok (.iconst 0, 1) := by decide +kernel
theorem d_X2_copyFrom_35 : decode (qMc M_X2_copyFrom) 35 = .ok (.aload_n 0, 1) := by decide +kernel
theorem d_X2_copyFrom_36 : decode (qMc M_X2_copyFrom) 36 = .ok (.getfield 18, 3) := by decide +kernel
theorem d_X2_copyFrom_39 : decode (qMc M_X2_copyFrom) 39 = .ok (.iconst 0, 1) := by decide +kernel
theorem d_X2_copyFrom_40 : decode (qMc M_X2_copyFrom) 40 = .ok (.bipush 9, 2) := by decide +kernel
theorem d_X2_copyFrom_42 : decode (qMc M_X2_copyFrom) 42 = .ok (.invokestatic 34, 3) := by decide +kernel
theorem d_X2_copyFrom_45 : decode (qMc M_X2_copyFrom) 45 = .ok (.aload_n 1, 1) := by decide +kernel
theorem d_X2_copyFrom_46 : decode (qMc M_X2_copyFrom) 46 = .ok (.getfield 21, 3) := by decide +kernel
theorem d_X2_copyFrom_49 : decode (qMc M_X2_copyFrom) 49 = .ok (.iconst 0, 1) := by decide +kernel
theorem d_X2_copyFrom_50 : decode (qMc M_X2_copyFrom) 50 = .ok (.aload_n 0, 1) := by decide +kernel
theorem d_X2_copyFrom_51 : decode (qMc M_X2_copyFrom) 51 = .ok (.getfield 21, 3) := by decide +kernel
theorem d_X2_copyFrom_54 : decode (qMc M_X2_copyFrom) 54 = .ok (.iconst 0, 1) := by decide +kernel
theorem d_X2_copyFrom_55 : decode (qMc M_X2_copyFrom) 55 = .ok (.bipush 24, 2) := by decide +kernel
theorem d_X2_copyFrom_57 : decode (qMc M_X2_copyFrom) 57 = .ok (.invokestatic 34, 3) := by decide +kernel
theorem d_X2_copyFrom_60 : decode (qMc M_X2_copyFrom) 60 = .ok (.aload_n 0, 1) := by decide +kernel
theorem d_X2_copyFrom_61 : decode (qMc M_X2_copyFrom) 61 = .ok (.aload_n 1, 1) := by decide +kernel
theorem d_X2_copyFrom_62 : decode (qMc M_X2_copyFrom) 62 = .ok (.getfield 24, 3) := by decide +kernel
theorem d_X2_copyFrom_65 : decode (qMc M_X2_copyFrom) 65 = .ok (.putfield 24, 3) := by decide +kernel
theorem d_X2_copyFrom_68 : decode (qMc M_X2_copyFrom) 68 = .ok (.return_, 1) := by decide +kernel
theorem d_X2_has_0 : decode (qMc M_X2_has) 0 = .ok (.iload_n 1, 1) := by decide +kernel
theorem d_X2_has_1 : decode (qMc M_X2_has) 1 = .ok (.iconst 0, 1) := by decide +kernel
theorem d_X2_has_2 : decode (qMc M_X2_has) 2 = .ok (.aload_n 0, 1) := by decide +kernel
theorem d_X2_has_3 : decode (qMc M_X2_has) 3 = .ok (.getfield 24, 3) := by decide +kernel
theorem d_X2_has_6 : decode (qMc M_X2_has) 6 = .ok (.iconst 1, 1) := by decide +kernel
theorem d_X2_has_7 : decode (qMc M_X2_has) 7 = .ok (.isub, 1) := by decide +kernel
theorem d_X2_has_8 : decode (qMc M_X2_has) 8 = .ok (.invokestatic 40, 3) := by decide +kernel
theorem d_X2_has_11 : decode (qMc M_X2_has) 11 = .ok (.ireturn, 1) := by decide +kernel
theorem d_X2_add_0 : decode (qMc M_X2_add) 0 = .ok (.aload_n 0, 1) := by decide +kernel
theorem d_X2_add_1 : decode (qMc M_X2_add) 1 = .ok (.getfield 24, 3) := by decide +kernel
theorem d_X2_add_4 : decode (qMc M_X2_add) 4 = .ok (.bipush 24, 2) := by decide +kernel
theorem d_X2_add_6 : decode (qMc M_X2_add) 6 = .ok (.if_icmp .lt 4, 3) := by decide +kernel
theorem d_X2_add_9 : decode (qMc M_X2_add) 9 = .ok (.return_, 1) := by decide +kernel
theorem d_X2_add_10 : decode (qMc M_X2_add) 10 = .ok (.iconst 0, 1) := by decide +kernel
theorem d_X2_add_11 : decode (qMc M_X2_add) 11 = .ok (.istore 5, 2) := by decide +kernel
theorem d_X2_add_13 : decode (qMc M_X2_add) 13 = .ok (.iload 5, 2) := by decide +kernel
theorem d_X2_add_15 : decode (qMc M_X2_add) 15 = .ok (.bipush 9, 2) := by decide +kernel
theorem d_X2_add_17 : decode (qMc M_X2_add) 17 = .ok (.if_icmp .ge 72, 3) := by decide +kernel
theorem d_X2_add_20 : decode (qMc M_X2_add) 20 = .ok (.aload_n 0, 1) := by decide +kernel
theorem d_X2_add_21 : decode (qMc M_X2_add) 21 = .ok (.getfield 9, 3) := by decide +kernel
theorem d_X2_add_24 : decode (qMc M_X2_add) 24 = .ok (.iload 5, 2) := by decide +kernel
theorem d_X2_add_26 : decode (qMc M_X2_add) 26 = .ok (.dup2, 1) := by decide +kernel
theorem d_X2_add_27 : decode (qMc M_X2_add) 27 = .ok (.iaload, 1) := by decide +kernel
theorem d_X2_add_28 : decode (qMc M_X2_add) 28 = .ok (.iload_n 1, 1) := by decide +kernel
theorem d_X2_add_29 : decode (qMc M_X2_add) 29 = .ok (.iload 5, 2) := by decide +kernel
theorem d_X2_add_31 : decode (qMc M_X2_add) 31 = .ok (.ishr, 1) := by decide +kernel
theorem d_X2_add_32 : decode (qMc M_X2_add) 32 = .ok (.iconst 1, 1) := by decide +kernel
theorem d_X2_add_33 : decode (qMc M_X2_add) 33 = .ok (.iand, 1) := by decide +kernel
theorem d_X2_add_34 : decode (qMc M_X2_add) 34 = .ok (.aload_n 0, 1) := by decide +kernel
theorem d_X2_add_35 : decode (qMc M_X2_add) 35 = .ok (.getfield 24, 3) := by decide +kernel
theorem d_X2_add_38 : decode (qMc M_X2_add) 38 = .ok (.ishl, 1) := by decide +kernel
theorem d_X2_add_39 : decode (qMc M_X2_add) 39 = .ok (.ior, 1) := by decide +kernel
theorem d_X2_add_40 : decode (qMc M_X2_add) 40 = .ok (.iastore, 1) := by decide +kernel
theorem d_X2_add_41 : decode (qMc M_X2_add) 41 = .ok (.aload_n 0, 1) := by decide +kernel
theorem d_X2_add_42 : decode (qMc M_X2_add) 42 = .ok (.getfield 15, 3) := by decide +kernel
theorem d_X2_add_45 : decode (qMc M_X2_add) 45 = .ok (.iload 5, 2) := by decide +kernel
theorem d_X2_add_47 : decode (qMc M_X2_add) 47 = .ok (.dup2, 1) := by decide +kernel
theorem d_X2_add_48 : decode (qMc M_X2_add) 48 = .ok (.iaload, 1) := by decide +kernel
theorem d_X2_add_49 : decode (qMc M_X2_add) 49 = .ok (.iload_n 2, 1) := by decide +kernel
theorem d_X2_add_50 : decode (qMc M_X2_add) 50 = .ok (.iload 5, 2) := by decide +kernel
theorem d_X2_add_52 : decode (qMc M_X2_add) 52 = .ok (.ishr, 1) := by decide +kernel
theorem d_X2_add_53 : decode (qMc M_X2_add) 53 = .ok (.iconst 1, 1) := by decide +kernel
theorem d_X2_add_54 : decode (qMc M_X2_add) 54 = .ok (.iand, 1) := by decide +kernel
theorem d_X2_add_55 : decode (qMc M_X2_add) 55 = .ok (.aload_n 0, 1) := by decide +kernel
theorem d_X2_add_56 : decode (qMc M_X2_add) 56 = .ok (.getfield 24, 3) := by decide +kernel
theorem d_X2_add_59 : decode (qMc M_X2_add) 59 = .ok (.ishl, 1) := by decide +kernel
theorem d_X2_add_60 : decode (qMc M_X2_add) 60 = .ok (.ior, 1) := by decide +kernel
theorem d_X2_add_61 : decode (qMc M_X2_add) 61 = .ok (.iastore, 1) := by decide +kernel
theorem d_X2_add_62 : decode (qMc M_X2_add) 62 = .ok (.aload_n 0, 1) := by decide +kernel
theorem d_X2_add_63 : decode (qMc M_X2_add) 63 = .ok (.getfield 18, 3) := by decide +kernel
theorem d_X2_add_66 : decode (qMc M_X2_add) 66 = .ok (.iload 5, 2) := by decide +kernel
theorem d_X2_add_68 : decode (qMc M_X2_add) 68 = .ok (.dup2, 1) := by decide +kernel
theorem d_X2_add_69 : decode (qMc M_X2_add) 69 = .ok (.iaload, 1) := by decide +kernel
theorem d_X2_add_70 : decode (qMc M_X2_add) 70 = .ok (.iload_n 3, 1) := by decide +kernel
theorem d_X2_add_71 : decode (qMc M_X2_add) 71 = .ok (.iload 5, 2) := by decide +kernel
theorem d_X2_add_73 : decode (qMc M_X2_add) 73 = .ok (.ishr, 1) := by decide +kernel
theorem d_X2_add_74 : decode (qMc M_X2_add) 74 = .ok (.iconst 1, 1) := by decide +kernel
theorem d_X2_add_75 : decode (qMc M_X2_add) 75 = .ok (.iand, 1) := by decide +kernel
theorem d_X2_add_76 : decode (qMc M_X2_add) 76 = .ok (.aload_n 0, 1) := by decide +kernel
theorem d_X2_add_77 : decode (qMc M_X2_add) 77 = .ok (.getfield 24, 3) := by decide +kernel
theorem d_X2_add_80 : decode (qMc M_X2_add) 80 = .ok (.ishl, 1) := by decide +kernel
theorem d_X2_add_81 : decode (qMc M_X2_add) 81 = .ok (.ior, 1) := by decide +kernel
theorem d_X2_add_82 : decode (qMc M_X2_add) 82 = .ok (.iastore, 1) := by decide +kernel
theorem d_X2_add_83 : decode (qMc M_X2_add) 83 = .ok (.iinc 5 1, 3) := by decide +kernel
theorem d_X2_add_86 : decode (qMc M_X2_add) 86 = .ok (.goto (-73), 3) := by decide +kernel
theorem d_X2_add_89 : decode (qMc M_X2_add) 89 = .ok (.aload_n 0, 1) := by decide +kernel
theorem d_X2_add_90 : decode (qMc M_X2_add) 90 = .ok (.getfield 21, 3) := by decide +kernel
theorem d_X2_add_93 : decode (qMc M_X2_add) 93 = .ok (.aload_n 0, 1) := by decide +kernel
theorem d_X2_add_94 : decode (qMc M_X2_add) 94 = .ok (.getfield 24, 3) := by decide +kernel
theorem d_X2_add_97 : decode (qMc M_X2_add) 97 = .ok (.iload 4, 2) := by decide +kernel
theorem d_X2_add_99 : decode (qMc M_X2_add) 99 = .ok (.iastore, 1) := by decide +kernel
theorem d_X2_add_100 : decode (qMc M_X2_add) 100 = .ok (.aload_n 0, 1) := by decide +kernel
theorem d_X2_add_101 : decode (qMc M_X2_add) 101 = .ok (.dup, 1) := by decide +kernel
theorem d_X2_add_102 : decode (qMc M_X2_add) 102 = .ok (.getfield 24, 3) := by decide +kernel
theorem d_X2_add_105 : decode (qMc M_X2_add) 105 = .ok (.iconst 1, 1) := by decide +kernel
theorem d_X2_add_106 : decode (qMc M_X2_add) 106 = .ok (.iadd, 1) := by decide +kernel
theorem d_X2_add_107 : decode (qMc M_X2_add) 107 = .ok (.putfield 24, 3) := by decide +kernel
theorem d_X2_add_110 : decode (qMc M_X2_add) 110 = .ok (.return_, 1) := by decide +kernel
theorem d_X2_wearOut_0 : decode (qMc M_X2_wearOut) 0 = .ok (.iconst 0, 1) := by decide +kernel
theorem d_X2_wearOut_1 : decode (qMc M_X2_wearOut) 1 = .ok (.istore_n 2, 1) := by decide +kernel
theorem d_X2_wearOut_2 : decode (qMc M_X2_wearOut) 2 = .ok (.iload_n 2, 1) := by decide +kernel
theorem d_X2_wearOut_3 : decode (qMc M_X2_wearOut) 3 = .ok (.bipush 9, 2) := by decide +kernel
theorem d_X2_wearOut_5 : decode (qMc M_X2_wearOut) 5 = .ok (.if_icmp .ge 23, 3) := by decide +kernel
theorem d_X2_wearOut_8 : decode (qMc M_X2_wearOut) 8 = .ok (.aload_n 0, 1) := by decide +kernel
theorem d_X2_wearOut_9 : decode (qMc M_X2_wearOut) 9 = .ok (.getfield 9, 3) := by decide +kernel
theorem d_X2_wearOut_12 : decode (qMc M_X2_wearOut) 12 = .ok (.iload_n 2, 1) := by decide +kernel
theorem d_X2_wearOut_13 : decode (qMc M_X2_wearOut) 13 = .ok (.dup2, 1) := by decide +kernel
theorem d_X2_wearOut_14 : decode (qMc M_X2_wearOut) 14 = .ok (.iaload, 1) := by decide +kernel
theorem d_X2_wearOut_15 : decode (qMc M_X2_wearOut) 15 = .ok (.iconst 1, 1) := by decide +kernel
theorem d_X2_wearOut_16 : decode (qMc M_X2_wearOut) 16 = .ok (.iload_n 1, 1) := by decide +kernel
theorem d_X2_wearOut_17 : decode (qMc M_X2_wearOut) 17 = .ok (.ishl, 1) := by decide +kernel
theorem d_X2_wearOut_18 : decode (qMc M_X2_wearOut) 18 = .ok (.iconst (-1), 1) := by decide +kernel
theorem d_X2_wearOut_19 : decode (qMc M_X2_wearOut) 19 = .ok (.ixor, 1) := by decide +kernel
theorem d_X2_wearOut_20 : decode (qMc M_X2_wearOut) 20 = .ok (.iand, 1) := by decide +kernel
theorem d_X2_wearOut_21 : decode (qMc M_X2_wearOut) 21 = .ok (.iastore, 1) := by decide +kernel
theorem d_X2_wearOut_22 : decode (qMc M_X2_wearOut) 22 = .ok (.iinc 2 1, 3) := by decide +kernel
theorem d_X2_wearOut_25 : decode (qMc M_X2_wearOut) 25 = .ok (.goto (-23), 3) := by decide +kernel
theorem d_X2_wearOut_28 : decode (qMc M_X2_wearOut) 28 = .ok (.return_, 1) := by decide +kernel
theorem d_X2_firstFit_0 : decode (qMc M_X2_firstFit) 0 = .ok (.aload_n 0, 1) := by decide +kernel
theorem d_X2_firstFit_1 : decode (qMc M_X2_firstFit) 1 = .ok (.getfield 9, 3) := by decide +kernel
theorem d_X2_firstFit_4 : decode (qMc M_X2_firstFit) 4 = .ok (.iload_n 1, 1) := by decide +kernel
theorem d_X2_firstFit_5 : decode (qMc M_X2_firstFit) 5 = .ok (.iaload, 1) := by decide +kernel
theorem d_X2_firstFit_6 : decode (qMc M_X2_firstFit) 6 = .ok (.aload_n 0, 1) := by decide +kernel
theorem d_X2_firstFit_7 : decode (qMc M_X2_firstFit) 7 = .ok (.getfield 15, 3) := by decide +kernel
theorem d_X2_firstFit_10 : decode (qMc M_X2_firstFit) 10 = .ok (.iload_n 2, 1) := by decide +kernel
theorem d_X2_firstFit_11 : decode (qMc M_X2_firstFit) 11 = .ok (.iaload, 1) := by decide +kernel
theorem d_X2_firstFit_12 : decode (qMc M_X2_firstFit) 12 = .ok (.iand, 1) := by decide +kernel
theorem d_X2_firstFit_13 : decode (qMc M_X2_firstFit) 13 = .ok (.aload_n 0, 1) := by decide +kernel
theorem d_X2_firstFit_14 : decode (qMc M_X2_firstFit) 14 = .ok (.getfield 18, 3) := by decide +kernel
theorem d_X2_firstFit_17 : decode (qMc M_X2_firstFit) 17 = .ok (.iload_n 3, 1) := by decide +kernel
theorem d_X2_firstFit_18 : decode (qMc M_X2_firstFit) 18 = .ok (.iaload, 1) := by decide +kernel
theorem d_X2_firstFit_19 : decode (qMc M_X2_firstFit) 19 = .ok (.iand, 1) := by decide +kernel
theorem d_X2_firstFit_20 : decode (qMc M_X2_firstFit) 20 = .ok (.istore 4, 2) := by decide +kernel
theorem d_X2_firstFit_22 : decode (qMc M_X2_firstFit) 22 = .ok (.iload 4, 2) := by decide +kernel
theorem d_X2_firstFit_24 : decode (qMc M_X2_firstFit) 24 = .ok (.ifCond .ne 7, 3) := by decide +kernel
theorem d_X2_firstFit_27 : decode (qMc M_X2_firstFit) 27 = .ok (.iconst (-1), 1) := by decide +kernel
theorem d_X2_firstFit_28 : decode (qMc M_X2_firstFit) 28 = .ok (.goto 8, 3) := by decide +kernel
theorem d_X2_firstFit_31 : decode (qMc M_X2_firstFit) 31 = .ok (.iload 4, 2) := by decide +kernel
theorem d_X2_firstFit_33 : decode (qMc M_X2_firstFit) 33 = .ok (.invokestatic 44, 3) := by decide +kernel
theorem d_X2_firstFit_36 : decode (qMc M_X2_firstFit) 36 = .ok (.ireturn, 1) := by decide +kernel
theorem d_X2_mindBy_0 : decode (qMc M_X2_mindBy) 0 = .ok (.aload_n 0, 1) := by decide +kernel
theorem d_X2_mindBy_1 : decode (qMc M_X2_mindBy) 1 = .ok (.getfield 21, 3) := by decide +kernel
theorem d_X2_mindBy_4 : decode (qMc M_X2_mindBy) 4 = .ok (.iload_n 1, 1) := by decide +kernel
theorem d_X2_mindBy_5 : decode (qMc M_X2_mindBy) 5 = .ok (.iaload, 1) := by decide +kernel
theorem d_X2_mindBy_6 : decode (qMc M_X2_mindBy) 6 = .ok (.bipush 8, 2) := by decide +kernel
theorem d_X2_mindBy_8 : decode (qMc M_X2_mindBy) 8 = .ok (.if_icmp .ne 7, 3) := by decide +kernel
theorem d_X2_mindBy_11 : decode (qMc M_X2_mindBy) 11 = .ok (.iload_n 2, 1) := by decide +kernel
theorem d_X2_mindBy_12 : decode (qMc M_X2_mindBy) 12 = .ok (.goto 9, 3) := by decide +kernel
theorem d_X2_mindBy_15 : decode (qMc M_X2_mindBy) 15 = .ok (.aload_n 0, 1) := by decide +kernel
theorem d_X2_mindBy_16 : decode (qMc M_X2_mindBy) 16 = .ok (.getfield 21, 3) := by decide +kernel
theorem d_X2_mindBy_19 : decode (qMc M_X2_mindBy) 19 = .ok (.iload_n 1, 1) := by decide +kernel
theorem d_X2_mindBy_20 : decode (qMc M_X2_mindBy) 20 = .ok (.iaload, 1) := by decide +kernel
theorem d_X2_mindBy_21 : decode (qMc M_X2_mindBy) 21 = .ok (.ireturn, 1) := by decide +kernel
theorem d_X2_answer_0 : decode (qMc M_X2_answer) 0 = .ok (.aload_n 0, 1) := by decide +kernel
theorem d_X2_answer_1 : decode (qMc M_X2_answer) 1 = .ok (.iload_n 1, 1) := by decide +kernel
theorem d_X2_answer_2 : decode (qMc M_X2_answer) 2 = .ok (.iload_n 2, 1) := by decide +kernel
theorem d_X2_answer_3 : decode (qMc M_X2_answer) 3 = .ok (.iload_n 3, 1) := by decide +kernel
theorem d_X2_answer_4 : decode (qMc M_X2_answer) 4 = .ok (.invokevirtual 50, 3) := by decide +kernel
theorem d_X2_answer_7 : decode (qMc M_X2_answer) 7 = .ok (.istore 4, 2) := by decide +kernel
theorem d_X2_answer_9 : decode (qMc M_X2_answer) 9 = .ok (.iload 4, 2) := by decide +kernel
theorem d_X2_answer_11 : decode (qMc M_X2_answer) 11 = .ok (.iconst (-1), 1) := by decide +kernel
theorem d_X2_answer_12 : decode (qMc M_X2_answer) 12 = .ok (.if_icmp .ne 7, 3) := by decide +kernel
theorem d_X2_answer_15 : decode (qMc M_X2_answer) 15 = .ok (.iload_n 1, 1) := by decide +kernel
theorem d_X2_answer_16 : decode (qMc M_X2_answer) 16 = .ok (.goto 10, 3) := by decide +kernel
theorem d_X2_answer_19 : decode (qMc M_X2_answer) 19 = .ok (.aload_n 0, 1) := by decide +kernel
theorem d_X2_answer_20 : decode (qMc M_X2_answer) 20 = .ok (.iload 4, 2) := by decide +kernel
theorem d_X2_answer_22 : decode (qMc M_X2_answer) 22 = .ok (.iload_n 1, 1) := by decide +kernel
theorem d_X2_answer_23 : decode (qMc M_X2_answer) 23 = .ok (.invokevirtual 54, 3) := by decide +kernel
theorem d_X2_answer_26 : decode (qMc M_X2_answer) 26 = .ok (.ireturn, 1) := by decide +kernel
theorem d_X2_clashes_0 : decode (qMc M_X2_clashes) 0 = .ok (.aload_n 0, 1) := by decide +kernel
theorem d_X2_clashes_1 : decode (qMc M_X2_clashes) 1 = .ok (.getfield 15, 3) := by decide +kernel
theorem d_X2_clashes_4 : decode (qMc M_X2_clashes) 4 = .ok (.iload_n 1, 1) := by decide +kernel
theorem d_X2_clashes_5 : decode (qMc M_X2_clashes) 5 = .ok (.aload_n 2, 1) := by decide +kernel
theorem d_X2_clashes_6 : decode (qMc M_X2_clashes) 6 = .ok (.getfield 15, 3) := by decide +kernel
theorem d_X2_clashes_9 : decode (qMc M_X2_clashes) 9 = .ok (.iload_n 3, 1) := by decide +kernel
theorem d_X2_clashes_10 : decode (qMc M_X2_clashes) 10 = .ok (.invokestatic 58, 3) := by decide +kernel
theorem d_X2_clashes_13 : decode (qMc M_X2_clashes) 13 = .ok (.ifCond .eq 19, 3) := by decide +kernel
theorem d_X2_clashes_16 : decode (qMc M_X2_clashes) 16 = .ok (.aload_n 0, 1) := by decide +kernel
theorem d_X2_clashes_17 : decode (qMc M_X2_clashes) 17 = .ok (.getfield 18, 3) := by decide +kernel
theorem d_X2_clashes_20 : decode (qMc M_X2_clashes) 20 = .ok (.iload_n 1, 1) := by decide +kernel
theorem d_X2_clashes_21 : decode (qMc M_X2_clashes) 21 = .ok (.aload_n 2, 1) := by decide +kernel
theorem d_X2_clashes_22 : decode (qMc M_X2_clashes) 22 = .ok (.getfield 18, 3) := by decide +kernel
theorem d_X2_clashes_25 : decode (qMc M_X2_clashes) 25 = .ok (.iload_n 3, 1) := by decide +kernel
theorem d_X2_clashes_26 : decode (qMc M_X2_clashes) 26 = .ok (.invokestatic 58, 3) := by decide +kernel
theorem d_X2_clashes_29 : decode (qMc M_X2_clashes) 29 = .ok (.ifCond .ne 5, 3) := by decide +kernel
theorem d_X2_clashes_32 : decode (qMc M_X2_clashes) 32 = .ok (.iconst 0, 1) := by decide +kernel
theorem d_X2_clashes_33 : decode (qMc M_X2_clashes) 33 = .ok (.ireturn, 1) := by decide +kernel
theorem d_X2_clashes_34 : decode (qMc M_X2_clashes) 34 = .ok (.iconst 0, 1) := by decide +kernel
theorem d_X2_clashes_35 : decode (qMc M_X2_clashes) 35 = .ok (.istore 4, 2) := by decide +kernel
theorem d_X2_clashes_37 : decode (qMc M_X2_clashes) 37 = .ok (.iload 4, 2) := by decide +kernel
theorem d_X2_clashes_39 : decode (qMc M_X2_clashes) 39 = .ok (.bipush 7, 2) := by decide +kernel
theorem d_X2_clashes_41 : decode (qMc M_X2_clashes) 41 = .ok (.if_icmp .ge 64, 3) := by decide +kernel
theorem d_X2_clashes_44 : decode (qMc M_X2_clashes) 44 = .ok (.aload_n 0, 1) := by decide +kernel
theorem d_X2_clashes_45 : decode (qMc M_X2_clashes) 45 = .ok (.getfield 9, 3) := by decide +kernel
theorem d_X2_clashes_48 : decode (qMc M_X2_clashes) 48 = .ok (.iload 4, 2) := by decide +kernel
theorem d_X2_clashes_50 : decode (qMc M_X2_clashes) 50 = .ok (.iaload, 1) := by decide +kernel
theorem d_X2_clashes_51 : decode (qMc M_X2_clashes) 51 = .ok (.iload_n 1, 1) := by decide +kernel
theorem d_X2_clashes_52 : decode (qMc M_X2_clashes) 52 = .ok (.ishr, 1) := by decide +kernel
theorem d_X2_clashes_53 : decode (qMc M_X2_clashes) 53 = .ok (.aload_n 2, 1) := by decide +kernel
theorem d_X2_clashes_54 : decode (qMc M_X2_clashes) 54 = .ok (.getfield 9, 3) := by decide +kernel
theorem d_X2_clashes_57 : decode (qMc M_X2_clashes) 57 = .ok (.iload 4, 2) := by decide +kernel
theorem d_X2_clashes_59 : decode (qMc M_X2_clashes) 59 = .ok (.iaload, 1) := by decide +kernel
theorem d_X2_clashes_60 : decode (qMc M_X2_clashes) 60 = .ok (.iload_n 3, 1) := by decide +kernel
theorem d_X2_clashes_61 : decode (qMc M_X2_clashes) 61 = .ok (.ishr, 1) := by decide +kernel
theorem d_X2_clashes_62 : decode (qMc M_X2_clashes) 62 = .ok (.iand, 1) := by decide +kernel
theorem d_X2_clashes_63 : decode (qMc M_X2_clashes) 63 = .ok (.iconst 1, 1) := by decide +kernel
theorem d_X2_clashes_64 : decode (qMc M_X2_clashes) 64 = .ok (.iand, 1) := by decide +kernel
theorem d_X2_clashes_65 : decode (qMc M_X2_clashes) 65 = .ok (.ifCond .eq 7, 3) := by decide +kernel
theorem d_X2_clashes_68 : decode (qMc M_X2_clashes) 68 = .ok (.iconst 1, 1) := by decide +kernel
theorem d_X2_clashes_69 : decode (qMc M_X2_clashes) 69 = .ok (.goto 4, 3) := by decide +kernel
theorem d_X2_clashes_72 : decode (qMc M_X2_clashes) 72 = .ok (.iconst 0, 1) := by decide +kernel
theorem d_X2_clashes_73 : decode (qMc M_X2_clashes) 73 = .ok (.istore 5, 2) := by decide +kernel
theorem d_X2_clashes_75 : decode (qMc M_X2_clashes) 75 = .ok (.iload 5, 2) := by decide +kernel
theorem d_X2_clashes_77 : decode (qMc M_X2_clashes) 77 = .ok (.ifCond .eq 22, 3) := by decide +kernel
theorem d_X2_clashes_80 : decode (qMc M_X2_clashes) 80 = .ok (.aload_n 0, 1) := by decide +kernel
theorem d_X2_clashes_81 : decode (qMc M_X2_clashes) 81 = .ok (.iload_n 1, 1) := by decide +kernel
theorem d_X2_clashes_82 : decode (qMc M_X2_clashes) 82 = .ok (.iload 4, 2) := by decide +kernel
theorem d_X2_clashes_84 : decode (qMc M_X2_clashes) 84 = .ok (.invokevirtual 54, 3) := by decide +kernel
theorem d_X2_clashes_87 : decode (qMc M_X2_clashes) 87 = .ok (.aload_n 2, 1) := by decide +kernel
theorem d_X2_clashes_88 : decode (qMc M_X2_clashes) 88 = .ok (.iload_n 3, 1) := by decide +kernel
theorem d_X2_clashes_89 : decode (qMc M_X2_clashes) 89 = .ok (.iload 4, 2) := by decide +kernel
theorem d_X2_clashes_91 : decode (qMc M_X2_clashes) 91 = .ok (.invokevirtual 54, 3) := by decide +kernel
theorem d_X2_clashes_94 : decode (qMc M_X2_clashes) 94 = .ok (.if_icmp .eq 5, 3) := by decide +kernel
theorem d_X2_clashes_97 : decode (qMc M_X2_clashes) 97 = .ok (.iconst 1, 1) := by decide +kernel
theorem d_X2_clashes_98 : decode (qMc M_X2_clashes) 98 = .ok (.ireturn, 1) := by decide +kernel
theorem d_X2_clashes_99 : decode (qMc M_X2_clashes) 99 = .ok (.iinc 4 1, 3) := by decide +kernel
theorem d_X2_clashes_102 : decode (qMc M_X2_clashes) 102 = .ok (.goto (-65), 3) := by decide +kernel
theorem d_X2_clashes_105 : decode (qMc M_X2_clashes) 105 = .ok (.iconst 0, 1) := by decide +kernel
theorem d_X2_clashes_106 : decode (qMc M_X2_clashes) 106 = .ok (.ireturn, 1) := by decide +kernel
theorem d_X2_shareOne_0 : decode (qMc M_X2_shareOne) 0 = .ok (.iconst 0, 1) := by decide +kernel
theorem d_X2_shareOne_1 : decode (qMc M_X2_shareOne) 1 = .ok (.istore 4, 2) := by decide +kernel
theorem d_X2_shareOne_3 : decode (qMc M_X2_shareOne) 3 = .ok (.iload 4, 2) := by decide +kernel
theorem d_X2_shareOne_5 : decode (qMc M_X2_shareOne) 5 = .ok (.bipush 9, 2) := by decide +kernel
theorem d_X2_shareOne_7 : decode (qMc M_X2_shareOne) 7 = .ok (.if_icmp .ge 29, 3) := by decide +kernel
theorem d_X2_shareOne_10 : decode (qMc M_X2_shareOne) 10 = .ok (.aload_n 0, 1) := by decide +kernel
theorem d_X2_shareOne_11 : decode (qMc M_X2_shareOne) 11 = .ok (.iload 4, 2) := by decide +kernel
theorem d_X2_shareOne_13 : decode (qMc M_X2_shareOne) 13 = .ok (.iaload, 1) := by decide +kernel
theorem d_X2_shareOne_14 : decode (qMc M_X2_shareOne) 14 = .ok (.iload_n 1, 1) := by decide +kernel
theorem d_X2_shareOne_15 : decode (qMc M_X2_shareOne) 15 = .ok (.ishr, 1) := by decide +kernel
theorem d_X2_shareOne_16 : decode (qMc M_X2_shareOne) 16 = .ok (.aload_n 2, 1) := by decide +kernel
theorem d_X2_shareOne_17 : decode (qMc M_X2_shareOne) 17 = .ok (.iload 4, 2) := by decide +kernel
theorem d_X2_shareOne_19 : decode (qMc M_X2_shareOne) 19 = .ok (.iaload, 1) := by decide +kernel
theorem d_X2_shareOne_20 : decode (qMc M_X2_shareOne) 20 = .ok (.iload_n 3, 1) := by decide +kernel
theorem d_X2_shareOne_21 : decode (qMc M_X2_shareOne) 21 = .ok (.ishr, 1) := by decide +kernel
theorem d_X2_shareOne_22 : decode (qMc M_X2_shareOne) 22 = .ok (.iand, 1) := by decide +kernel
theorem d_X2_shareOne_23 : decode (qMc M_X2_shareOne) 23 = .ok (.iconst 1, 1) := by decide +kernel
theorem d_X2_shareOne_24 : decode (qMc M_X2_shareOne) 24 = .ok (.iand, 1) := by decide +kernel
theorem d_X2_shareOne_25 : decode (qMc M_X2_shareOne) 25 = .ok (.ifCond .eq 5, 3) := by decide +kernel
theorem d_X2_shareOne_28 : decode (qMc M_X2_shareOne) 28 = .ok (.iconst 1, 1) := by decide +kernel
theorem d_X2_shareOne_29 : decode (qMc M_X2_shareOne) 29 = .ok (.ireturn, 1) := by decide +kernel
theorem d_X2_shareOne_30 : decode (qMc M_X2_shareOne) 30 = .ok (.iinc 4 1, 3) := by decide +kernel
theorem d_X2_shareOne_33 : decode (qMc M_X2_shareOne) 33 = .ok (.goto (-30), 3) := by decide +kernel
theorem d_X2_shareOne_36 : decode (qMc M_X2_shareOne) 36 = .ok (.iconst 0, 1) := by decide +kernel
theorem d_X2_shareOne_37 : decode (qMc M_X2_shareOne) 37 = .ok (.ireturn, 1) := by decide +kernel
theorem d_X3_init_0 : decode (qMc M_X3_init) 0 = .ok (.aload_n 0, 1) := by decide +kernel
theorem d_X3_init_1 : decode (qMc M_X3_init) 1 = .ok (.invokespecial 1, 3) := by decide +kernel
theorem d_X3_init_4 : decode (qMc M_X3_init) 4 = .ok (.aload_n 0, 1) := by decide +kernel
theorem d_X3_init_5 : decode (qMc M_X3_init) 5 = .ok (.bipush 6, 2) := by decide +kernel
theorem d_X3_init_7 : decode (qMc M_X3_init) 7 = .ok (.anewarray 9, 3) := by decide +kernel
theorem d_X3_init_10 : decode (qMc M_X3_init) 10 = .ok (.putfield 11, 3) := by decide +kernel
theorem d_X3_init_13 : decode (qMc M_X3_init) 13 = .ok (.aload_n 0, 1) := by decide +kernel
theorem d_X3_init_14 : decode (qMc M_X3_init) 14 = .ok (.bipush 6, 2) := by decide +kernel
theorem d_X3_init_16 : decode (qMc M_X3_init) 16 = .ok (.newarray .int, 2) := by decide +kernel
theorem d_X3_init_18 : decode (qMc M_X3_init) 18 = .ok (.putfield 15, 3) := by decide +kernel
theorem d_X3_init_21 : decode (qMc M_X3_init) 21 = .ok (.aload_n 0, 1) := by decide +kernel
theorem d_X3_init_22 : decode (qMc M_X3_init) 22 = .ok (.iconst 0, 1) := by decide +kernel
theorem d_X3_init_23 : decode (qMc M_X3_init) 23 = .ok (.putfield 19, 3) := by decide +kernel
theorem d_X3_init_26 : decode (qMc M_X3_init) 26 = .ok (.aload_n 0, 1) := by decide +kernel
theorem d_X3_init_27 : decode (qMc M_X3_init) 27 = .ok (.iconst 0, 1) := by decide +kernel
theorem d_X3_init_28 : decode (qMc M_X3_init) 28 = .ok (.putfield 23, 3) := by decide +kernel
theorem d_X3_init_31 : decode (qMc M_X3_init) 31 = .ok (.iconst 0, 1) := by decide +kernel
theorem d_X3_init_32 : decode (qMc M_X3_init) 32 = .ok (.istore_n 1, 1) := by decide +kernel
theorem d_X3_init_33 : decode (qMc M_X3_init) 33 = .ok (.iload_n 1, 1) := by decide +kernel
theorem d_X3_init_34 : decode (qMc M_X3_init) 34 = .ok (.bipush 6, 2) := by decide +kernel
theorem d_X3_init_36 : decode (qMc M_X3_init) 36 = .ok (.if_icmp .ge 22, 3) := by decide +kernel
theorem d_X3_init_39 : decode (qMc M_X3_init) 39 = .ok (.aload_n 0, 1) := by decide +kernel
theorem d_X3_init_40 : decode (qMc M_X3_init) 40 = .ok (.getfield 11, 3) := by decide +kernel
theorem d_X3_init_43 : decode (qMc M_X3_init) 43 = .ok (.iload_n 1, 1) := by decide +kernel
theorem d_X3_init_44 : decode (qMc M_X3_init) 44 = .ok (.new 9, 3) := by decide +kernel
theorem d_X3_init_47 : decode (qMc M_X3_init) 47 = .ok (.dup, 1) := by decide +kernel
theorem d_X3_init_48 : decode (qMc M_X3_init) 48 = .ok (.invokespecial 26, 3) := by decide +kernel
theorem d_X3_init_51 : decode (qMc M_X3_init) 51 = .ok (.aastore, 1) := by decide +kernel
theorem d_X3_init_52 : decode (qMc M_X3_init) 52 = .ok (.iinc 1 1, 3) := by decide +kernel
theorem d_X3_init_55 : decode (qMc M_X3_init) 55 = .ok (.goto (-22), 3) := by decide +kernel
theorem d_X3_init_58 : decode (qMc M_X3_init) 58 = .ok (.return_, 1) := by decide +kernel
theorem d_X3_keep_0 : decode (qMc M_X3_keep) 0 = .ok (.aload_n 0, 1) := by decide +kernel
theorem d_X3_keep_1 : decode (qMc M_X3_keep) 1 = .ok (.aload_n 0, 1) := by decide +kernel
theorem d_X3_keep_2 : decode (qMc M_X3_keep) 2 = .ok (.getfield 19, 3) := by decide +kernel
theorem d_X3_keep_5 : decode (qMc M_X3_keep) 5 = .ok (.iconst 1, 1) := by decide +kernel
theorem d_X3_keep_6 : decode (qMc M_X3_keep) 6 = .ok (.iadd, 1) := by decide +kernel
theorem d_X3_keep_7 : decode (qMc M_X3_keep) 7 = .ok (.bipush 6, 2) := by decide +kernel
theorem d_X3_keep_9 : decode (qMc M_X3_keep) 9 = .ok (.irem, 1) := by decide +kernel
theorem d_X3_keep_10 : decode (qMc M_X3_keep) 10 = .ok (.putfield 19, 3) := by decide +kernel
theorem d_X3_keep_13 : decode (qMc M_X3_keep) 13 = .ok (.aload_n 0, 1) := by decide +kernel
theorem d_X3_keep_14 : decode (qMc M_X3_keep) 14 = .ok (.getfield 11, 3) := by decide +kernel
theorem d_X3_keep_17 : decode (qMc M_X3_keep) 17 = .ok (.aload_n 0, 1) := by decide +kernel
theorem d_X3_keep_18 : decode (qMc M_X3_keep) 18 = .ok (.getfield 19, 3) := by decide +kernel
theorem d_X3_keep_21 : decode (qMc M_X3_keep) 21 = .ok (.aaload, 1) := by decide +kernel
theorem d_X3_keep_22 : decode (qMc M_X3_keep) 22 = .ok (.aload_n 1, 1) := by decide +kernel
theorem d_X3_keep_23 : decode (qMc M_X3_keep) 23 = .ok (.getfield 27, 3) := by decide +kernel
theorem d_X3_keep_26 : decode (qMc M_X3_keep) 26 = .ok (.invokevirtual 33, 3) := by decide +kernel
theorem d_X3_keep_29 : decode (qMc M_X3_keep) 29 = .ok (.aload_n 0, 1) := by decide +kernel
theorem d_X3_keep_30 : decode (qMc M_X3_keep) 30 = .ok (.getfield 15, 3) := by decide +kernel
theorem d_X3_keep_33 : decode (qMc M_X3_keep) 33 = .ok (.aload_n 0, 1) := by decide +kernel
theorem d_X3_keep_34 : decode (qMc M_X3_keep) 34 = .ok (.getfield 19, 3) := by decide +kernel
theorem d_X3_keep_37 : decode (qMc M_X3_keep) 37 = .ok (.aload_n 1, 1) := by decide +kernel
theorem d_X3_keep_38 : decode (qMc M_X3_keep) 38 = .ok (.getfield 37, 3) := by decide +kernel
theorem d_X3_keep_41 : decode (qMc M_X3_keep) 41 = .ok (.getfield 41, 3) := by decide +kernel
theorem d_X3_keep_44 : decode (qMc M_X3_keep) 44 = .ok (.iastore, 1) := by decide +kernel
theorem d_X3_keep_45 : decode (qMc M_X3_keep) 45 = .ok (.aload_n 0, 1) := by decide +kernel
theorem d_X3_keep_46 : decode (qMc M_X3_keep) 46 = .ok (.aload_n 0, 1) := by decide +kernel
theorem d_X3_keep_47 : decode (qMc M_X3_keep) 47 = .ok (.getfield 23, 3) := by decide +kernel
theorem d_X3_keep_50 : decode (qMc M_X3_keep) 50 = .ok (.iconst 1, 1) := by decide +kernel
theorem d_X3_keep_51 : decode (qMc M_X3_keep) 51 = .ok (.iadd, 1) := by decide +kernel
theorem d_X3_keep_52 : decode (qMc M_X3_keep) 52 = .ok (.bipush 6, 2) := by decide +kernel
theorem d_X3_keep_54 : decode (qMc M_X3_keep) 54 = .ok (.invokestatic 44, 3) := by decide +kernel
theorem d_X3_keep_57 : decode (qMc M_X3_keep) 57 = .ok (.putfield 23, 3) := by decide +kernel
theorem d_X3_keep_60 : decode (qMc M_X3_keep) 60 = .ok (.return_, 1) := by decide +kernel
theorem d_X3_goBack_0 : decode (qMc M_X3_goBack) 0 = .ok (.aload_n 0, 1) := by decide +kernel
theorem d_X3_goBack_1 : decode (qMc M_X3_goBack) 1 = .ok (.getfield 23, 3) := by decide +kernel
theorem d_X3_goBack_4 : decode (qMc M_X3_goBack) 4 = .ok (.ifCond .ne 5, 3) := by decide +kernel
theorem d_X3_goBack_7 : decode (qMc M_X3_goBack) 7 = .ok (.iconst 0, 1) := by decide +kernel
theorem d_X3_goBack_8 : decode (qMc M_X3_goBack) 8 = .ok (.ireturn, 1) := by decide +kernel
theorem d_X3_goBack_9 : decode (qMc M_X3_goBack) 9 = .ok (.aload_n 1, 1) := by decide +kernel
theorem d_X3_goBack_10 : decode (qMc M_X3_goBack) 10 = .ok (.getfield 27, 3) := by decide +kernel
theorem d_X3_goBack_13 : decode (qMc M_X3_goBack) 13 = .ok (.aload_n 0, 1) := by decide +kernel
theorem d_X3_goBack_14 : decode (qMc M_X3_goBack) 14 = .ok (.getfield 11, 3) := by decide +kernel
theorem d_X3_goBack_17 : decode (qMc M_X3_goBack) 17 = .ok (.aload_n 0, 1) := by decide +kernel
theorem d_X3_goBack_18 : decode (qMc M_X3_goBack) 18 = .ok (.getfield 19, 3) := by decide +kernel
theorem d_X3_goBack_21 : decode (qMc M_X3_goBack) 21 = .ok (.aaload, 1) := by decide +kernel
theorem d_X3_goBack_22 : decode (qMc M_X3_goBack) 22 = .ok (.invokevirtual 33, 3) := by decide +kernel
theorem d_X3_goBack_25 : decode (qMc M_X3_goBack) 25 = .ok (.aload_n 1, 1) := by decide +kernel
theorem d_X3_goBack_26 : decode (qMc M_X3_goBack) 26 = .ok (.getfield 37, 3) := by decide +kernel
theorem d_X3_goBack_29 : decode (qMc M_X3_goBack) 29 = .ok (.aload_n 0, 1) := by decide +kernel
theorem d_X3_goBack_30 : decode (qMc M_X3_goBack) 30 = .ok (.getfield 15, 3) := by decide +kernel
theorem d_X3_goBack_33 : decode (qMc M_X3_goBack) 33 = .ok (.aload_n 0, 1) := by decide +kernel
theorem d_X3_goBack_34 : decode (qMc M_X3_goBack) 34 = .ok (.getfield 19, 3) := by decide +kernel
theorem d_X3_goBack_37 : decode (qMc M_X3_goBack) 37 = .ok (.iaload, 1) := by decide +kernel
theorem d_X3_goBack_38 : decode (qMc M_X3_goBack) 38 = .ok (.invokevirtual 50, 3) := by decide +kernel
theorem d_X3_goBack_41 : decode (qMc M_X3_goBack) 41 = .ok (.aload_n 0, 1) := by decide +kernel
theorem d_X3_goBack_42 : decode (qMc M_X3_goBack) 42 = .ok (.aload_n 0, 1) := by decide +kernel
theorem d_X3_goBack_43 : decode (qMc M_X3_goBack) 43 = .ok (.getfield 19, 3) := by decide +kernel
theorem d_X3_goBack_46 : decode (qMc M_X3_goBack) 46 = .ok (.bipush 6, 2) := by decide +kernel
theorem d_X3_goBack_48 : decode (qMc M_X3_goBack) 48 = .ok (.iadd, 1) := by decide +kernel
theorem d_X3_goBack_49 : decode (qMc M_X3_goBack) 49 = .ok (.iconst 1, 1) := by decide +kernel
theorem d_X3_goBack_50 : decode (qMc M_X3_goBack) 50 = .ok (.isub, 1) := by decide +kernel
theorem d_X3_goBack_51 : decode (qMc M_X3_goBack) 51 = .ok (.bipush 6, 2) := by decide +kernel
theorem d_X3_goBack_53 : decode (qMc M_X3_goBack) 53 = .ok (.irem, 1) := by decide +kernel
theorem d_X3_goBack_54 : decode (qMc M_X3_goBack) 54 = .ok (.putfield 19, 3) := by decide +kernel
theorem d_X3_goBack_57 : decode (qMc M_X3_goBack) 57 = .ok (.aload_n 0, 1) := by decide +kernel
theorem d_X3_goBack_58 : decode (qMc M_X3_goBack) 58 = .ok (.dup, 1) := by decide +kernel
theorem d_X3_goBack_59 : decode (qMc M_X3_goBack) 59 = .ok (.getfield 23, 3) := by decide +kernel
theorem d_X3_goBack_62 : decode (qMc M_X3_goBack) 62 = .ok (.iconst 1, 1) := by decide +kernel
theorem d_X3_goBack_63 : decode (qMc M_X3_goBack) 63 = .ok (.isub, 1) := by decide +kernel
theorem d_X3_goBack_64 : decode (qMc M_X3_goBack) 64 = .ok (.putfield 23, 3) := by decide +kernel
theorem d_X3_goBack_67 : decode (qMc M_X3_goBack) 67 = .ok (.iconst 1, 1) := by decide +kernel
theorem d_X3_goBack_68 : decode (qMc M_X3_goBack) 68 = .ok (.ireturn, 1) := by decide +kernel
theorem d_X3_forget_0 : decode (qMc M_X3_forget) 0 = .ok (.aload_n 0, 1) := by decide +kernel
theorem d_X3_forget_1 : decode (qMc M_X3_forget) 1 = .ok (.iconst 0, 1) := by decide +kernel
theorem d_X3_forget_2 : decode (qMc M_X3_forget) 2 = .ok (.putfield 23, 3) := by decide +kernel
theorem d_X3_forget_5 : decode (qMc M_X3_forget) 5 = .ok (.return_, 1) := by decide +kernel
theorem d_X4_init_0 : decode (qMc M_X4_init) 0 = .ok (.aload_n 0, 1) := by decide +kernel
theorem d_X4_init_1 : decode (qMc M_X4_init) 1 = .ok (.invokespecial 3, 3) := by decide +kernel
theorem d_X4_init_4 : decode (qMc M_X4_init) 4 = .ok (.aload_n 0, 1) := by decide +kernel
theorem d_X4_init_5 : decode (qMc M_X4_init) 5 = .ok (.sipush 400, 3) := by decide +kernel
theorem d_X4_init_8 : decode (qMc M_X4_init) 8 = .ok (.newarray .int, 2) := by decide +kernel
theorem d_X4_init_10 : decode (qMc M_X4_init) 10 = .ok (.putfield 11, 3) := by decide +kernel
theorem d_X4_init_13 : decode (qMc M_X4_init) 13 = .ok (.aload_n 0, 1) := by decide +kernel
theorem d_X4_init_14 : decode (qMc M_X4_init) 14 = .ok (.iconst 0, 1) := by decide +kernel
theorem d_X4_init_15 : decode (qMc M_X4_init) 15 = .ok (.putfield 15, 3) := by decide +kernel
theorem d_X4_init_18 : decode (qMc M_X4_init) 18 = .ok (.aload_n 0, 1) := by decide +kernel
theorem d_X4_init_19 : decode (qMc M_X4_init) 19 = .ok (.sipush 401, 3) := by decide +kernel
theorem d_X4_init_22 : decode (qMc M_X4_init) 22 = .ok (.newarray .int, 2) := by decide +kernel
theorem d_X4_init_24 : decode (qMc M_X4_init) 24 = .ok (.putfield 19, 3) := by decide +kernel
theorem d_X4_init_27 : decode (qMc M_X4_init) 27 = .ok (.aload_n 0, 1) := by decide +kernel
theorem d_X4_init_28 : decode (qMc M_X4_init) 28 = .ok (.sipush 401, 3) := by decide +kernel
theorem d_X4_init_31 : decode (qMc M_X4_init) 31 = .ok (.newarray .int, 2) := by decide +kernel
theorem d_X4_init_33 : decode (qMc M_X4_init) 33 = .ok (.putfield 22, 3) := by decide +kernel
theorem d_X4_init_36 : decode (qMc M_X4_init) 36 = .ok (.aload_n 0, 1) := by decide +kernel
theorem d_X4_init_37 : decode (qMc M_X4_init) 37 = .ok (.sipush 401, 3) := by decide +kernel
theorem d_X4_init_40 : decode (qMc M_X4_init) 40 = .ok (.newarray .int, 2) := by decide +kernel
theorem d_X4_init_42 : decode (qMc M_X4_init) 42 = .ok (.putfield 25, 3) := by decide +kernel
theorem d_X4_init_45 : decode (qMc M_X4_init) 45 = .ok (.aload_n 0, 1) := by decide +kernel
theorem d_X4_init_46 : decode (qMc M_X4_init) 46 = .ok (.iconst 0, 1) := by decide +kernel
theorem d_X4_init_47 : decode (qMc M_X4_init) 47 = .ok (.putfield 28, 3) := by decide +kernel
theorem d_X4_init_50 : decode (qMc M_X4_init) 50 = .ok (.aload_n 0, 1) := by decide +kernel
theorem d_X4_init_51 : decode (qMc M_X4_init) 51 = .ok (.iconst 0, 1) := by decide +kernel
theorem d_X4_init_52 : decode (qMc M_X4_init) 52 = .ok (.putfield 31, 3) := by decide +kernel
theorem d_X4_init_55 : decode (qMc M_X4_init) 55 = .ok (.aload_n 0, 1) := by decide +kernel
theorem d_X4_init_56 : decode (qMc M_X4_init) 56 = .ok (.iconst 0, 1) := by decide +kernel
theorem d_X4_init_57 : decode (qMc M_X4_init) 57 = .ok (.putfield 34, 3) := by decide +kernel
theorem d_X4_init_60 : decode (qMc M_X4_init) 60 = .ok (.aload_n 0, 1) := by decide +kernel
theorem d_X4_init_61 : decode (qMc M_X4_init) 61 = .ok (.iconst (-1), 1) := by decide +kernel
theorem d_X4_init_62 : decode (qMc M_X4_init) 62 = .ok (.putfield 37, 3) := by decide +kernel
theorem d_X4_init_65 : decode (qMc M_X4_init) 65 = .ok (.aload_n 0, 1) := by decide +kernel
theorem d_X4_init_66 : decode (qMc M_X4_init) 66 = .ok (.new 40, 3) := by decide +kernel
theorem d_X4_init_69 : decode (qMc M_X4_init) 69 = .ok (.dup, 1) := by decide +kernel
theorem d_X4_init_70 : decode (qMc M_X4_init) 70 = .ok (.invokespecial 42, 3) := by decide +kernel
theorem d_X4_init_73 : decode (qMc M_X4_init) 73 = .ok (.putfield 43, 3) := by decide +kernel
theorem d_X4_init_76 : decode (qMc M_X4_init) 76 = .ok (.aload_n 0, 1) := by decide +kernel
theorem d_X4_init_77 : decode (qMc M_X4_init) 77 = .ok (.new 47, 3) := by decide +kernel
theorem d_X4_init_80 : decode (qMc M_X4_init) 80 = .ok (.dup, 1) := by decide +kernel
theorem d_X4_init_81 : decode (qMc M_X4_init) 81 = .ok (.bipush 16, 2) := by decide +kernel
theorem d_X4_init_83 : decode (qMc M_X4_init) 83 = .ok (.invokespecial 49, 3) := by decide +kernel
theorem d_X4_init_86 : decode (qMc M_X4_init) 86 = .ok (.putfield 52, 3) := by decide +kernel
theorem d_X4_init_89 : decode (qMc M_X4_init) 89 = .ok (.return_, 1) := by decide +kernel
theorem d_X4_take_0 : decode (qMc M_X4_take) 0 = .ok (.aload_n 0, 1) := by decide +kernel
theorem d_X4_take_1 : decode (qMc M_X4_take) 1 = .ok (.getfield 15, 3) := by decide +kernel
theorem d_X4_take_4 : decode (qMc M_X4_take) 4 = .ok (.bipush 20, 2) := by decide +kernel
theorem d_X4_take_6 : decode (qMc M_X4_take) 6 = .ok (.iadd, 1) := by decide +kernel
theorem d_X4_take_7 : decode (qMc M_X4_take) 7 = .ok (.sipush 400, 3) := by decide +kernel
theorem d_X4_take_10 : decode (qMc M_X4_take) 10 = .ok (.if_icmp .le 5, 3) := by decide +kernel
theorem d_X4_take_13 : decode (qMc M_X4_take) 13 = .ok (.iconst (-1), 1) := by decide +kernel
theorem d_X4_take_14 : decode (qMc M_X4_take) 14 = .ok (.ireturn, 1) := by decide +kernel
theorem d_X4_take_15 : decode (qMc M_X4_take) 15 = .ok (.aload_n 0, 1) := by decide +kernel
theorem d_X4_take_16 : decode (qMc M_X4_take) 16 = .ok (.iload_n 1, 1) := by decide +kernel
theorem d_X4_take_17 : decode (qMc M_X4_take) 17 = .ok (.invokevirtual 56, 3) := by decide +kernel
theorem d_X4_take_20 : decode (qMc M_X4_take) 20 = .ok (.aload_n 0, 1) := by decide +kernel
theorem d_X4_take_21 : decode (qMc M_X4_take) 21 = .ok (.iload_n 2, 1) := by decide +kernel
theorem d_X4_take_22 : decode (qMc M_X4_take) 22 = .ok (.invokevirtual 56, 3) := by decide +kernel
theorem d_X4_take_25 : decode (qMc M_X4_take) 25 = .ok (.aload_n 0, 1) := by decide +kernel
theorem d_X4_take_26 : decode (qMc M_X4_take) 26 = .ok (.iload_n 3, 1) := by decide +kernel
theorem d_X4_take_27 : decode (qMc M_X4_take) 27 = .ok (.invokevirtual 56, 3) := by decide +kernel
theorem d_X4_take_30 : decode (qMc M_X4_take) 30 = .ok (.aload_n 0, 1) := by decide +kernel
theorem d_X4_take_31 : decode (qMc M_X4_take) 31 = .ok (.iload 4, 2) := by decide +kernel
theorem d_X4_take_33 : decode (qMc M_X4_take) 33 = .ok (.invokevirtual 56, 3) := by decide +kernel
theorem d_X4_take_36 : decode (qMc M_X4_take) 36 = .ok (.aload_n 0, 1) := by decide +kernel
theorem d_X4_take_37 : decode (qMc M_X4_take) 37 = .ok (.iload 5, 2) := by decide +kernel
theorem d_X4_take_39 : decode (qMc M_X4_take) 39 = .ok (.invokevirtual 56, 3) := by decide +kernel
theorem d_X4_take_42 : decode (qMc M_X4_take) 42 = .ok (.aload_n 0, 1) := by decide +kernel
theorem d_X4_take_43 : decode (qMc M_X4_take) 43 = .ok (.getfield 15, 3) := by decide +kernel
theorem d_X4_take_46 : decode (qMc M_X4_take) 46 = .ok (.ireturn, 1) := by decide +kernel
theorem d_X4_takeNumber_0 : decode (qMc M_X4_takeNumber) 0 = .ok (.bipush 24, 2) := by decide +kernel
theorem d_X4_takeNumber_2 : decode (qMc M_X4_takeNumber) 2 = .ok (.istore_n 2, 1) := by decide +kernel
theorem d_X4_takeNumber_3 : decode (qMc M_X4_takeNumber) 3 = .ok (.iload_n 2, 1) := by decide +kernel
theorem d_X4_takeNumber_4 : decode (qMc M_X4_takeNumber) 4 = .ok (.ifCond .lt 45, 3) := by decide +kernel
theorem d_X4_takeNumber_7 : decode (qMc M_X4_takeNumber) 7 = .ok (.aload_n 0, 1) := by decide +kernel
theorem d_X4_takeNumber_8 : decode (qMc M_X4_takeNumber) 8 = .ok (.getfield 15, 3) := by decide +kernel
theorem d_X4_takeNumber_11 : decode (qMc M_X4_takeNumber) 11 = .ok (.sipush 400, 3) := by decide +kernel
theorem d_X4_takeNumber_14 : decode (qMc M_X4_takeNumber) 14 = .ok (.if_icmp .ge 35, 3) := by decide +kernel
theorem d_X4_takeNumber_17 : decode (qMc M_X4_takeNumber) 17 = .ok (.aload_n 0, 1) := by decide +kernel
theorem d_X4_takeNumber_18 : decode (qMc M_X4_takeNumber) 18 = .ok (.getfield 11, 3) := by decide +kernel
theorem d_X4_takeNumber_21 : decode (qMc M_X4_takeNumber) 21 = .ok (.aload_n 0, 1) := by decide +kernel
theorem d_X4_takeNumber_22 : decode (qMc M_X4_takeNumber) 22 = .ok (.getfield 15, 3) := by decide +kernel
theorem d_X4_takeNumber_25 : decode (qMc M_X4_takeNumber) 25 = .ok (.iload_n 1, 1) := by decide +kernel
theorem d_X4_takeNumber_26 : decode (qMc M_X4_takeNumber) 26 = .ok (.iload_n 2, 1) := by decide +kernel
theorem d_X4_takeNumber_27 : decode (qMc M_X4_takeNumber) 27 = .ok (.iushr, 1) := by decide +kernel
theorem d_X4_takeNumber_28 : decode (qMc M_X4_takeNumber) 28 = .ok (.sipush 255, 3) := by decide +kernel
theorem d_X4_takeNumber_31 : decode (qMc M_X4_takeNumber) 31 = .ok (.iand, 1) := by decide +kernel
theorem d_X4_takeNumber_32 : decode (qMc M_X4_takeNumber) 32 = .ok (.iastore, 1) := by decide +kernel
theorem d_X4_takeNumber_33 : decode (qMc M_X4_takeNumber) 33 = .ok (.aload_n 0, 1) := by decide +kernel
theorem d_X4_takeNumber_34 : decode (qMc M_X4_takeNumber) 34 = .ok (.dup, 1) := by decide +kernel
theorem d_X4_takeNumber_35 : decode (qMc M_X4_takeNumber) 35 = .ok (.getfield 15, 3) := by decide +kernel
theorem d_X4_takeNumber_38 : decode (qMc M_X4_takeNumber) 38 = .ok (.iconst 1, 1) := by decide +kernel
theorem d_X4_takeNumber_39 : decode (qMc M_X4_takeNumber) 39 = .ok (.iadd, 1) := by decide +kernel
theorem d_X4_takeNumber_40 : decode (qMc M_X4_takeNumber) 40 = .ok (.putfield 15, 3) := by decide +kernel
theorem d_X4_takeNumber_43 : decode (qMc M_X4_takeNumber) 43 = .ok (.iinc 2 (-8), 3) := by decide +kernel
theorem d_X4_takeNumber_46 : decode (qMc M_X4_takeNumber) 46 = .ok (.goto (-43), 3) := by decide +kernel
theorem d_X4_takeNumber_49 : decode (qMc M_X4_takeNumber) 49 = .ok (.return_, 1) := by decide +kernel
theorem d_X4_cutTo_0 : decode (qMc M_X4_cutTo) 0 = .ok (.iload_n 1, 1) := by decide +kernel
theorem d_X4_cutTo_1 : decode (qMc M_X4_cutTo) 1 = .ok (.iconst 0, 1) := by decide +kernel
theorem d_X4_cutTo_2 : decode (qMc M_X4_cutTo) 2 = .ok (.aload_n 0, 1) := by decide +kernel
theorem d_X4_cutTo_3 : decode (qMc M_X4_cutTo) 3 = .ok (.getfield 15, 3) := by decide +kernel
theorem d_X4_cutTo_6 : decode (qMc M_X4_cutTo) 6 = .ok (.invokestatic 59, 3) := by decide +kernel
theorem d_X4_cutTo_9 : decode (qMc M_X4_cutTo) 9 = .ok (.ifCond .ne 5, 3) := by decide +kernel
theorem d_X4_cutTo_12 : decode (qMc M_X4_cutTo) 12 = .ok (.iconst 0, 1) := by decide +kernel
theorem d_X4_cutTo_13 : decode (qMc M_X4_cutTo) 13 = .ok (.ireturn, 1) := by decide +kernel
theorem d_X4_cutTo_14 : decode (qMc M_X4_cutTo) 14 = .ok (.aload_n 0, 1) := by decide +kernel
theorem d_X4_cutTo_15 : decode (qMc M_X4_cutTo) 15 = .ok (.iload_n 1, 1) := by decide +kernel
theorem d_X4_cutTo_16 : decode (qMc M_X4_cutTo) 16 = .ok (.putfield 15, 3) := by decide +kernel
theorem d_X4_cutTo_19 : decode (qMc M_X4_cutTo) 19 = .ok (.iconst 1, 1) := by decide +kernel
theorem d_X4_cutTo_20 : decode (qMc M_X4_cutTo) 20 = .ok (.ireturn, 1) := by decide +kernel
theorem d_X4_open_0 : decode (qMc M_X4_open) 0 = .ok (.aload_n 0, 1) := by decide +kernel
theorem d_X4_open_1 : decode (qMc M_X4_open) 1 = .ok (.iconst 0, 1) := by decide +kernel
theorem d_X4_open_2 : decode (qMc M_X4_open) 2 = .ok (.putfield 34, 3) := by decide +kernel
theorem d_X4_open_5 : decode (qMc M_X4_open) 5 = .ok (.aload_n 0, 1) := by decide +kernel
theorem d_X4_open_6 : decode (qMc M_X4_open) 6 = .ok (.iconst (-1), 1) := by decide +kernel
theorem d_X4_open_7 : decode (qMc M_X4_open) 7 = .ok (.putfield 37, 3) := by decide +kernel
theorem d_X4_open_10 : decode (qMc M_X4_open) 10 = .ok (.aload_n 0, 1) := by decide +kernel
theorem d_X4_open_11 : decode (qMc M_X4_open) 11 = .ok (.getfield 43, 3) := by decide +kernel
theorem d_X4_open_14 : decode (qMc M_X4_open) 14 = .ok (.invokevirtual 63, 3) := by decide +kernel
theorem d_X4_open_17 : decode (qMc M_X4_open) 17 = .ok (.aload_n 0, 1) := by decide +kernel
theorem d_X4_open_18 : decode (qMc M_X4_open) 18 = .ok (.getfield 52, 3) := by decide +kernel
theorem d_X4_open_21 : decode (qMc M_X4_open) 21 = .ok (.iconst 0, 1) := by decide +kernel
theorem d_X4_open_22 : decode (qMc M_X4_open) 22 = .ok (.invokevirtual 66, 3) := by decide +kernel
theorem d_X4_open_25 : decode (qMc M_X4_open) 25 = .ok (.aload_n 0, 1) := by decide +kernel
theorem d_X4_open_26 : decode (qMc M_X4_open) 26 = .ok (.invokevirtual 69, 3) := by decide +kernel
theorem d_X4_open_29 : decode (qMc M_X4_open) 29 = .ok (.aload_n 0, 1) := by decide +kernel
theorem d_X4_open_30 : decode (qMc M_X4_open) 30 = .ok (.iconst 0, 1) := by decide +kernel
theorem d_X4_open_31 : decode (qMc M_X4_open) 31 = .ok (.putfield 28, 3) := by decide +kernel
theorem d_X4_open_34 : decode (qMc M_X4_open) 34 = .ok (.aload_n 0, 1) := by decide +kernel
theorem d_X4_open_35 : decode (qMc M_X4_open) 35 = .ok (.aload_n 0, 1) := by decide +kernel
theorem d_X4_open_36 : decode (qMc M_X4_open) 36 = .ok (.getfield 19, 3) := by decide +kernel
theorem d_X4_open_39 : decode (qMc M_X4_open) 39 = .ok (.iconst 0, 1) := by decide +kernel
theorem d_X4_open_40 : decode (qMc M_X4_open) 40 = .ok (.iaload, 1) := by decide +kernel
theorem d_X4_open_41 : decode (qMc M_X4_open) 41 = .ok (.putfield 31, 3) := by decide +kernel
theorem d_X4_open_44 : decode (qMc M_X4_open) 44 = .ok (.return_, 1) := by decide +kernel
theorem d_X4_findTokens_0 : decode (qMc M_X4_findTokens) 0 = .ok (.iconst 0, 1) := by decide +kernel
theorem d_X4_findTokens_1 : decode (qMc M_X4_findTokens) 1 = .ok (.istore_n 1, 1) := by decide +kernel
theorem d_X4_findTokens_2 : decode (qMc M_X4_findTokens) 2 = .ok (.iconst 0, 1) := by decide +kernel
theorem d_X4_findTokens_3 : decode (qMc M_X4_findTokens) 3 = .ok (.istore_n 2, 1) := by decide +kernel
theorem d_X4_findTokens_4 : decode (qMc M_X4_findTokens) 4 = .ok (.iconst 0, 1) := by decide +kernel
theorem d_X4_findTokens_5 : decode (qMc M_X4_findTokens) 5 = .ok (.istore_n 3, 1) := by decide +kernel
theorem d_X4_findTokens_6 : decode (qMc M_X4_findTokens) 6 = .ok (.iload_n 3, 1) := by decide +kernel
theorem d_X4_findTokens_7 : decode (qMc M_X4_findTokens) 7 = .ok (.sipush 400, 3) := by decide +kernel
theorem d_X4_findTokens_10 : decode (qMc M_X4_findTokens) 10 = .ok (.if_icmp .ge 56, 3) := by decide +kernel
theorem d_X4_findTokens_13 : decode (qMc M_X4_findTokens) 13 = .ok (.iload_n 2, 1) := by decide +kernel
theorem d_X4_findTokens_14 : decode (qMc M_X4_findTokens) 14 = .ok (.aload_n 0, 1) := by decide +kernel
theorem d_X4_findTokens_15 : decode (qMc M_X4_findTokens) 15 = .ok (.getfield 15, 3) := by decide +kernel
theorem d_X4_findTokens_18 : decode (qMc M_X4_findTokens) 18 = .ok (.if_icmp .ge 48, 3) := by decide +kernel
theorem d_X4_findTokens_21 : decode (qMc M_X4_findTokens) 21 = .ok (.aload_n 0, 1) := by decide +kernel
theorem d_X4_findTokens_22 : decode (qMc M_X4_findTokens) 22 = .ok (.getfield 11, 3) := by decide +kernel
theorem d_X4_findTokens_25 : decode (qMc M_X4_findTokens) 25 = .ok (.iload_n 2, 1) := by decide +kernel
theorem d_X4_findTokens_26 : decode (qMc M_X4_findTokens) 26 = .ok (.iaload, 1) := by decide +kernel
theorem d_X4_findTokens_27 : decode (qMc M_X4_findTokens) 27 = .ok (.invokestatic 72, 3) := by decide +kernel
theorem d_X4_findTokens_30 : decode (qMc M_X4_findTokens) 30 = .ok (.ifCond .eq 9, 3) := by decide +kernel
theorem d_X4_findTokens_33 : decode (qMc M_X4_findTokens) 33 = .ok (.iinc 2 1, 3) := by decide +kernel
theorem d_X4_findTokens_36 : decode (qMc M_X4_findTokens) 36 = .ok (.goto 24, 3) := by decide +kernel
theorem d_X4_findTokens_39 : decode (qMc M_X4_findTokens) 39 = .ok (.aload_n 0, 1) := by decide +kernel
theorem d_X4_findTokens_40 : decode (qMc M_X4_findTokens) 40 = .ok (.iload_n 2, 1) := by decide +kernel
theorem d_X4_findTokens_41 : decode (qMc M_X4_findTokens) 41 = .ok (.invokevirtual 76, 3) := by decide +kernel
theorem d_X4_findTokens_44 : decode (qMc M_X4_findTokens) 44 = .ok (.istore 4, 2) := by decide +kernel
theorem d_X4_findTokens_46 : decode (qMc M_X4_findTokens) 46 = .ok (.aload_n 0, 1) := by decide +kernel
theorem d_X4_findTokens_47 : decode (qMc M_X4_findTokens) 47 = .ok (.iload_n 1, 1) := by decide +kernel
theorem d_X4_findTokens_48 : decode (qMc M_X4_findTokens) 48 = .ok (.iload_n 2, 1) := by decide +kernel
theorem d_X4_findTokens_49 : decode (qMc M_X4_findTokens) 49 = .ok (.iload 4, 2) := by decide +kernel
theorem d_X4_findTokens_51 : decode (qMc M_X4_findTokens) 51 = .ok (.invokevirtual 80, 3) := by decide +kernel
theorem d_X4_findTokens_54 : decode (qMc M_X4_findTokens) 54 = .ok (.iinc 1 1, 3) := by decide +kernel
theorem d_X4_findTokens_57 : decode (qMc M_X4_findTokens) 57 = .ok (.iload 4, 2) := by decide +kernel
theorem d_X4_findTokens_59 : decode (qMc M_X4_findTokens) 59 = .ok (.istore_n 2, 1) := by decide +kernel
theorem d_X4_findTokens_60 : decode (qMc M_X4_findTokens) 60 = .ok (.iinc 3 1, 3) := by decide +kernel
theorem d_X4_findTokens_63 : decode (qMc M_X4_findTokens) 63 = .ok (.goto (-57), 3) := by decide +kernel
theorem d_X4_findTokens_66 : decode (qMc M_X4_findTokens) 66 = .ok (.aload_n 0, 1) := by decide +kernel
theorem d_X4_findTokens_67 : decode (qMc M_X4_findTokens) 67 = .ok (.getfield 19, 3) := by decide +kernel
theorem d_X4_findTokens_70 : decode (qMc M_X4_findTokens) 70 = .ok (.iload_n 1, 1) := by decide +kernel
theorem d_X4_findTokens_71 : decode (qMc M_X4_findTokens) 71 = .ok (.iconst 0, 1) := by decide +kernel
theorem d_X4_findTokens_72 : decode (qMc M_X4_findTokens) 72 = .ok (.iastore, 1) := by decide +kernel
theorem d_X4_findTokens_73 : decode (qMc M_X4_findTokens) 73 = .ok (.aload_n 0, 1) := by decide +kernel
theorem d_X4_findTokens_74 : decode (qMc M_X4_findTokens) 74 = .ok (.getfield 22, 3) := by decide +kernel
theorem d_X4_findTokens_77 : decode (qMc M_X4_findTokens) 77 = .ok (.iload_n 1, 1) := by decide +kernel
theorem d_X4_findTokens_78 : decode (qMc M_X4_findTokens) 78 = .ok (.aload_n 0, 1) := by decide +kernel
theorem d_X4_findTokens_79 : decode (qMc M_X4_findTokens) 79 = .ok (.getfield 15, 3) := by decide +kernel
theorem d_X4_findTokens_82 : decode (qMc M_X4_findTokens) 82 = .ok (.iastore, 1) := by decide +kernel
theorem d_X4_findTokens_83 : decode (qMc M_X4_findTokens) 83 = .ok (.return_, 1) := by decide +kernel
theorem d_X4_behindToken_0 : decode (qMc M_X4_behindToken) 0 = .ok (.iload_n 1, 1) := by decide +kernel
theorem d_X4_behindToken_1 : decode (qMc M_X4_behindToken) 1 = .ok (.iconst 1, 1) := by decide +kernel
theorem d_X4_behindToken_2 : decode (qMc M_X4_behindToken) 2 = .ok (.iadd, 1) := by decide +kernel
theorem d_X4_behindToken_3 : decode (qMc M_X4_behindToken) 3 = .ok (.istore_n 2, 1) := by decide +kernel
theorem d_X4_behindToken_4 : decode (qMc M_X4_behindToken) 4 = .ok (.aload_n 0, 1) := by decide +kernel
theorem d_X4_behindToken_5 : decode (qMc M_X4_behindToken) 5 = .ok (.getfield 11, 3) := by decide +kernel
theorem d_X4_behindToken_8 : decode (qMc M_X4_behindToken) 8 = .ok (.iload_n 1, 1) := by decide +kernel
theorem d_X4_behindToken_9 : decode (qMc M_X4_behindToken) 9 = .ok (.iaload, 1) := by decide +kernel
theorem d_X4_behindToken_10 : decode (qMc M_X4_behindToken) 10 = .ok (.invokestatic 84, 3) := by decide +kernel
theorem d_X4_behindToken_13 : decode (qMc M_X4_behindToken) 13 = .ok (.istore_n 3, 1) := by decide +kernel
theorem d_X4_behindToken_14 : decode (qMc M_X4_behindToken) 14 = .ok (.aload_n 0, 1) := by decide +kernel
theorem d_X4_behindToken_15 : decode (qMc M_X4_behindToken) 15 = .ok (.getfield 11, 3) := by decide +kernel
theorem d_X4_behindToken_18 : decode (qMc M_X4_behindToken) 18 = .ok (.iload_n 1, 1) := by decide +kernel
theorem d_X4_behindToken_19 : decode (qMc M_X4_behindToken) 19 = .ok (.iaload, 1) := by decide +kernel
theorem d_X4_behindToken_20 : decode (qMc M_X4_behindToken) 20 = .ok (.invokestatic 87, 3) := by decide +kernel
theorem d_X4_behindToken_23 : decode (qMc M_X4_behindToken) 23 = .ok (.istore 4, 2) := by decide +kernel
theorem d_X4_behindToken_25 : decode (qMc M_X4_behindToken) 25 = .ok (.iload_n 2, 1) := by decide +kernel
theorem d_X4_behindToken_26 : decode (qMc M_X4_behindToken) 26 = .ok (.aload_n 0, 1) := by decide +kernel
theorem d_X4_behindToken_27 : decode (qMc M_X4_behindToken) 27 = .ok (.getfield 15, 3) := by decide +kernel
theorem d_X4_behindToken_30 : decode (qMc M_X4_behindToken) 30 = .ok (.if_icmp .ge 42, 3) := by decide +kernel
theorem d_X4_behindToken_33 : decode (qMc M_X4_behindToken) 33 = .ok (.iload_n 3, 1) := by decide +kernel
theorem d_X4_behindToken_34 : decode (qMc M_X4_behindToken) 34 = .ok (.ifCond .eq 15, 3) := by decide +kernel
theorem d_X4_behindToken_37 : decode (qMc M_X4_behindToken) 37 = .ok (.aload_n 0, 1) := by decide +kernel
theorem d_X4_behindToken_38 : decode (qMc M_X4_behindToken) 38 = .ok (.getfield 11, 3) := by decide +kernel
theorem d_X4_behindToken_41 : decode (qMc M_X4_behindToken) 41 = .ok (.iload_n 2, 1) := by decide +kernel
theorem d_X4_behindToken_42 : decode (qMc M_X4_behindToken) 42 = .ok (.iaload, 1) := by decide +kernel
theorem d_X4_behindToken_43 : decode (qMc M_X4_behindToken) 43 = .ok (.invokestatic 84, 3) := by decide +kernel
theorem d_X4_behindToken_46 : decode (qMc M_X4_behindToken) 46 = .ok (.ifCond .ne 20, 3) := by decide +kernel
theorem d_X4_behindToken_49 : decode (qMc M_X4_behindToken) 49 = .ok (.iload 4, 2) := by decide +kernel
theorem d_X4_behindToken_51 : decode (qMc M_X4_behindToken) 51 = .ok (.ifCond .eq 21, 3) := by decide +kernel
theorem d_X4_behindToken_54 : decode (qMc M_X4_behindToken) 54 = .ok (.aload_n 0, 1) := by decide +kernel
theorem d_X4_behindToken_55 : decode (qMc M_X4_behindToken) 55 = .ok (.getfield 11, 3) := by decide +kernel
theorem d_X4_behindToken_58 : decode (qMc M_X4_behindToken) 58 = .ok (.iload_n 2, 1) := by decide +kernel
theorem d_X4_behindToken_59 : decode (qMc M_X4_behindToken) 59 = .ok (.iaload, 1) := by decide +kernel
theorem d_X4_behindToken_60 : decode (qMc M_X4_behindToken) 60 = .ok (.invokestatic 87, 3) := by decide +kernel
theorem d_X4_behindToken_63 : decode (qMc M_X4_behindToken) 63 = .ok (.ifCond .eq 9, 3) := by decide +kernel
theorem d_X4_behindToken_66 : decode (qMc M_X4_behindToken) 66 = .ok (.iinc 2 1, 3) := by decide +kernel
theorem d_X4_behindToken_69 : decode (qMc M_X4_behindToken) 69 = .ok (.goto (-44), 3) := by decide +kernel
theorem d_X4_behindToken_72 : decode (qMc M_X4_behindToken) 72 = .ok (.iload_n 2, 1) := by decide +kernel
theorem d_X4_behindToken_73 : decode (qMc M_X4_behindToken) 73 = .ok (.ireturn, 1) := by decide +kernel
theorem d_X4_noteToken_0 : decode (qMc M_X4_noteToken) 0 = .ok (.aload_n 0, 1) := by decide +kernel
theorem d_X4_noteToken_1 : decode (qMc M_X4_noteToken) 1 = .ok (.getfield 22, 3) := by decide +kernel
theorem d_X4_noteToken_4 : decode (qMc M_X4_noteToken) 4 = .ok (.iload_n 1, 1) := by decide +kernel
theorem d_X4_noteToken_5 : decode (qMc M_X4_noteToken) 5 = .ok (.iload_n 2, 1) := by decide +kernel
theorem d_X4_noteToken_6 : decode (qMc M_X4_noteToken) 6 = .ok (.iastore, 1) := by decide +kernel
theorem d_X4_noteToken_7 : decode (qMc M_X4_noteToken) 7 = .ok (.aload_n 0, 1) := by decide +kernel
theorem d_X4_noteToken_8 : decode (qMc M_X4_noteToken) 8 = .ok (.getfield 25, 3) := by decide +kernel
theorem d_X4_noteToken_11 : decode (qMc M_X4_noteToken) 11 = .ok (.iload_n 1, 1) := by decide +kernel
theorem d_X4_noteToken_12 : decode (qMc M_X4_noteToken) 12 = .ok (.iconst 0, 1) := by decide +kernel
theorem d_X4_noteToken_13 : decode (qMc M_X4_noteToken) 13 = .ok (.iastore, 1) := by decide +kernel
theorem d_X4_noteToken_14 : decode (qMc M_X4_noteToken) 14 = .ok (.aload_n 0, 1) := by decide +kernel
theorem d_X4_noteToken_15 : decode (qMc M_X4_noteToken) 15 = .ok (.getfield 11, 3) := by decide +kernel
theorem d_X4_noteToken_18 : decode (qMc M_X4_noteToken) 18 = .ok (.iload_n 2, 1) := by decide +kernel
theorem d_X4_noteToken_19 : decode (qMc M_X4_noteToken) 19 = .ok (.iaload, 1) := by decide +kernel
theorem d_X4_noteToken_20 : decode (qMc M_X4_noteToken) 20 = .ok (.invokestatic 84, 3) := by decide +kernel
theorem d_X4_noteToken_23 : decode (qMc M_X4_noteToken) 23 = .ok (.ifCond .eq 18, 3) := by decide +kernel
theorem d_X4_noteToken_26 : decode (qMc M_X4_noteToken) 26 = .ok (.aload_n 0, 1) := by decide +kernel
theorem d_X4_noteToken_27 : decode (qMc M_X4_noteToken) 27 = .ok (.getfield 19, 3) := by decide +kernel
theorem d_X4_noteToken_30 : decode (qMc M_X4_noteToken) 30 = .ok (.iload_n 1, 1) := by decide +kernel
theorem d_X4_noteToken_31 : decode (qMc M_X4_noteToken) 31 = .ok (.aload_n 0, 1) := by decide +kernel
theorem d_X4_noteToken_32 : decode (qMc M_X4_noteToken) 32 = .ok (.iload_n 2, 1) := by decide +kernel
theorem d_X4_noteToken_33 : decode (qMc M_X4_noteToken) 33 = .ok (.iload_n 3, 1) := by decide +kernel
theorem d_X4_noteToken_34 : decode (qMc M_X4_noteToken) 34 = .ok (.invokevirtual 90, 3) := by decide +kernel
theorem d_X4_noteToken_37 : decode (qMc M_X4_noteToken) 37 = .ok (.iastore, 1) := by decide +kernel
theorem d_X4_noteToken_38 : decode (qMc M_X4_noteToken) 38 = .ok (.goto 77, 3) := by decide +kernel
theorem d_X4_noteToken_41 : decode (qMc M_X4_noteToken) 41 = .ok (.aload_n 0, 1) := by decide +kernel
theorem d_X4_noteToken_42 : decode (qMc M_X4_noteToken) 42 = .ok (.getfield 11, 3) := by decide +kernel
theorem d_X4_noteToken_45 : decode (qMc M_X4_noteToken) 45 = .ok (.iload_n 2, 1) := by decide +kernel
theorem d_X4_noteToken_46 : decode (qMc M_X4_noteToken) 46 = .ok (.iaload, 1) := by decide +kernel
theorem d_X4_noteToken_47 : decode (qMc M_X4_noteToken) 47 = .ok (.invokestatic 87, 3) := by decide +kernel
theorem d_X4_noteToken_50 : decode (qMc M_X4_noteToken) 50 = .ok (.ifCond .eq 50, 3) := by decide +kernel
theorem d_X4_noteToken_53 : decode (qMc M_X4_noteToken) 53 = .ok (.aload_n 0, 1) := by decide +kernel
theorem d_X4_noteToken_54 : decode (qMc M_X4_noteToken) 54 = .ok (.getfield 19, 3) := by decide +kernel
theorem d_X4_noteToken_57 : decode (qMc M_X4_noteToken) 57 = .ok (.iload_n 1, 1) := by decide +kernel
theorem d_X4_noteToken_58 : decode (qMc M_X4_noteToken) 58 = .ok (.iload_n 3, 1) := by decide +kernel
theorem d_X4_noteToken_59 : decode (qMc M_X4_noteToken) 59 = .ok (.iload_n 2, 1) := by decide +kernel
theorem d_X4_noteToken_60 : decode (qMc M_X4_noteToken) 60 = .ok (.isub, 1) := by decide +kernel
theorem d_X4_noteToken_61 : decode (qMc M_X4_noteToken) 61 = .ok (.iconst 4, 1) := by decide +kernel
theorem d_X4_noteToken_62 : decode (qMc M_X4_noteToken) 62 = .ok (.if_icmp .gt 7, 3) := by decide +kernel
theorem d_X4_noteToken_65 : decode (qMc M_X4_noteToken) 65 = .ok (.iconst 2, 1) := by decide +kernel
theorem d_X4_noteToken_66 : decode (qMc M_X4_noteToken) 66 = .ok (.goto 4, 3) := by decide +kernel
theorem d_X4_noteToken_69 : decode (qMc M_X4_noteToken) 69 = .ok (.iconst 1, 1) := by decide +kernel
theorem d_X4_noteToken_70 : decode (qMc M_X4_noteToken) 70 = .ok (.iastore, 1) := by decide +kernel
theorem d_X4_noteToken_71 : decode (qMc M_X4_noteToken) 71 = .ok (.aload_n 0, 1) := by decide +kernel
theorem d_X4_noteToken_72 : decode (qMc M_X4_noteToken) 72 = .ok (.getfield 25, 3) := by decide +kernel
theorem d_X4_noteToken_75 : decode (qMc M_X4_noteToken) 75 = .ok (.iload_n 1, 1) := by decide +kernel
theorem d_X4_noteToken_76 : decode (qMc M_X4_noteToken) 76 = .ok (.aload_n 0, 1) := by decide +kernel
theorem d_X4_noteToken_77 : decode (qMc M_X4_noteToken) 77 = .ok (.getfield 19, 3) := by decide +kernel
theorem d_X4_noteToken_80 : decode (qMc M_X4_noteToken) 80 = .ok (.iload_n 1, 1) := by decide +kernel
theorem d_X4_noteToken_81 : decode (qMc M_X4_noteToken) 81 = .ok (.iaload, 1) := by decide +kernel
theorem d_X4_noteToken_82 : decode (qMc M_X4_noteToken) 82 = .ok (.iconst 2, 1) := by decide +kernel
theorem d_X4_noteToken_83 : decode (qMc M_X4_noteToken) 83 = .ok (.if_icmp .ne 12, 3) := by decide +kernel
theorem d_X4_noteToken_86 : decode (qMc M_X4_noteToken) 86 = .ok (.aload_n 0, 1) := by decide +kernel
theorem d_X4_noteToken_87 : decode (qMc M_X4_noteToken) 87 = .ok (.iload_n 2, 1) := by decide +kernel
theorem d_X4_noteToken_88 : decode (qMc M_X4_noteToken) 88 = .ok (.iload_n 3, 1) := by decide +kernel
theorem d_X4_noteToken_89 : decode (qMc M_X4_noteToken) 89 = .ok (.invokevirtual 94, 3) := by decide +kernel
theorem d_X4_noteToken_92 : decode (qMc M_X4_noteToken) 92 = .ok (.goto 4, 3) := by decide +kernel
theorem d_X4_noteToken_95 : decode (qMc M_X4_noteToken) 95 = .ok (.iconst 0, 1) := by decide +kernel
theorem d_X4_noteToken_96 : decode (qMc M_X4_noteToken) 96 = .ok (.iastore, 1) := by decide +kernel
theorem d_X4_noteToken_97 : decode (qMc M_X4_noteToken) 97 = .ok (.goto 18, 3) := by decide +kernel
theorem d_X4_noteToken_100 : decode (qMc M_X4_noteToken) 100 = .ok (.aload_n 0, 1) := by decide +kernel
theorem d_X4_noteToken_101 : decode (qMc M_X4_noteToken) 101 = .ok (.getfield 19, 3) := by decide +kernel
theorem d_X4_noteToken_104 : decode (qMc M_X4_noteToken) 104 = .ok (.iload_n 1, 1) := by decide +kernel
theorem d_X4_noteToken_105 : decode (qMc M_X4_noteToken) 105 = .ok (.aload_n 0, 1) := by decide +kernel
theorem d_X4_noteToken_106 : decode (qMc M_X4_noteToken) 106 = .ok (.getfield 11, 3) := by decide +kernel
theorem d_X4_noteToken_109 : decode (qMc M_X4_noteToken) 109 = .ok (.iload_n 2, 1) := by decide +kernel
theorem d_X4_noteToken_110 : decode (qMc M_X4_noteToken) 110 = .ok (.iaload, 1) := by decide +kernel
theorem d_X4_noteToken_111 : decode (qMc M_X4_noteToken) 111 = .ok (.invokestatic 97, 3) := by decide +kernel
theorem d_X4_noteToken_114 : decode (qMc M_X4_noteToken) 114 = .ok (.iastore, 1) := by decide +kernel
theorem d_X4_noteToken_115 : decode (qMc M_X4_noteToken) 115 = .ok (.return_, 1) := by decide +kernel
theorem d_X4_kindOfWord_0 : decode (qMc M_X4_kindOfWord) 0 = .ok (.iconst 0, 1) := by decide +kernel
theorem d_X4_kindOfWord_1 : decode (qMc M_X4_kindOfWord) 1 = .ok (.istore_n 3, 1) := by decide +kernel
theorem d_X4_kindOfWord_2 : decode (qMc M_X4_kindOfWord) 2 = .ok (.iload_n 3, 1) := by decide +kernel
theorem d_X4_kindOfWord_3 : decode (qMc M_X4_kindOfWord) 3 = .ok (.bipush 13, 2) := by decide +kernel
theorem d_X4_kindOfWord_5 : decode (qMc M_X4_kindOfWord) 5 = .ok (.if_icmp .ge 32, 3) := by decide +kernel
theorem d_X4_kindOfWord_8 : decode (qMc M_X4_kindOfWord) 8 = .ok (.iload_n 2, 1) := by decide +kernel
theorem d_X4_kindOfWord_9 : decode (qMc M_X4_kindOfWord) 9 = .ok (.iload_n 1, 1) := by decide +kernel
theorem d_X4_kindOfWord_10 : decode (qMc M_X4_kindOfWord) 10 = .ok (.isub, 1) := by decide +kernel
theorem d_X4_kindOfWord_11 : decode (qMc M_X4_kindOfWord) 11 = .ok (.bipush 7, 2) := by decide +kernel
theorem d_X4_kindOfWord_13 : decode (qMc M_X4_kindOfWord) 13 = .ok (.if_icmp .ge 24, 3) := by decide +kernel
theorem d_X4_kindOfWord_16 : decode (qMc M_X4_kindOfWord) 16 = .ok (.aload_n 0, 1) := by decide +kernel
theorem d_X4_kindOfWord_17 : decode (qMc M_X4_kindOfWord) 17 = .ok (.iload_n 3, 1) := by decide +kernel
theorem d_X4_kindOfWord_18 : decode (qMc M_X4_kindOfWord) 18 = .ok (.iload_n 1, 1) := by decide +kernel
theorem d_X4_kindOfWord_19 : decode (qMc M_X4_kindOfWord) 19 = .ok (.iload_n 2, 1) := by decide +kernel
theorem d_X4_kindOfWord_20 : decode (qMc M_X4_kindOfWord) 20 = .ok (.invokevirtual 100, 3) := by decide +kernel
theorem d_X4_kindOfWord_23 : decode (qMc M_X4_kindOfWord) 23 = .ok (.ifCond .eq 8, 3) := by decide +kernel
theorem d_X4_kindOfWord_26 : decode (qMc M_X4_kindOfWord) 26 = .ok (.bipush 6, 2) := by decide +kernel
theorem d_X4_kindOfWord_28 : decode (qMc M_X4_kindOfWord) 28 = .ok (.iload_n 3, 1) := by decide +kernel
theorem d_X4_kindOfWord_29 : decode (qMc M_X4_kindOfWord) 29 = .ok (.iadd, 1) := by decide +kernel
theorem d_X4_kindOfWord_30 : decode (qMc M_X4_kindOfWord) 30 = .ok (.ireturn, 1) := by decide +kernel
theorem d_X4_kindOfWord_31 : decode (qMc M_X4_kindOfWord) 31 = .ok (.iinc 3 1, 3) := by decide +kernel
theorem d_X4_kindOfWord_34 : decode (qMc M_X4_kindOfWord) 34 = .ok (.goto (-32), 3) := by decide +kernel
theorem d_X4_kindOfWord_37 : decode (qMc M_X4_kindOfWord) 37 = .ok (.iconst 1, 1) := by decide +kernel
theorem d_X4_kindOfWord_38 : decode (qMc M_X4_kindOfWord) 38 = .ok (.ireturn, 1) := by decide +kernel
theorem d_X4_spells_0 : decode (qMc M_X4_spells) 0 = .ok (.iconst 0, 1) := by decide +kernel
theorem d_X4_spells_1 : decode (qMc M_X4_spells) 1 = .ok (.istore 4, 2) := by decide +kernel
theorem d_X4_spells_3 : decode (qMc M_X4_spells) 3 = .ok (.iload 4, 2) := by decide +kernel
theorem d_X4_spells_5 : decode (qMc M_X4_spells) 5 = .ok (.bipush 7, 2) := by decide +kernel
theorem d_X4_spells_7 : decode (qMc M_X4_spells) 7 = .ok (.if_icmp .ge 52, 3) := by decide +kernel
theorem d_X4_spells_10 : decode (qMc M_X4_spells) 10 = .ok (.iload_n 2, 1) := by decide +kernel
theorem d_X4_spells_11 : decode (qMc M_X4_spells) 11 = .ok (.iload 4, 2) := by decide +kernel
theorem d_X4_spells_13 : decode (qMc M_X4_spells) 13 = .ok (.iadd, 1) := by decide +kernel
theorem d_X4_spells_14 : decode (qMc M_X4_spells) 14 = .ok (.iload_n 3, 1) := by decide +kernel
theorem d_X4_spells_15 : decode (qMc M_X4_spells) 15 = .ok (.if_icmp .ge 15, 3) := by decide +kernel
theorem d_X4_spells_18 : decode (qMc M_X4_spells) 18 = .ok (.aload_n 0, 1) := by decide +kernel
theorem d_X4_spells_19 : decode (qMc M_X4_spells) 19 = .ok (.getfield 11, 3) := by decide +kernel
theorem d_X4_spells_22 : decode (qMc M_X4_spells) 22 = .ok (.iload_n 2, 1) := by decide +kernel
theorem d_X4_spells_23 : decode (qMc M_X4_spells) 23 = .ok (.iload 4, 2) := by decide +kernel
theorem d_X4_spells_25 : decode (qMc M_X4_spells) 25 = .ok (.iadd, 1) := by decide +kernel
theorem d_X4_spells_26 : decode (qMc M_X4_spells) 26 = .ok (.iaload, 1) := by decide +kernel
theorem d_X4_spells_27 : decode (qMc M_X4_spells) 27 = .ok (.goto 5, 3) := by decide +kernel
theorem d_X4_spells_30 : decode (qMc M_X4_spells) 30 = .ok (.bipush 32, 2) := by decide +kernel
theorem d_X4_spells_32 : decode (qMc M_X4_spells) 32 = .ok (.istore 5, 2) := by decide +kernel
theorem d_X4_spells_34 : decode (qMc M_X4_spells) 34 = .ok (.ldc 103, 2) := by decide +kernel
theorem d_X4_spells_36 : decode (qMc M_X4_spells) 36 = .ok (.iload_n 1, 1) := by decide +kernel
theorem d_X4_spells_37 : decode (qMc M_X4_spells) 37 = .ok (.bipush 7, 2) := by decide +kernel
theorem d_X4_spells_39 : decode (qMc M_X4_spells) 39 = .ok (.imul, 1) := by decide +kernel
theorem d_X4_spells_40 : decode (qMc M_X4_spells) 40 = .ok (.iload 4, 2) := by decide +kernel
theorem d_X4_spells_42 : decode (qMc M_X4_spells) 42 = .ok (.iadd, 1) := by decide +kernel
theorem d_X4_spells_43 : decode (qMc M_X4_spells) 43 = .ok (.invokevirtual 105, 3) := by decide +kernel
theorem d_X4_spells_46 : decode (qMc M_X4_spells) 46 = .ok (.iload 5, 2) := by decide +kernel
theorem d_X4_spells_48 : decode (qMc M_X4_spells) 48 = .ok (.if_icmp .eq 5, 3) := by decide +kernel
theorem d_X4_spells_51 : decode (qMc M_X4_spells) 51 = .ok (.iconst 0, 1) := by decide +kernel
theorem d_X4_spells_52 : decode (qMc M_X4_spells) 52 = .ok (.ireturn, 1) := by decide +kernel
theorem d_X4_spells_53 : decode (qMc M_X4_spells) 53 = .ok (.iinc 4 1, 3) := by decide +kernel
theorem d_X4_spells_56 : decode (qMc M_X4_spells) 56 = .ok (.goto (-53), 3) := by decide +kernel
theorem d_X4_spells_59 : decode (qMc M_X4_spells) 59 = .ok (.iconst 1, 1) := by decide +kernel
theorem d_X4_spells_60 : decode (qMc M_X4_spells) 60 = .ok (.ireturn, 1) := by decide +kernel
theorem d_X4_valueOf_0 : decode (qMc M_X4_valueOf) 0 = .ok (.iconst 0, 1) := by decide +kernel
theorem d_X4_valueOf_1 : decode (qMc M_X4_valueOf) 1 = .ok (.istore_n 3, 1) := by decide +kernel
theorem d_X4_valueOf_2 : decode (qMc M_X4_valueOf) 2 = .ok (.iload_n 1, 1) := by decide +kernel
theorem d_X4_valueOf_3 : decode (qMc M_X4_valueOf) 3 = .ok (.istore 4, 2) := by decide +kernel
theorem d_X4_valueOf_5 : decode (qMc M_X4_valueOf) 5 = .ok (.iload 4, 2) := by decide +kernel
theorem d_X4_valueOf_7 : decode (qMc M_X4_valueOf) 7 = .ok (.iload_n 2, 1) := by decide +kernel
theorem d_X4_valueOf_8 : decode (qMc M_X4_valueOf) 8 = .ok (.if_icmp .ge 25, 3) := by decide +kernel
theorem d_X4_valueOf_11 : decode (qMc M_X4_valueOf) 11 = .ok (.iload_n 3, 1) := by decide +kernel
theorem d_X4_valueOf_12 : decode (qMc M_X4_valueOf) 12 = .ok (.bipush 10, 2) := by decide +kernel
theorem d_X4_valueOf_14 : decode (qMc M_X4_valueOf) 14 = .ok (.imul, 1) := by decide +kernel
theorem d_X4_valueOf_15 : decode (qMc M_X4_valueOf) 15 = .ok (.aload_n 0, 1) := by decide +kernel
theorem d_X4_valueOf_16 : decode (qMc M_X4_valueOf) 16 = .ok (.getfield 11, 3) := by decide +kernel
theorem d_X4_valueOf_19 : decode (qMc M_X4_valueOf) 19 = .ok (.iload 4, 2) := by decide +kernel
theorem d_X4_valueOf_21 : decode (qMc M_X4_valueOf) 21 = .ok (.iaload, 1) := by decide +kernel
theorem d_X4_valueOf_22 : decode (qMc M_X4_valueOf) 22 = .ok (.iadd, 1) := by decide +kernel
theorem d_X4_valueOf_23 : decode (qMc M_X4_valueOf) 23 = .ok (.bipush 48, 2) := by decide +kernel
theorem d_X4_valueOf_25 : decode (qMc M_X4_valueOf) 25 = .ok (.isub, 1) := by decide +kernel
theorem d_X4_valueOf_26 : decode (qMc M_X4_valueOf) 26 = .ok (.istore_n 3, 1) := by decide +kernel
theorem d_X4_valueOf_27 : decode (qMc M_X4_valueOf) 27 = .ok (.iinc 4 1, 3) := by decide +kernel
theorem d_X4_valueOf_30 : decode (qMc M_X4_valueOf) 30 = .ok (.goto (-25), 3) := by decide +kernel
theorem d_X4_valueOf_33 : decode (qMc M_X4_valueOf) 33 = .ok (.iload_n 3, 1) := by decide +kernel
theorem d_X4_valueOf_34 : decode (qMc M_X4_valueOf) 34 = .ok (.ireturn, 1) := by decide +kernel
theorem d_X4_kindOfSign_0 : decode (qMc M_X4_kindOfSign) 0 = .ok (.iload_n 0, 1) := by decide +kernel
theorem d_X4_kindOfSign_1 : decode (qMc M_X4_kindOfSign) 1 = .ok (.lookupswitch 41 #[(44, 37), (59, 35), (62, 39)], 35) := by decide +kernel
theorem d_X4_kindOfSign_36 : decode (qMc M_X4_kindOfSign) 36 = .ok (.iconst 3, 1) := by decide +kernel
theorem d_X4_kindOfSign_37 : decode (qMc M_X4_kindOfSign) 37 = .ok (.ireturn, 1) := by decide +kernel
theorem d_X4_kindOfSign_38 : decode (qMc M_X4_kindOfSign) 38 = .ok (.iconst 4, 1) := by decide +kernel
theorem d_X4_kindOfSign_39 : decode (qMc M_X4_kindOfSign) 39 = .ok (.ireturn, 1) := by decide +kernel
theorem d_X4_kindOfSign_40 : decode (qMc M_X4_kindOfSign) 40 = .ok (.iconst 5, 1) := by decide +kernel
theorem d_X4_kindOfSign_41 : decode (qMc M_X4_kindOfSign) 41 = .ok (.ireturn, 1) := by decide +kernel
theorem d_X4_kindOfSign_42 : decode (qMc M_X4_kindOfSign) 42 = .ok (.iconst 1, 1) := by decide +kernel
theorem d_X4_kindOfSign_43 : decode (qMc M_X4_kindOfSign) 43 = .ok (.ireturn, 1) := by decide +kernel
theorem d_X4_isBlank_0 : decode (qMc M_X4_isBlank) 0 = .ok (.iload_n 0, 1) := by decide +kernel
theorem d_X4_isBlank_1 : decode (qMc M_X4_isBlank) 1 = .ok (.bipush 32, 2) := by decide +kernel
theorem d_X4_isBlank_3 : decode (qMc M_X4_isBlank) 3 = .ok (.if_icmp .eq 9, 3) := by decide +kernel
theorem d_X4_isBlank_6 : decode (qMc M_X4_isBlank) 6 = .ok (.iload_n 0, 1) := by decide +kernel
theorem d_X4_isBlank_7 : decode (qMc M_X4_isBlank) 7 = .ok (.bipush 10, 2) := by decide +kernel
theorem d_X4_isBlank_9 : decode (qMc M_X4_isBlank) 9 = .ok (.if_icmp .ne 7, 3) := by decide +kernel
theorem d_X4_isBlank_12 : decode (qMc M_X4_isBlank) 12 = .ok (.iconst 1, 1) := by decide +kernel
theorem d_X4_isBlank_13 : decode (qMc M_X4_isBlank) 13 = .ok (.goto 4, 3) := by decide +kernel
theorem d_X4_isBlank_16 : decode (qMc M_X4_isBlank) 16 = .ok (.iconst 0, 1) := by decide +kernel
theorem d_X4_isBlank_17 : decode (qMc M_X4_isBlank) 17 = .ok (.ireturn, 1) := by decide +kernel
theorem d_X4_isLetter_0 : decode (qMc M_X4_isLetter) 0 = .ok (.iload_n 0, 1) := by decide +kernel
theorem d_X4_isLetter_1 : decode (qMc M_X4_isLetter) 1 = .ok (.bipush 97, 2) := by decide +kernel
theorem d_X4_isLetter_3 : decode (qMc M_X4_isLetter) 3 = .ok (.bipush 122, 2) := by decide +kernel
theorem d_X4_isLetter_5 : decode (qMc M_X4_isLetter) 5 = .ok (.invokestatic 59, 3) := by decide +kernel
theorem d_X4_isLetter_8 : decode (qMc M_X4_isLetter) 8 = .ok (.ifCond .ne 14, 3) := by decide +kernel
theorem d_X4_isLetter_11 : decode (qMc M_X4_isLetter) 11 = .ok (.iload_n 0, 1) := by decide +kernel
theorem d_X4_isLetter_12 : decode (qMc M_X4_isLetter) 12 = .ok (.bipush 65, 2) := by decide +kernel
theorem d_X4_isLetter_14 : decode (qMc M_X4_isLetter) 14 = .ok (.bipush 90, 2) := by decide +kernel
theorem d_X4_isLetter_16 : decode (qMc M_X4_isLetter) 16 = .ok (.invokestatic 59, 3) := by decide +kernel
theorem d_X4_isLetter_19 : decode (qMc M_X4_isLetter) 19 = .ok (.ifCond .eq 7, 3) := by decide +kernel
theorem d_X4_isLetter_22 : decode (qMc M_X4_isLetter) 22 = .ok (.iconst 1, 1) := by decide +kernel
theorem d_X4_isLetter_23 : decode (qMc M_X4_isLetter) 23 = .ok (.goto 4, 3) := by decide +kernel
theorem d_X4_isLetter_26 : decode (qMc M_X4_isLetter) 26 = .ok (.iconst 0, 1) := by decide +kernel
theorem d_X4_isLetter_27 : decode (qMc M_X4_isLetter) 27 = .ok (.ireturn, 1) := by decide +kernel
theorem d_X4_isDigit_0 : decode (qMc M_X4_isDigit) 0 = .ok (.iload_n 0, 1) := by decide +kernel
theorem d_X4_isDigit_1 : decode (qMc M_X4_isDigit) 1 = .ok (.bipush 48, 2) := by decide +kernel
theorem d_X4_isDigit_3 : decode (qMc M_X4_isDigit) 3 = .ok (.bipush 57, 2) := by decide +kernel
theorem d_X4_isDigit_5 : decode (qMc M_X4_isDigit) 5 = .ok (.invokestatic 59, 3) := by decide +kernel
theorem d_X4_isDigit_8 : decode (qMc M_X4_isDigit) 8 = .ok (.ireturn, 1) := by decide +kernel
theorem d_X4_advance_0 : decode (qMc M_X4_advance) 0 = .ok (.aload_n 0, 1) := by decide +kernel
theorem d_X4_advance_1 : decode (qMc M_X4_advance) 1 = .ok (.getfield 31, 3) := by decide +kernel
theorem d_X4_advance_4 : decode (qMc M_X4_advance) 4 = .ok (.ifCond .eq 26, 3) := by decide +kernel
theorem d_X4_advance_7 : decode (qMc M_X4_advance) 7 = .ok (.aload_n 0, 1) := by decide +kernel
theorem d_X4_advance_8 : decode (qMc M_X4_advance) 8 = .ok (.dup, 1) := by decide +kernel
theorem d_X4_advance_9 : decode (qMc M_X4_advance) 9 = .ok (.getfield 28, 3) := by decide +kernel
theorem d_X4_advance_12 : decode (qMc M_X4_advance) 12 = .ok (.iconst 1, 1) := by decide +kernel
theorem d_X4_advance_13 : decode (qMc M_X4_advance) 13 = .ok (.iadd, 1) := by decide +kernel
theorem d_X4_advance_14 : decode (qMc M_X4_advance) 14 = .ok (.putfield 28, 3) := by decide +kernel
theorem d_X4_advance_17 : decode (qMc M_X4_advance) 17 = .ok (.aload_n 0, 1) := by decide +kernel
theorem d_X4_advance_18 : decode (qMc M_X4_advance) 18 = .ok (.aload_n 0, 1) := by decide +kernel
theorem d_X4_advance_19 : decode (qMc M_X4_advance) 19 = .ok (.getfield 19, 3) := by decide +kernel
theorem d_X4_advance_22 : decode (qMc M_X4_advance) 22 = .ok (.aload_n 0, 1) := by decide +kernel
theorem d_X4_advance_23 : decode (qMc M_X4_advance) 23 = .ok (.getfield 28, 3) := by decide +kernel
theorem d_X4_advance_26 : decode (qMc M_X4_advance) 26 = .ok (.iaload, 1) := by decide +kernel
theorem d_X4_advance_27 : decode (qMc M_X4_advance) 27 = .ok (.putfield 31, 3) := by decide +kernel
theorem d_X4_advance_30 : decode (qMc M_X4_advance) 30 = .ok (.return_, 1) := by decide +kernel
theorem d_X4_refuse_0 : decode (qMc M_X4_refuse) 0 = .ok (.aload_n 0, 1) := by decide +kernel
theorem d_X4_refuse_1 : decode (qMc M_X4_refuse) 1 = .ok (.iload_n 1, 1) := by decide +kernel
theorem d_X4_refuse_2 : decode (qMc M_X4_refuse) 2 = .ok (.putfield 34, 3) := by decide +kernel
theorem d_X4_refuse_5 : decode (qMc M_X4_refuse) 5 = .ok (.aload_n 0, 1) := by decide +kernel
theorem d_X4_refuse_6 : decode (qMc M_X4_refuse) 6 = .ok (.aload_n 0, 1) := by decide +kernel
theorem d_X4_refuse_7 : decode (qMc M_X4_refuse) 7 = .ok (.getfield 22, 3) := by decide +kernel
theorem d_X4_refuse_10 : decode (qMc M_X4_refuse) 10 = .ok (.aload_n 0, 1) := by decide +kernel
theorem d_X4_refuse_11 : decode (qMc M_X4_refuse) 11 = .ok (.getfield 28, 3) := by decide +kernel
theorem d_X4_refuse_14 : decode (qMc M_X4_refuse) 14 = .ok (.iaload, 1) := by decide +kernel
theorem d_X4_refuse_15 : decode (qMc M_X4_refuse) 15 = .ok (.putfield 37, 3) := by decide +kernel
theorem d_X4_refuse_18 : decode (qMc M_X4_refuse) 18 = .ok (.iconst 0, 1) := by decide +kernel
theorem d_X4_refuse_19 : decode (qMc M_X4_refuse) 19 = .ok (.ireturn, 1) := by decide +kernel
theorem d_X4_pass_0 : decode (qMc M_X4_pass) 0 = .ok (.aload_n 0, 1) := by decide +kernel
theorem d_X4_pass_1 : decode (qMc M_X4_pass) 1 = .ok (.getfield 31, 3) := by decide +kernel
theorem d_X4_pass_4 : decode (qMc M_X4_pass) 4 = .ok (.iload_n 1, 1) := by decide +kernel
theorem d_X4_pass_5 : decode (qMc M_X4_pass) 5 = .ok (.if_icmp .eq 9, 3) := by decide +kernel
theorem d_X4_pass_8 : decode (qMc M_X4_pass) 8 = .ok (.aload_n 0, 1) := by decide +kernel
theorem d_X4_pass_9 : decode (qMc M_X4_pass) 9 = .ok (.iconst 1, 1) := by decide +kernel
theorem d_X4_pass_10 : decode (qMc M_X4_pass) 10 = .ok (.invokevirtual 111, 3) := by decide +kernel
theorem d_X4_pass_13 : decode (qMc M_X4_pass) 13 = .ok (.ireturn, 1) := by decide +kernel
theorem d_X4_pass_14 : decode (qMc M_X4_pass) 14 = .ok (.aload_n 0, 1) := by decide +kernel
theorem d_X4_pass_15 : decode (qMc M_X4_pass) 15 = .ok (.invokevirtual 114, 3) := by decide +kernel
theorem d_X4_pass_18 : decode (qMc M_X4_pass) 18 = .ok (.iconst 1, 1) := by decide +kernel
theorem d_X4_pass_19 : decode (qMc M_X4_pass) 19 = .ok (.ireturn, 1) := by decide +kernel
theorem d_X4_numberHere_0 : decode (qMc M_X4_numberHere) 0 = .ok (.aload_n 0, 1) := by decide +kernel
theorem d_X4_numberHere_1 : decode (qMc M_X4_numberHere) 1 = .ok (.getfield 31, 3) := by decide +kernel
theorem d_X4_numberHere_4 : decode (qMc M_X4_numberHere) 4 = .ok (.iconst 2, 1) := by decide +kernel
theorem d_X4_numberHere_5 : decode (qMc M_X4_numberHere) 5 = .ok (.if_icmp .eq 11, 3) := by decide +kernel
theorem d_X4_numberHere_8 : decode (qMc M_X4_numberHere) 8 = .ok (.aload_n 0, 1) := by decide +kernel
theorem d_X4_numberHere_9 : decode (qMc M_X4_numberHere) 9 = .ok (.iconst 1, 1) := by decide +kernel
theorem d_X4_numberHere_10 : decode (qMc M_X4_numberHere) 10 = .ok (.invokevirtual 111, 3) := by decide +kernel
theorem d_X4_numberHere_13 : decode (qMc M_X4_numberHere) 13 = .ok (.pop, 1) := by decide +kernel
theorem d_X4_numberHere_14 : decode (qMc M_X4_numberHere) 14 = .ok (.iconst (-1), 1) := by decide +kernel
theorem d_X4_numberHere_15 : decode (qMc M_X4_numberHere) 15 = .ok (.ireturn, 1) := by decide +kernel
theorem d_X4_numberHere_16 : decode (qMc M_X4_numberHere) 16 = .ok (.aload_n 0, 1) := by decide +kernel
theorem d_X4_numberHere_17 : decode (qMc M_X4_numberHere) 17 = .ok (.getfield 25, 3) := by decide +kernel
theorem d_X4_numberHere_20 : decode (qMc M_X4_numberHere) 20 = .ok (.aload_n 0, 1) := by decide +kernel
theorem d_X4_numberHere_21 : decode (qMc M_X4_numberHere) 21 = .ok (.getfield 28, 3) := by decide +kernel
theorem d_X4_numberHere_24 : decode (qMc M_X4_numberHere) 24 = .ok (.iaload, 1) := by decide +kernel
theorem d_X4_numberHere_25 : decode (qMc M_X4_numberHere) 25 = .ok (.iload_n 1, 1) := by decide +kernel
theorem d_X4_numberHere_26 : decode (qMc M_X4_numberHere) 26 = .ok (.iload_n 2, 1) := by decide +kernel
theorem d_X4_numberHere_27 : decode (qMc M_X4_numberHere) 27 = .ok (.invokestatic 59, 3) := by decide +kernel
theorem d_X4_numberHere_30 : decode (qMc M_X4_numberHere) 30 = .ok (.ifCond .ne 11, 3) := by decide +kernel
theorem d_X4_numberHere_33 : decode (qMc M_X4_numberHere) 33 = .ok (.aload_n 0, 1) := by decide +kernel
theorem d_X4_numberHere_34 : decode (qMc M_X4_numberHere) 34 = .ok (.iconst 2, 1) := by decide +kernel
theorem d_X4_numberHere_35 : decode (qMc M_X4_numberHere) 35 = .ok (.invokevirtual 111, 3) := by decide +kernel
theorem d_X4_numberHere_38 : decode (qMc M_X4_numberHere) 38 = .ok (.pop, 1) := by decide +kernel
theorem d_X4_numberHere_39 : decode (qMc M_X4_numberHere) 39 = .ok (.iconst (-1), 1) := by decide +kernel
theorem d_X4_numberHere_40 : decode (qMc M_X4_numberHere) 40 = .ok (.ireturn, 1) := by decide +kernel
theorem d_X4_numberHere_41 : decode (qMc M_X4_numberHere) 41 = .ok (.aload_n 0, 1) := by decide +kernel
theorem d_X4_numberHere_42 : decode (qMc M_X4_numberHere) 42 = .ok (.getfield 25, 3) := by decide +kernel
theorem d_X4_numberHere_45 : decode (qMc M_X4_numberHere) 45 = .ok (.aload_n 0, 1) := by decide +kernel
theorem d_X4_numberHere_46 : decode (qMc M_X4_numberHere) 46 = .ok (.getfield 28, 3) := by decide +kernel
theorem d_X4_numberHere_49 : decode (qMc M_X4_numberHere) 49 = .ok (.iaload, 1) := by decide +kernel
theorem d_X4_numberHere_50 : decode (qMc M_X4_numberHere) 50 = .ok (.ireturn, 1) := by decide +kernel
theorem d_X4_passNumber_0 : decode (qMc M_X4_passNumber) 0 = .ok (.aload_n 0, 1) := by decide +kernel
theorem d_X4_passNumber_1 : decode (qMc M_X4_passNumber) 1 = .ok (.iload_n 1, 1) := by decide +kernel
theorem d_X4_passNumber_2 : decode (qMc M_X4_passNumber) 2 = .ok (.iload_n 2, 1) := by decide +kernel
theorem d_X4_passNumber_3 : decode (qMc M_X4_passNumber) 3 = .ok (.invokevirtual 117, 3) := by decide +kernel
theorem d_X4_passNumber_6 : decode (qMc M_X4_passNumber) 6 = .ok (.istore_n 3, 1) := by decide +kernel
theorem d_X4_passNumber_7 : decode (qMc M_X4_passNumber) 7 = .ok (.iload_n 3, 1) := by decide +kernel
theorem d_X4_passNumber_8 : decode (qMc M_X4_passNumber) 8 = .ok (.iconst (-1), 1) := by decide +kernel
theorem d_X4_passNumber_9 : decode (qMc M_X4_passNumber) 9 = .ok (.if_icmp .eq 7, 3) := by decide +kernel
theorem d_X4_passNumber_12 : decode (qMc M_X4_passNumber) 12 = .ok (.aload_n 0, 1) := by decide +kernel
theorem d_X4_passNumber_13 : decode (qMc M_X4_passNumber) 13 = .ok (.invokevirtual 114, 3) := by decide +kernel
theorem d_X4_passNumber_16 : decode (qMc M_X4_passNumber) 16 = .ok (.iload_n 3, 1) := by decide +kernel
theorem d_X4_passNumber_17 : decode (qMc M_X4_passNumber) 17 = .ok (.ireturn, 1) := by decide +kernel
theorem d_X4_readPage_0 : decode (qMc M_X4_readPage) 0 = .ok (.iconst 0, 1) := by decide +kernel
theorem d_X4_readPage_1 : decode (qMc M_X4_readPage) 1 = .ok (.istore_n 1, 1) := by decide +kernel
theorem d_X4_readPage_2 : decode (qMc M_X4_readPage) 2 = .ok (.iload_n 1, 1) := by decide +kernel
theorem d_X4_readPage_3 : decode (qMc M_X4_readPage) 3 = .ok (.bipush 24, 2) := by decide +kernel
theorem d_X4_readPage_5 : decode (qMc M_X4_readPage) 5 = .ok (.if_icmp .gt 25, 3) := by decide +kernel
theorem d_X4_readPage_8 : decode (qMc M_X4_readPage) 8 = .ok (.aload_n 0, 1) := by decide +kernel
theorem d_X4_readPage_9 : decode (qMc M_X4_readPage) 9 = .ok (.getfield 31, 3) := by decide +kernel
theorem d_X4_readPage_12 : decode (qMc M_X4_readPage) 12 = .ok (.ifCond .eq 18, 3) := by decide +kernel
theorem d_X4_readPage_15 : decode (qMc M_X4_readPage) 15 = .ok (.aload_n 0, 1) := by decide +kernel
theorem d_X4_readPage_16 : decode (qMc M_X4_readPage) 16 = .ok (.invokevirtual 120, 3) := by decide +kernel
theorem d_X4_readPage_19 : decode (qMc M_X4_readPage) 19 = .ok (.ifCond .ne 5, 3) := by decide +kernel
theorem d_X4_readPage_22 : decode (qMc M_X4_readPage) 22 = .ok (.iconst 0, 1) := by decide +kernel
theorem d_X4_readPage_23 : decode (qMc M_X4_readPage) 23 = .ok (.ireturn, 1) := by decide +kernel
theorem d_X4_readPage_24 : decode (qMc M_X4_readPage) 24 = .ok (.iinc 1 1, 3) := by decide +kernel
theorem d_X4_readPage_27 : decode (qMc M_X4_readPage) 27 = .ok (.goto (-25), 3) := by decide +kernel
theorem d_X4_readPage_30 : decode (qMc M_X4_readPage) 30 = .ok (.iconst 1, 1) := by decide +kernel
theorem d_X4_readPage_31 : decode (qMc M_X4_readPage) 31 = .ok (.ireturn, 1) := by decide +kernel
theorem d_X4_readRule_0 : decode (qMc M_X4_readRule) 0 = .ok (.aload_n 0, 1) := by decide +kernel
theorem d_X4_readRule_1 : decode (qMc M_X4_readRule) 1 = .ok (.getfield 43, 3) := by decide +kernel
theorem d_X4_readRule_4 : decode (qMc M_X4_readRule) 4 = .ok (.getfield 124, 3) := by decide +kernel
theorem d_X4_readRule_7 : decode (qMc M_X4_readRule) 7 = .ok (.bipush 24, 2) := by decide +kernel
theorem d_X4_readRule_9 : decode (qMc M_X4_readRule) 9 = .ok (.if_icmp .lt 16, 3) := by decide +kernel
theorem d_X4_readRule_12 : decode (qMc M_X4_readRule) 12 = .ok (.aload_n 0, 1) := by decide +kernel
theorem d_X4_readRule_13 : decode (qMc M_X4_readRule) 13 = .ok (.invokevirtual 127, 3) := by decide +kernel
theorem d_X4_readRule_16 : decode (qMc M_X4_readRule) 16 = .ok (.ifCond .eq 9, 3) := by decide +kernel
theorem d_X4_readRule_19 : decode (qMc M_X4_readRule) 19 = .ok (.aload_n 0, 1) := by decide +kernel
theorem d_X4_readRule_20 : decode (qMc M_X4_readRule) 20 = .ok (.iconst 3, 1) := by decide +kernel
theorem d_X4_readRule_21 : decode (qMc M_X4_readRule) 21 = .ok (.invokevirtual 111, 3) := by decide +kernel
theorem d_X4_readRule_24 : decode (qMc M_X4_readRule) 24 = .ok (.ireturn, 1) := by decide +kernel
theorem d_X4_readRule_25 : decode (qMc M_X4_readRule) 25 = .ok (.aload_n 0, 1) := by decide +kernel
theorem d_X4_readRule_26 : decode (qMc M_X4_readRule) 26 = .ok (.invokevirtual 130, 3) := by decide +kernel
theorem d_X4_readRule_29 : decode (qMc M_X4_readRule) 29 = .ok (.istore_n 1, 1) := by decide +kernel
theorem d_X4_readRule_30 : decode (qMc M_X4_readRule) 30 = .ok (.iload_n 1, 1) := by decide +kernel
theorem d_X4_readRule_31 : decode (qMc M_X4_readRule) 31 = .ok (.iconst (-1), 1) := by decide +kernel
theorem d_X4_readRule_32 : decode (qMc M_X4_readRule) 32 = .ok (.if_icmp .ne 7, 3) := by decide +kernel
theorem d_X4_readRule_35 : decode (qMc M_X4_readRule) 35 = .ok (.iconst (-1), 1) := by decide +kernel
theorem d_X4_readRule_36 : decode (qMc M_X4_readRule) 36 = .ok (.goto 7, 3) := by decide +kernel
theorem d_X4_readRule_39 : decode (qMc M_X4_readRule) 39 = .ok (.aload_n 0, 1) := by decide +kernel
theorem d_X4_readRule_40 : decode (qMc M_X4_readRule) 40 = .ok (.invokevirtual 130, 3) := by decide +kernel
theorem d_X4_readRule_43 : decode (qMc M_X4_readRule) 43 = .ok (.istore_n 2, 1) := by decide +kernel
theorem d_X4_readRule_44 : decode (qMc M_X4_readRule) 44 = .ok (.iload_n 2, 1) := by decide +kernel
theorem d_X4_readRule_45 : decode (qMc M_X4_readRule) 45 = .ok (.iconst (-1), 1) := by decide +kernel
theorem d_X4_readRule_46 : decode (qMc M_X4_readRule) 46 = .ok (.if_icmp .ne 7, 3) := by decide +kernel
theorem d_X4_readRule_49 : decode (qMc M_X4_readRule) 49 = .ok (.iconst (-1), 1) := by decide +kernel
theorem d_X4_readRule_50 : decode (qMc M_X4_readRule) 50 = .ok (.goto 7, 3) := by decide +kernel
theorem d_X4_readRule_53 : decode (qMc M_X4_readRule) 53 = .ok (.aload_n 0, 1) := by decide +kernel
theorem d_X4_readRule_54 : decode (qMc M_X4_readRule) 54 = .ok (.invokevirtual 130, 3) := by decide +kernel
theorem d_X4_readRule_57 : decode (qMc M_X4_readRule) 57 = .ok (.istore_n 3, 1) := by decide +kernel
theorem d_X4_readRule_58 : decode (qMc M_X4_readRule) 58 = .ok (.iload_n 3, 1) := by decide +kernel
theorem d_X4_readRule_59 : decode (qMc M_X4_readRule) 59 = .ok (.iconst (-1), 1) := by decide +kernel
theorem d_X4_readRule_60 : decode (qMc M_X4_readRule) 60 = .ok (.if_icmp .eq 11, 3) := by decide +kernel
theorem d_X4_readRule_63 : decode (qMc M_X4_readRule) 63 = .ok (.aload_n 0, 1) := by decide +kernel
theorem d_X4_readRule_64 : decode (qMc M_X4_readRule) 64 = .ok (.iconst 5, 1) := by decide +kernel
theorem d_X4_readRule_65 : decode (qMc M_X4_readRule) 65 = .ok (.invokevirtual 134, 3) := by decide +kernel
theorem d_X4_readRule_68 : decode (qMc M_X4_readRule) 68 = .ok (.ifCond .ne 5, 3) := by decide +kernel
theorem d_X4_readRule_71 : decode (qMc M_X4_readRule) 71 = .ok (.iconst 0, 1) := by decide +kernel
theorem d_X4_readRule_72 : decode (qMc M_X4_readRule) 72 = .ok (.ireturn, 1) := by decide +kernel
theorem d_X4_readRule_73 : decode (qMc M_X4_readRule) 73 = .ok (.aload_n 0, 1) := by decide +kernel
theorem d_X4_readRule_74 : decode (qMc M_X4_readRule) 74 = .ok (.bipush 9, 2) := by decide +kernel
theorem d_X4_readRule_76 : decode (qMc M_X4_readRule) 76 = .ok (.bipush 8, 2) := by decide +kernel
theorem d_X4_readRule_78 : decode (qMc M_X4_readRule) 78 = .ok (.invokevirtual 137, 3) := by decide +kernel
theorem d_X4_readRule_81 : decode (qMc M_X4_readRule) 81 = .ok (.istore 4, 2) := by decide +kernel
theorem d_X4_readRule_83 : decode (qMc M_X4_readRule) 83 = .ok (.iload 4, 2) := by decide +kernel
theorem d_X4_readRule_85 : decode (qMc M_X4_readRule) 85 = .ok (.iconst (-1), 1) := by decide +kernel
theorem d_X4_readRule_86 : decode (qMc M_X4_readRule) 86 = .ok (.if_icmp .eq 11, 3) := by decide +kernel
theorem d_X4_readRule_89 : decode (qMc M_X4_readRule) 89 = .ok (.aload_n 0, 1) := by decide +kernel
theorem d_X4_readRule_90 : decode (qMc M_X4_readRule) 90 = .ok (.iconst 3, 1) := by decide +kernel
theorem d_X4_readRule_91 : decode (qMc M_X4_readRule) 91 = .ok (.invokevirtual 134, 3) := by decide +kernel
theorem d_X4_readRule_94 : decode (qMc M_X4_readRule) 94 = .ok (.ifCond .ne 5, 3) := by decide +kernel
theorem d_X4_readRule_97 : decode (qMc M_X4_readRule) 97 = .ok (.iconst 0, 1) := by decide +kernel
theorem d_X4_readRule_98 : decode (qMc M_X4_readRule) 98 = .ok (.ireturn, 1) := by decide +kernel
theorem d_X4_readRule_99 : decode (qMc M_X4_readRule) 99 = .ok (.aload_n 0, 1) := by decide +kernel
theorem d_X4_readRule_100 : decode (qMc M_X4_readRule) 100 = .ok (.getfield 43, 3) := by decide +kernel
theorem d_X4_readRule_103 : decode (qMc M_X4_readRule) 103 = .ok (.iload_n 1, 1) := by decide +kernel
theorem d_X4_readRule_104 : decode (qMc M_X4_readRule) 104 = .ok (.iload_n 2, 1) := by decide +kernel
theorem d_X4_readRule_105 : decode (qMc M_X4_readRule) 105 = .ok (.iload_n 3, 1) := by decide +kernel
theorem d_X4_readRule_106 : decode (qMc M_X4_readRule) 106 = .ok (.iload 4, 2) := by decide +kernel
theorem d_X4_readRule_108 : decode (qMc M_X4_readRule) 108 = .ok (.invokevirtual 140, 3) := by decide +kernel
theorem d_X4_readRule_111 : decode (qMc M_X4_readRule) 111 = .ok (.iconst 1, 1) := by decide +kernel
theorem d_X4_readRule_112 : decode (qMc M_X4_readRule) 112 = .ok (.ireturn, 1) := by decide +kernel
theorem d_X4_canBeginRule_0 : decode (qMc M_X4_canBeginRule) 0 = .ok (.aload_n 0, 1) := by decide +kernel
theorem d_X4_canBeginRule_1 : decode (qMc M_X4_canBeginRule) 1 = .ok (.getfield 31, 3) := by decide +kernel
theorem d_X4_canBeginRule_4 : decode (qMc M_X4_canBeginRule) 4 = .ok (.bipush 6, 2) := by decide +kernel
theorem d_X4_canBeginRule_6 : decode (qMc M_X4_canBeginRule) 6 = .ok (.bipush 8, 2) := by decide +kernel
theorem d_X4_canBeginRule_8 : decode (qMc M_X4_canBeginRule) 8 = .ok (.invokestatic 59, 3) := by decide +kernel
theorem d_X4_canBeginRule_11 : decode (qMc M_X4_canBeginRule) 11 = .ok (.ifCond .ne 25, 3) := by decide +kernel
theorem d_X4_canBeginRule_14 : decode (qMc M_X4_canBeginRule) 14 = .ok (.aload_n 0, 1) := by decide +kernel
theorem d_X4_canBeginRule_15 : decode (qMc M_X4_canBeginRule) 15 = .ok (.getfield 31, 3) := by decide +kernel
theorem d_X4_canBeginRule_18 : decode (qMc M_X4_canBeginRule) 18 = .ok (.iconst 2, 1) := by decide +kernel
theorem d_X4_canBeginRule_19 : decode (qMc M_X4_canBeginRule) 19 = .ok (.if_icmp .ne 21, 3) := by decide +kernel
theorem d_X4_canBeginRule_22 : decode (qMc M_X4_canBeginRule) 22 = .ok (.aload_n 0, 1) := by decide +kernel
theorem d_X4_canBeginRule_23 : decode (qMc M_X4_canBeginRule) 23 = .ok (.getfield 25, 3) := by decide +kernel
theorem d_X4_canBeginRule_26 : decode (qMc M_X4_canBeginRule) 26 = .ok (.aload_n 0, 1) := by decide +kernel
theorem d_X4_canBeginRule_27 : decode (qMc M_X4_canBeginRule) 27 = .ok (.getfield 28, 3) := by decide +kernel
theorem d_X4_canBeginRule_30 : decode (qMc M_X4_canBeginRule) 30 = .ok (.iaload, 1) := by decide +kernel
theorem d_X4_canBeginRule_31 : decode (qMc M_X4_canBeginRule) 31 = .ok (.bipush 7, 2) := by decide +kernel
theorem d_X4_canBeginRule_33 : decode (qMc M_X4_canBeginRule) 33 = .ok (.if_icmp .gt 7, 3) := by decide +kernel
theorem d_X4_canBeginRule_36 : decode (qMc M_X4_canBeginRule) 36 = .ok (.iconst 1, 1) := by decide +kernel
theorem d_X4_canBeginRule_37 : decode (qMc M_X4_canBeginRule) 37 = .ok (.goto 4, 3) := by decide +kernel
theorem d_X4_canBeginRule_40 : decode (qMc M_X4_canBeginRule) 40 = .ok (.iconst 0, 1) := by decide +kernel
theorem d_X4_canBeginRule_41 : decode (qMc M_X4_canBeginRule) 41 = .ok (.ireturn, 1) := by decide +kernel
theorem d_X4_passPattern_0 : decode (qMc M_X4_passPattern) 0 = .ok (.aload_n 0, 1) := by decide +kernel
theorem d_X4_passPattern_1 : decode (qMc M_X4_passPattern) 1 = .ok (.getfield 31, 3) := by decide +kernel
theorem d_X4_passPattern_4 : decode (qMc M_X4_passPattern) 4 = .ok (.bipush 6, 2) := by decide +kernel
theorem d_X4_passPattern_6 : decode (qMc M_X4_passPattern) 6 = .ok (.if_icmp .ne 11, 3) := by decide +kernel
theorem d_X4_passPattern_9 : decode (qMc M_X4_passPattern) 9 = .ok (.aload_n 0, 1) := by decide +kernel
theorem d_X4_passPattern_10 : decode (qMc M_X4_passPattern) 10 = .ok (.invokevirtual 114, 3) := by decide +kernel
theorem d_X4_passPattern_13 : decode (qMc M_X4_passPattern) 13 = .ok (.sipush 511, 3) := by decide +kernel
theorem d_X4_passPattern_16 : decode (qMc M_X4_passPattern) 16 = .ok (.ireturn, 1) := by decide +kernel
theorem d_X4_passPattern_17 : decode (qMc M_X4_passPattern) 17 = .ok (.aload_n 0, 1) := by decide +kernel
theorem d_X4_passPattern_18 : decode (qMc M_X4_passPattern) 18 = .ok (.getfield 31, 3) := by decide +kernel
theorem d_X4_passPattern_21 : decode (qMc M_X4_passPattern) 21 = .ok (.bipush 7, 2) := by decide +kernel
theorem d_X4_passPattern_23 : decode (qMc M_X4_passPattern) 23 = .ok (.if_icmp .ne 7, 3) := by decide +kernel
theorem d_X4_passPattern_26 : decode (qMc M_X4_passPattern) 26 = .ok (.iconst 1, 1) := by decide +kernel
theorem d_X4_passPattern_27 : decode (qMc M_X4_passPattern) 27 = .ok (.goto 4, 3) := by decide +kernel
theorem d_X4_passPattern_30 : decode (qMc M_X4_passPattern) 30 = .ok (.iconst 0, 1) := by decide +kernel
theorem d_X4_passPattern_31 : decode (qMc M_X4_passPattern) 31 = .ok (.istore_n 1, 1) := by decide +kernel
theorem d_X4_passPattern_32 : decode (qMc M_X4_passPattern) 32 = .ok (.iload_n 1, 1) := by decide +kernel
theorem d_X4_passPattern_33 : decode (qMc M_X4_passPattern) 33 = .ok (.ifCond .eq 7, 3) := by decide +kernel
theorem d_X4_passPattern_36 : decode (qMc M_X4_passPattern) 36 = .ok (.aload_n 0, 1) := by decide +kernel
theorem d_X4_passPattern_37 : decode (qMc M_X4_passPattern) 37 = .ok (.invokevirtual 114, 3) := by decide +kernel
theorem d_X4_passPattern_40 : decode (qMc M_X4_passPattern) 40 = .ok (.iconst 0, 1) := by decide +kernel
theorem d_X4_passPattern_41 : decode (qMc M_X4_passPattern) 41 = .ok (.istore_n 2, 1) := by decide +kernel
theorem d_X4_passPattern_42 : decode (qMc M_X4_passPattern) 42 = .ok (.iconst 0, 1) := by decide +kernel
theorem d_X4_passPattern_43 : decode (qMc M_X4_passPattern) 43 = .ok (.istore_n 3, 1) := by decide +kernel
theorem d_X4_passPattern_44 : decode (qMc M_X4_passPattern) 44 = .ok (.iload_n 3, 1) := by decide +kernel
theorem d_X4_passPattern_45 : decode (qMc M_X4_passPattern) 45 = .ok (.sipush 400, 3) := by decide +kernel
theorem d_X4_passPattern_48 : decode (qMc M_X4_passPattern) 48 = .ok (.if_icmp .ge 62, 3) := by decide +kernel
theorem d_X4_passPattern_51 : decode (qMc M_X4_passPattern) 51 = .ok (.aload_n 0, 1) := by decide +kernel
theorem d_X4_passPattern_52 : decode (qMc M_X4_passPattern) 52 = .ok (.bipush 8, 2) := by decide +kernel
theorem d_X4_passPattern_54 : decode (qMc M_X4_passPattern) 54 = .ok (.bipush 8, 2) := by decide +kernel
theorem d_X4_passPattern_56 : decode (qMc M_X4_passPattern) 56 = .ok (.invokevirtual 137, 3) := by decide +kernel
theorem d_X4_passPattern_59 : decode (qMc M_X4_passPattern) 59 = .ok (.istore 4, 2) := by decide +kernel
theorem d_X4_passPattern_61 : decode (qMc M_X4_passPattern) 61 = .ok (.iload 4, 2) := by decide +kernel
theorem d_X4_passPattern_63 : decode (qMc M_X4_passPattern) 63 = .ok (.iconst (-1), 1) := by decide +kernel
theorem d_X4_passPattern_64 : decode (qMc M_X4_passPattern) 64 = .ok (.if_icmp .ne 5, 3) := by decide +kernel
theorem d_X4_passPattern_67 : decode (qMc M_X4_passPattern) 67 = .ok (.iconst (-1), 1) := by decide +kernel
theorem d_X4_passPattern_68 : decode (qMc M_X4_passPattern) 68 = .ok (.ireturn, 1) := by decide +kernel
theorem d_X4_passPattern_69 : decode (qMc M_X4_passPattern) 69 = .ok (.iload_n 2, 1) := by decide +kernel
theorem d_X4_passPattern_70 : decode (qMc M_X4_passPattern) 70 = .ok (.iconst 1, 1) := by decide +kernel
theorem d_X4_passPattern_71 : decode (qMc M_X4_passPattern) 71 = .ok (.iload 4, 2) := by decide +kernel
theorem d_X4_passPattern_73 : decode (qMc M_X4_passPattern) 73 = .ok (.ishl, 1) := by decide +kernel
theorem d_X4_passPattern_74 : decode (qMc M_X4_passPattern) 74 = .ok (.ior, 1) := by decide +kernel
theorem d_X4_passPattern_75 : decode (qMc M_X4_passPattern) 75 = .ok (.istore_n 2, 1) := by decide +kernel
theorem d_X4_passPattern_76 : decode (qMc M_X4_passPattern) 76 = .ok (.aload_n 0, 1) := by decide +kernel
theorem d_X4_passPattern_77 : decode (qMc M_X4_passPattern) 77 = .ok (.getfield 31, 3) := by decide +kernel
theorem d_X4_passPattern_80 : decode (qMc M_X4_passPattern) 80 = .ok (.iconst 4, 1) := by decide +kernel
theorem d_X4_passPattern_81 : decode (qMc M_X4_passPattern) 81 = .ok (.if_icmp .eq 19, 3) := by decide +kernel
theorem d_X4_passPattern_84 : decode (qMc M_X4_passPattern) 84 = .ok (.iload_n 1, 1) := by decide +kernel
theorem d_X4_passPattern_85 : decode (qMc M_X4_passPattern) 85 = .ok (.ifCond .eq 13, 3) := by decide +kernel
theorem d_X4_passPattern_88 : decode (qMc M_X4_passPattern) 88 = .ok (.sipush 511, 3) := by decide +kernel
theorem d_X4_passPattern_91 : decode (qMc M_X4_passPattern) 91 = .ok (.iload_n 2, 1) := by decide +kernel
theorem d_X4_passPattern_92 : decode (qMc M_X4_passPattern) 92 = .ok (.iconst (-1), 1) := by decide +kernel
theorem d_X4_passPattern_93 : decode (qMc M_X4_passPattern) 93 = .ok (.ixor, 1) := by decide +kernel
theorem d_X4_passPattern_94 : decode (qMc M_X4_passPattern) 94 = .ok (.iand, 1) := by decide +kernel
theorem d_X4_passPattern_95 : decode (qMc M_X4_passPattern) 95 = .ok (.goto 4, 3) := by decide +kernel
theorem d_X4_passPattern_98 : decode (qMc M_X4_passPattern) 98 = .ok (.iload_n 2, 1) := by decide +kernel
theorem d_X4_passPattern_99 : decode (qMc M_X4_passPattern) 99 = .ok (.ireturn, 1) := by decide +kernel
theorem d_X4_passPattern_100 : decode (qMc M_X4_passPattern) 100 = .ok (.aload_n 0, 1) := by decide +kernel
theorem d_X4_passPattern_101 : decode (qMc M_X4_passPattern) 101 = .ok (.invokevirtual 114, 3) := by decide +kernel
theorem d_X4_passPattern_104 : decode (qMc M_X4_passPattern) 104 = .ok (.iinc 3 1, 3) := by decide +kernel
theorem d_X4_passPattern_107 : decode (qMc M_X4_passPattern) 107 = .ok (.goto (-63), 3) := by decide +kernel
theorem d_X4_passPattern_110 : decode (qMc M_X4_passPattern) 110 = .ok (.iconst (-1), 1) := by decide +kernel
theorem d_X4_passPattern_111 : decode (qMc M_X4_passPattern) 111 = .ok (.ireturn, 1) := by decide +kernel
