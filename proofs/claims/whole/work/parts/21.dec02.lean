theorem d_X9_decides_0 : decode (qMc M_X9_decides) 0 = .ok (.iconst 0, 1) := by decide +kernel
theorem d_X9_decides_1 : decode (qMc M_X9_decides) 1 = .ok (.istore_n 3, 1) := by decide +kernel
theorem d_X9_decides_2 : decode (qMc M_X9_decides) 2 = .ok (.iload_n 3, 1) := by decide +kernel
theorem d_X9_decides_3 : decode (qMc M_X9_decides) 3 = .ok (.sipush 567, 3) := by decide +kernel
theorem d_X9_decides_6 : decode (qMc M_X9_decides) 6 = .ok (.if_icmp .ge 30, 3) := by decide +kernel
theorem d_X9_decides_9 : decode (qMc M_X9_decides) 9 = .ok (.aload_n 0, 1) := by decide +kernel
theorem d_X9_decides_10 : decode (qMc M_X9_decides) 10 = .ok (.getfield 28, 3) := by decide +kernel
theorem d_X9_decides_13 : decode (qMc M_X9_decides) 13 = .ok (.iload_n 3, 1) := by decide +kernel
theorem d_X9_decides_14 : decode (qMc M_X9_decides) 14 = .ok (.iaload, 1) := by decide +kernel
theorem d_X9_decides_15 : decode (qMc M_X9_decides) 15 = .ok (.ifCond .eq 15, 3) := by decide +kernel
theorem d_X9_decides_18 : decode (qMc M_X9_decides) 18 = .ok (.aload_n 2, 1) := by decide +kernel
theorem d_X9_decides_19 : decode (qMc M_X9_decides) 19 = .ok (.getfield 82, 3) := by decide +kernel
theorem d_X9_decides_22 : decode (qMc M_X9_decides) 22 = .ok (.iload_n 3, 1) := by decide +kernel
theorem d_X9_decides_23 : decode (qMc M_X9_decides) 23 = .ok (.iaload, 1) := by decide +kernel
theorem d_X9_decides_24 : decode (qMc M_X9_decides) 24 = .ok (.iload_n 1, 1) := by decide +kernel
theorem d_X9_decides_25 : decode (qMc M_X9_decides) 25 = .ok (.if_icmp .ne 5, 3) := by decide +kernel
theorem d_X9_decides_28 : decode (qMc M_X9_decides) 28 = .ok (.iconst 1, 1) := by decide +kernel
theorem d_X9_decides_29 : decode (qMc M_X9_decides) 29 = .ok (.ireturn, 1) := by decide +kernel
theorem d_X9_decides_30 : decode (qMc M_X9_decides) 30 = .ok (.iinc 3 1, 3) := by decide +kernel
theorem d_X9_decides_33 : decode (qMc M_X9_decides) 33 = .ok (.goto (-31), 3) := by decide +kernel
theorem d_X9_decides_36 : decode (qMc M_X9_decides) 36 = .ok (.iconst 0, 1) := by decide +kernel
theorem d_X9_decides_37 : decode (qMc M_X9_decides) 37 = .ok (.ireturn, 1) := by decide +kernel
theorem d_X9_deciders_0 : decode (qMc M_X9_deciders) 0 = .ok (.iconst 0, 1) := by decide +kernel
theorem d_X9_deciders_1 : decode (qMc M_X9_deciders) 1 = .ok (.istore_n 2, 1) := by decide +kernel
theorem d_X9_deciders_2 : decode (qMc M_X9_deciders) 2 = .ok (.iconst 0, 1) := by decide +kernel
theorem d_X9_deciders_3 : decode (qMc M_X9_deciders) 3 = .ok (.istore_n 3, 1) := by decide +kernel
theorem d_X9_deciders_4 : decode (qMc M_X9_deciders) 4 = .ok (.iload_n 3, 1) := by decide +kernel
theorem d_X9_deciders_5 : decode (qMc M_X9_deciders) 5 = .ok (.bipush 96, 2) := by decide +kernel
theorem d_X9_deciders_7 : decode (qMc M_X9_deciders) 7 = .ok (.if_icmp .ge 29, 3) := by decide +kernel
theorem d_X9_deciders_10 : decode (qMc M_X9_deciders) 10 = .ok (.aload_n 1, 1) := by decide +kernel
theorem d_X9_deciders_11 : decode (qMc M_X9_deciders) 11 = .ok (.iload_n 3, 1) := by decide +kernel
theorem d_X9_deciders_12 : decode (qMc M_X9_deciders) 12 = .ok (.invokevirtual 85, 3) := by decide +kernel
theorem d_X9_deciders_15 : decode (qMc M_X9_deciders) 15 = .ok (.ifCond .eq 15, 3) := by decide +kernel
theorem d_X9_deciders_18 : decode (qMc M_X9_deciders) 18 = .ok (.aload_n 0, 1) := by decide +kernel
theorem d_X9_deciders_19 : decode (qMc M_X9_deciders) 19 = .ok (.iload_n 3, 1) := by decide +kernel
theorem d_X9_deciders_20 : decode (qMc M_X9_deciders) 20 = .ok (.aload_n 1, 1) := by decide +kernel
theorem d_X9_deciders_21 : decode (qMc M_X9_deciders) 21 = .ok (.invokevirtual 89, 3) := by decide +kernel
theorem d_X9_deciders_24 : decode (qMc M_X9_deciders) 24 = .ok (.ifCond .eq 6, 3) := by decide +kernel
theorem d_X9_deciders_27 : decode (qMc M_X9_deciders) 27 = .ok (.iinc 2 1, 3) := by decide +kernel
theorem d_X9_deciders_30 : decode (qMc M_X9_deciders) 30 = .ok (.iinc 3 1, 3) := by decide +kernel
theorem d_X9_deciders_33 : decode (qMc M_X9_deciders) 33 = .ok (.goto (-29), 3) := by decide +kernel
theorem d_X9_deciders_36 : decode (qMc M_X9_deciders) 36 = .ok (.iload_n 2, 1) := by decide +kernel
theorem d_X9_deciders_37 : decode (qMc M_X9_deciders) 37 = .ok (.ireturn, 1) := by decide +kernel
theorem d_X9_leastIdle_0 : decode (qMc M_X9_leastIdle) 0 = .ok (.iconst 0, 1) := by decide +kernel
theorem d_X9_leastIdle_1 : decode (qMc M_X9_leastIdle) 1 = .ok (.istore_n 2, 1) := by decide +kernel
theorem d_X9_leastIdle_2 : decode (qMc M_X9_leastIdle) 2 = .ok (.iload_n 2, 1) := by decide +kernel
theorem d_X9_leastIdle_3 : decode (qMc M_X9_leastIdle) 3 = .ok (.bipush 96, 2) := by decide +kernel
theorem d_X9_leastIdle_5 : decode (qMc M_X9_leastIdle) 5 = .ok (.if_icmp .ge 28, 3) := by decide +kernel
theorem d_X9_leastIdle_8 : decode (qMc M_X9_leastIdle) 8 = .ok (.aload_n 1, 1) := by decide +kernel
theorem d_X9_leastIdle_9 : decode (qMc M_X9_leastIdle) 9 = .ok (.iload_n 2, 1) := by decide +kernel
theorem d_X9_leastIdle_10 : decode (qMc M_X9_leastIdle) 10 = .ok (.invokevirtual 85, 3) := by decide +kernel
theorem d_X9_leastIdle_13 : decode (qMc M_X9_leastIdle) 13 = .ok (.ifCond .eq 14, 3) := by decide +kernel
theorem d_X9_leastIdle_16 : decode (qMc M_X9_leastIdle) 16 = .ok (.aload_n 0, 1) := by decide +kernel
theorem d_X9_leastIdle_17 : decode (qMc M_X9_leastIdle) 17 = .ok (.iload_n 2, 1) := by decide +kernel
theorem d_X9_leastIdle_18 : decode (qMc M_X9_leastIdle) 18 = .ok (.aload_n 1, 1) := by decide +kernel
theorem d_X9_leastIdle_19 : decode (qMc M_X9_leastIdle) 19 = .ok (.invokevirtual 89, 3) := by decide +kernel
theorem d_X9_leastIdle_22 : decode (qMc M_X9_leastIdle) 22 = .ok (.ifCond .ne 5, 3) := by decide +kernel
theorem d_X9_leastIdle_25 : decode (qMc M_X9_leastIdle) 25 = .ok (.iload_n 2, 1) := by decide +kernel
theorem d_X9_leastIdle_26 : decode (qMc M_X9_leastIdle) 26 = .ok (.ireturn, 1) := by decide +kernel
theorem d_X9_leastIdle_27 : decode (qMc M_X9_leastIdle) 27 = .ok (.iinc 2 1, 3) := by decide +kernel
theorem d_X9_leastIdle_30 : decode (qMc M_X9_leastIdle) 30 = .ok (.goto (-28), 3) := by decide +kernel
theorem d_X9_leastIdle_33 : decode (qMc M_X9_leastIdle) 33 = .ok (.iconst (-1), 1) := by decide +kernel
theorem d_X9_leastIdle_34 : decode (qMc M_X9_leastIdle) 34 = .ok (.ireturn, 1) := by decide +kernel
theorem d_X9_firstBadWithout_0 : decode (qMc M_X9_firstBadWithout) 0 = .ok (.aload_n 0, 1) := by decide +kernel
theorem d_X9_firstBadWithout_1 : decode (qMc M_X9_firstBadWithout) 1 = .ok (.getfield 24, 3) := by decide +kernel
theorem d_X9_firstBadWithout_4 : decode (qMc M_X9_firstBadWithout) 4 = .ok (.aload_n 1, 1) := by decide +kernel
theorem d_X9_firstBadWithout_5 : decode (qMc M_X9_firstBadWithout) 5 = .ok (.invokevirtual 93, 3) := by decide +kernel
theorem d_X9_firstBadWithout_8 : decode (qMc M_X9_firstBadWithout) 8 = .ok (.aload_n 0, 1) := by decide +kernel
theorem d_X9_firstBadWithout_9 : decode (qMc M_X9_firstBadWithout) 9 = .ok (.getfield 24, 3) := by decide +kernel
theorem d_X9_firstBadWithout_12 : decode (qMc M_X9_firstBadWithout) 12 = .ok (.getfield 97, 3) := by decide +kernel
theorem d_X9_firstBadWithout_15 : decode (qMc M_X9_firstBadWithout) 15 = .ok (.iload_n 2, 1) := by decide +kernel
theorem d_X9_firstBadWithout_16 : decode (qMc M_X9_firstBadWithout) 16 = .ok (.bipush 24, 2) := by decide +kernel
theorem d_X9_firstBadWithout_18 : decode (qMc M_X9_firstBadWithout) 18 = .ok (.idiv, 1) := by decide +kernel
theorem d_X9_firstBadWithout_19 : decode (qMc M_X9_firstBadWithout) 19 = .ok (.aaload, 1) := by decide +kernel
theorem d_X9_firstBadWithout_20 : decode (qMc M_X9_firstBadWithout) 20 = .ok (.iload_n 2, 1) := by decide +kernel
theorem d_X9_firstBadWithout_21 : decode (qMc M_X9_firstBadWithout) 21 = .ok (.bipush 24, 2) := by decide +kernel
theorem d_X9_firstBadWithout_23 : decode (qMc M_X9_firstBadWithout) 23 = .ok (.irem, 1) := by decide +kernel
theorem d_X9_firstBadWithout_24 : decode (qMc M_X9_firstBadWithout) 24 = .ok (.invokevirtual 101, 3) := by decide +kernel
theorem d_X9_firstBadWithout_27 : decode (qMc M_X9_firstBadWithout) 27 = .ok (.aload_n 0, 1) := by decide +kernel
theorem d_X9_firstBadWithout_28 : decode (qMc M_X9_firstBadWithout) 28 = .ok (.getfield 24, 3) := by decide +kernel
theorem d_X9_firstBadWithout_31 : decode (qMc M_X9_firstBadWithout) 31 = .ok (.invokevirtual 107, 3) := by decide +kernel
theorem d_X9_firstBadWithout_34 : decode (qMc M_X9_firstBadWithout) 34 = .ok (.aload_n 0, 1) := by decide +kernel
theorem d_X9_firstBadWithout_35 : decode (qMc M_X9_firstBadWithout) 35 = .ok (.aload_n 0, 1) := by decide +kernel
theorem d_X9_firstBadWithout_36 : decode (qMc M_X9_firstBadWithout) 36 = .ok (.getfield 24, 3) := by decide +kernel
theorem d_X9_firstBadWithout_39 : decode (qMc M_X9_firstBadWithout) 39 = .ok (.getfield 110, 3) := by decide +kernel
theorem d_X9_firstBadWithout_42 : decode (qMc M_X9_firstBadWithout) 42 = .ok (.iload_n 3, 1) := by decide +kernel
theorem d_X9_firstBadWithout_43 : decode (qMc M_X9_firstBadWithout) 43 = .ok (.invokevirtual 113, 3) := by decide +kernel
theorem d_X9_firstBadWithout_46 : decode (qMc M_X9_firstBadWithout) 46 = .ok (.ireturn, 1) := by decide +kernel
theorem d_X9_mendingMinds_0 : decode (qMc M_X9_mendingMinds) 0 = .ok (.aload_n 0, 1) := by decide +kernel
theorem d_X9_mendingMinds_1 : decode (qMc M_X9_mendingMinds) 1 = .ok (.getfield 24, 3) := by decide +kernel
theorem d_X9_mendingMinds_4 : decode (qMc M_X9_mendingMinds) 4 = .ok (.aload_n 1, 1) := by decide +kernel
theorem d_X9_mendingMinds_5 : decode (qMc M_X9_mendingMinds) 5 = .ok (.invokevirtual 93, 3) := by decide +kernel
theorem d_X9_mendingMinds_8 : decode (qMc M_X9_mendingMinds) 8 = .ok (.iconst 0, 1) := by decide +kernel
theorem d_X9_mendingMinds_9 : decode (qMc M_X9_mendingMinds) 9 = .ok (.istore 4, 2) := by decide +kernel
theorem d_X9_mendingMinds_11 : decode (qMc M_X9_mendingMinds) 11 = .ok (.iconst 0, 1) := by decide +kernel
theorem d_X9_mendingMinds_12 : decode (qMc M_X9_mendingMinds) 12 = .ok (.istore 5, 2) := by decide +kernel
theorem d_X9_mendingMinds_14 : decode (qMc M_X9_mendingMinds) 14 = .ok (.iload 5, 2) := by decide +kernel
theorem d_X9_mendingMinds_16 : decode (qMc M_X9_mendingMinds) 16 = .ok (.bipush 8, 2) := by decide +kernel
theorem d_X9_mendingMinds_18 : decode (qMc M_X9_mendingMinds) 18 = .ok (.if_icmp .gt 63, 3) := by decide +kernel
theorem d_X9_mendingMinds_21 : decode (qMc M_X9_mendingMinds) 21 = .ok (.aload_n 0, 1) := by decide +kernel
theorem d_X9_mendingMinds_22 : decode (qMc M_X9_mendingMinds) 22 = .ok (.getfield 24, 3) := by decide +kernel
theorem d_X9_mendingMinds_25 : decode (qMc M_X9_mendingMinds) 25 = .ok (.getfield 97, 3) := by decide +kernel
theorem d_X9_mendingMinds_28 : decode (qMc M_X9_mendingMinds) 28 = .ok (.iload_n 2, 1) := by decide +kernel
theorem d_X9_mendingMinds_29 : decode (qMc M_X9_mendingMinds) 29 = .ok (.bipush 24, 2) := by decide +kernel
theorem d_X9_mendingMinds_31 : decode (qMc M_X9_mendingMinds) 31 = .ok (.idiv, 1) := by decide +kernel
theorem d_X9_mendingMinds_32 : decode (qMc M_X9_mendingMinds) 32 = .ok (.aaload, 1) := by decide +kernel
theorem d_X9_mendingMinds_33 : decode (qMc M_X9_mendingMinds) 33 = .ok (.getfield 117, 3) := by decide +kernel
theorem d_X9_mendingMinds_36 : decode (qMc M_X9_mendingMinds) 36 = .ok (.iload_n 2, 1) := by decide +kernel
theorem d_X9_mendingMinds_37 : decode (qMc M_X9_mendingMinds) 37 = .ok (.bipush 24, 2) := by decide +kernel
theorem d_X9_mendingMinds_39 : decode (qMc M_X9_mendingMinds) 39 = .ok (.irem, 1) := by decide +kernel
theorem d_X9_mendingMinds_40 : decode (qMc M_X9_mendingMinds) 40 = .ok (.iload 5, 2) := by decide +kernel
theorem d_X9_mendingMinds_42 : decode (qMc M_X9_mendingMinds) 42 = .ok (.iastore, 1) := by decide +kernel
theorem d_X9_mendingMinds_43 : decode (qMc M_X9_mendingMinds) 43 = .ok (.aload_n 0, 1) := by decide +kernel
theorem d_X9_mendingMinds_44 : decode (qMc M_X9_mendingMinds) 44 = .ok (.getfield 24, 3) := by decide +kernel
theorem d_X9_mendingMinds_47 : decode (qMc M_X9_mendingMinds) 47 = .ok (.invokevirtual 107, 3) := by decide +kernel
theorem d_X9_mendingMinds_50 : decode (qMc M_X9_mendingMinds) 50 = .ok (.aload_n 0, 1) := by decide +kernel
theorem d_X9_mendingMinds_51 : decode (qMc M_X9_mendingMinds) 51 = .ok (.aload_n 0, 1) := by decide +kernel
theorem d_X9_mendingMinds_52 : decode (qMc M_X9_mendingMinds) 52 = .ok (.getfield 24, 3) := by decide +kernel
theorem d_X9_mendingMinds_55 : decode (qMc M_X9_mendingMinds) 55 = .ok (.getfield 110, 3) := by decide +kernel
theorem d_X9_mendingMinds_58 : decode (qMc M_X9_mendingMinds) 58 = .ok (.iload_n 3, 1) := by decide +kernel
theorem d_X9_mendingMinds_59 : decode (qMc M_X9_mendingMinds) 59 = .ok (.invokevirtual 113, 3) := by decide +kernel
theorem d_X9_mendingMinds_62 : decode (qMc M_X9_mendingMinds) 62 = .ok (.iconst (-1), 1) := by decide +kernel
theorem d_X9_mendingMinds_63 : decode (qMc M_X9_mendingMinds) 63 = .ok (.if_icmp .ne 12, 3) := by decide +kernel
theorem d_X9_mendingMinds_66 : decode (qMc M_X9_mendingMinds) 66 = .ok (.iload 4, 2) := by decide +kernel
theorem d_X9_mendingMinds_68 : decode (qMc M_X9_mendingMinds) 68 = .ok (.iconst 1, 1) := by decide +kernel
theorem d_X9_mendingMinds_69 : decode (qMc M_X9_mendingMinds) 69 = .ok (.iload 5, 2) := by decide +kernel
theorem d_X9_mendingMinds_71 : decode (qMc M_X9_mendingMinds) 71 = .ok (.ishl, 1) := by decide +kernel
theorem d_X9_mendingMinds_72 : decode (qMc M_X9_mendingMinds) 72 = .ok (.ior, 1) := by decide +kernel
theorem d_X9_mendingMinds_73 : decode (qMc M_X9_mendingMinds) 73 = .ok (.istore 4, 2) := by decide +kernel
theorem d_X9_mendingMinds_75 : decode (qMc M_X9_mendingMinds) 75 = .ok (.iinc 5 1, 3) := by decide +kernel
theorem d_X9_mendingMinds_78 : decode (qMc M_X9_mendingMinds) 78 = .ok (.goto (-64), 3) := by decide +kernel
theorem d_X9_mendingMinds_81 : decode (qMc M_X9_mendingMinds) 81 = .ok (.iload 4, 2) := by decide +kernel
theorem d_X9_mendingMinds_83 : decode (qMc M_X9_mendingMinds) 83 = .ok (.ireturn, 1) := by decide +kernel
theorem d_X9_tryOneRuleMore_0 : decode (qMc M_X9_tryOneRuleMore) 0 = .ok (.aload_n 0, 1) := by decide +kernel
theorem d_X9_tryOneRuleMore_1 : decode (qMc M_X9_tryOneRuleMore) 1 = .ok (.getfield 28, 3) := by decide +kernel
theorem d_X9_tryOneRuleMore_4 : decode (qMc M_X9_tryOneRuleMore) 4 = .ok (.iconst 0, 1) := by decide +kernel
theorem d_X9_tryOneRuleMore_5 : decode (qMc M_X9_tryOneRuleMore) 5 = .ok (.invokestatic 54, 3) := by decide +kernel
theorem d_X9_tryOneRuleMore_8 : decode (qMc M_X9_tryOneRuleMore) 8 = .ok (.aload_n 0, 1) := by decide +kernel
theorem d_X9_tryOneRuleMore_9 : decode (qMc M_X9_tryOneRuleMore) 9 = .ok (.aload_n 1, 1) := by decide +kernel
theorem d_X9_tryOneRuleMore_10 : decode (qMc M_X9_tryOneRuleMore) 10 = .ok (.getfield 110, 3) := by decide +kernel
theorem d_X9_tryOneRuleMore_13 : decode (qMc M_X9_tryOneRuleMore) 13 = .ok (.iload_n 2, 1) := by decide +kernel
theorem d_X9_tryOneRuleMore_14 : decode (qMc M_X9_tryOneRuleMore) 14 = .ok (.invokevirtual 113, 3) := by decide +kernel
theorem d_X9_tryOneRuleMore_17 : decode (qMc M_X9_tryOneRuleMore) 17 = .ok (.istore_n 3, 1) := by decide +kernel
theorem d_X9_tryOneRuleMore_18 : decode (qMc M_X9_tryOneRuleMore) 18 = .ok (.iconst 1, 1) := by decide +kernel
theorem d_X9_tryOneRuleMore_19 : decode (qMc M_X9_tryOneRuleMore) 19 = .ok (.istore 4, 2) := by decide +kernel
theorem d_X9_tryOneRuleMore_21 : decode (qMc M_X9_tryOneRuleMore) 21 = .ok (.iload 4, 2) := by decide +kernel
theorem d_X9_tryOneRuleMore_23 : decode (qMc M_X9_tryOneRuleMore) 23 = .ok (.iload_n 3, 1) := by decide +kernel
theorem d_X9_tryOneRuleMore_24 : decode (qMc M_X9_tryOneRuleMore) 24 = .ok (.iconst (-1), 1) := by decide +kernel
theorem d_X9_tryOneRuleMore_25 : decode (qMc M_X9_tryOneRuleMore) 25 = .ok (.if_icmp .ne 7, 3) := by decide +kernel
theorem d_X9_tryOneRuleMore_28 : decode (qMc M_X9_tryOneRuleMore) 28 = .ok (.iload_n 2, 1) := by decide +kernel
theorem d_X9_tryOneRuleMore_29 : decode (qMc M_X9_tryOneRuleMore) 29 = .ok (.goto 4, 3) := by decide +kernel
theorem d_X9_tryOneRuleMore_32 : decode (qMc M_X9_tryOneRuleMore) 32 = .ok (.iload_n 3, 1) := by decide +kernel
theorem d_X9_tryOneRuleMore_33 : decode (qMc M_X9_tryOneRuleMore) 33 = .ok (.if_icmp .gt 19, 3) := by decide +kernel
theorem d_X9_tryOneRuleMore_36 : decode (qMc M_X9_tryOneRuleMore) 36 = .ok (.aload_n 0, 1) := by decide +kernel
theorem d_X9_tryOneRuleMore_37 : decode (qMc M_X9_tryOneRuleMore) 37 = .ok (.aload_n 1, 1) := by decide +kernel
theorem d_X9_tryOneRuleMore_38 : decode (qMc M_X9_tryOneRuleMore) 38 = .ok (.getfield 110, 3) := by decide +kernel
theorem d_X9_tryOneRuleMore_41 : decode (qMc M_X9_tryOneRuleMore) 41 = .ok (.iload 4, 2) := by decide +kernel
theorem d_X9_tryOneRuleMore_43 : decode (qMc M_X9_tryOneRuleMore) 43 = .ok (.invokevirtual 60, 3) := by decide +kernel
theorem d_X9_tryOneRuleMore_46 : decode (qMc M_X9_tryOneRuleMore) 46 = .ok (.iinc 4 1, 3) := by decide +kernel
theorem d_X9_tryOneRuleMore_49 : decode (qMc M_X9_tryOneRuleMore) 49 = .ok (.goto (-28), 3) := by decide +kernel
theorem d_X9_tryOneRuleMore_52 : decode (qMc M_X9_tryOneRuleMore) 52 = .ok (.aload_n 1, 1) := by decide +kernel
theorem d_X9_tryOneRuleMore_53 : decode (qMc M_X9_tryOneRuleMore) 53 = .ok (.getfield 110, 3) := by decide +kernel
theorem d_X9_tryOneRuleMore_56 : decode (qMc M_X9_tryOneRuleMore) 56 = .ok (.iconst 0, 1) := by decide +kernel
theorem d_X9_tryOneRuleMore_57 : decode (qMc M_X9_tryOneRuleMore) 57 = .ok (.aload_n 0, 1) := by decide +kernel
theorem d_X9_tryOneRuleMore_58 : decode (qMc M_X9_tryOneRuleMore) 58 = .ok (.getfield 24, 3) := by decide +kernel
theorem d_X9_tryOneRuleMore_61 : decode (qMc M_X9_tryOneRuleMore) 61 = .ok (.getfield 110, 3) := by decide +kernel
theorem d_X9_tryOneRuleMore_64 : decode (qMc M_X9_tryOneRuleMore) 64 = .ok (.iconst 0, 1) := by decide +kernel
theorem d_X9_tryOneRuleMore_65 : decode (qMc M_X9_tryOneRuleMore) 65 = .ok (.sipush 648, 3) := by decide +kernel
theorem d_X9_tryOneRuleMore_68 : decode (qMc M_X9_tryOneRuleMore) 68 = .ok (.invokestatic 120, 3) := by decide +kernel
theorem d_X9_tryOneRuleMore_71 : decode (qMc M_X9_tryOneRuleMore) 71 = .ok (.aload_n 0, 1) := by decide +kernel
theorem d_X9_tryOneRuleMore_72 : decode (qMc M_X9_tryOneRuleMore) 72 = .ok (.iconst 0, 1) := by decide +kernel
theorem d_X9_tryOneRuleMore_73 : decode (qMc M_X9_tryOneRuleMore) 73 = .ok (.putfield 36, 3) := by decide +kernel
theorem d_X9_tryOneRuleMore_76 : decode (qMc M_X9_tryOneRuleMore) 76 = .ok (.aload_n 0, 1) := by decide +kernel
theorem d_X9_tryOneRuleMore_77 : decode (qMc M_X9_tryOneRuleMore) 77 = .ok (.iconst (-1), 1) := by decide +kernel
theorem d_X9_tryOneRuleMore_78 : decode (qMc M_X9_tryOneRuleMore) 78 = .ok (.putfield 39, 3) := by decide +kernel
theorem d_X9_tryOneRuleMore_81 : decode (qMc M_X9_tryOneRuleMore) 81 = .ok (.iconst 0, 1) := by decide +kernel
theorem d_X9_tryOneRuleMore_82 : decode (qMc M_X9_tryOneRuleMore) 82 = .ok (.istore 4, 2) := by decide +kernel
theorem d_X9_tryOneRuleMore_84 : decode (qMc M_X9_tryOneRuleMore) 84 = .ok (.iload 4, 2) := by decide +kernel
theorem d_X9_tryOneRuleMore_86 : decode (qMc M_X9_tryOneRuleMore) 86 = .ok (.sipush 567, 3) := by decide +kernel
theorem d_X9_tryOneRuleMore_89 : decode (qMc M_X9_tryOneRuleMore) 89 = .ok (.if_icmp .ge 31, 3) := by decide +kernel
theorem d_X9_tryOneRuleMore_92 : decode (qMc M_X9_tryOneRuleMore) 92 = .ok (.aload_n 0, 1) := by decide +kernel
theorem d_X9_tryOneRuleMore_93 : decode (qMc M_X9_tryOneRuleMore) 93 = .ok (.getfield 28, 3) := by decide +kernel
theorem d_X9_tryOneRuleMore_96 : decode (qMc M_X9_tryOneRuleMore) 96 = .ok (.iload 4, 2) := by decide +kernel
theorem d_X9_tryOneRuleMore_98 : decode (qMc M_X9_tryOneRuleMore) 98 = .ok (.iaload, 1) := by decide +kernel
theorem d_X9_tryOneRuleMore_99 : decode (qMc M_X9_tryOneRuleMore) 99 = .ok (.ifCond .ne 8, 3) := by decide +kernel
theorem d_X9_tryOneRuleMore_102 : decode (qMc M_X9_tryOneRuleMore) 102 = .ok (.iload_n 3, 1) := by decide +kernel
theorem d_X9_tryOneRuleMore_103 : decode (qMc M_X9_tryOneRuleMore) 103 = .ok (.iconst (-1), 1) := by decide +kernel
theorem d_X9_tryOneRuleMore_104 : decode (qMc M_X9_tryOneRuleMore) 104 = .ok (.if_icmp .ne 10, 3) := by decide +kernel
theorem d_X9_tryOneRuleMore_107 : decode (qMc M_X9_tryOneRuleMore) 107 = .ok (.aload_n 0, 1) := by decide +kernel
theorem d_X9_tryOneRuleMore_108 : decode (qMc M_X9_tryOneRuleMore) 108 = .ok (.iload 4, 2) := by decide +kernel
theorem d_X9_tryOneRuleMore_110 : decode (qMc M_X9_tryOneRuleMore) 110 = .ok (.iload_n 2, 1) := by decide +kernel
theorem d_X9_tryOneRuleMore_111 : decode (qMc M_X9_tryOneRuleMore) 111 = .ok (.invokevirtual 126, 3) := by decide +kernel
theorem d_X9_tryOneRuleMore_114 : decode (qMc M_X9_tryOneRuleMore) 114 = .ok (.iinc 4 1, 3) := by decide +kernel
theorem d_X9_tryOneRuleMore_117 : decode (qMc M_X9_tryOneRuleMore) 117 = .ok (.goto (-33), 3) := by decide +kernel
theorem d_X9_tryOneRuleMore_120 : decode (qMc M_X9_tryOneRuleMore) 120 = .ok (.return_, 1) := by decide +kernel
theorem d_X9_tryCase_0 : decode (qMc M_X9_tryCase) 0 = .ok (.aload_n 0, 1) := by decide +kernel
theorem d_X9_tryCase_1 : decode (qMc M_X9_tryCase) 1 = .ok (.getfield 24, 3) := by decide +kernel
theorem d_X9_tryCase_4 : decode (qMc M_X9_tryCase) 4 = .ok (.getfield 110, 3) := by decide +kernel
theorem d_X9_tryCase_7 : decode (qMc M_X9_tryCase) 7 = .ok (.iload_n 1, 1) := by decide +kernel
theorem d_X9_tryCase_8 : decode (qMc M_X9_tryCase) 8 = .ok (.iaload, 1) := by decide +kernel
theorem d_X9_tryCase_9 : decode (qMc M_X9_tryCase) 9 = .ok (.istore_n 3, 1) := by decide +kernel
theorem d_X9_tryCase_10 : decode (qMc M_X9_tryCase) 10 = .ok (.iconst 0, 1) := by decide +kernel
theorem d_X9_tryCase_11 : decode (qMc M_X9_tryCase) 11 = .ok (.istore 4, 2) := by decide +kernel
theorem d_X9_tryCase_13 : decode (qMc M_X9_tryCase) 13 = .ok (.iload 4, 2) := by decide +kernel
theorem d_X9_tryCase_15 : decode (qMc M_X9_tryCase) 15 = .ok (.bipush 8, 2) := by decide +kernel
theorem d_X9_tryCase_17 : decode (qMc M_X9_tryCase) 17 = .ok (.if_icmp .ge 100, 3) := by decide +kernel
theorem d_X9_tryCase_20 : decode (qMc M_X9_tryCase) 20 = .ok (.aload_n 0, 1) := by decide +kernel
theorem d_X9_tryCase_21 : decode (qMc M_X9_tryCase) 21 = .ok (.getfield 24, 3) := by decide +kernel
theorem d_X9_tryCase_24 : decode (qMc M_X9_tryCase) 24 = .ok (.getfield 110, 3) := by decide +kernel
theorem d_X9_tryCase_27 : decode (qMc M_X9_tryCase) 27 = .ok (.iload_n 1, 1) := by decide +kernel
theorem d_X9_tryCase_28 : decode (qMc M_X9_tryCase) 28 = .ok (.iload 4, 2) := by decide +kernel
theorem d_X9_tryCase_30 : decode (qMc M_X9_tryCase) 30 = .ok (.iastore, 1) := by decide +kernel
theorem d_X9_tryCase_31 : decode (qMc M_X9_tryCase) 31 = .ok (.iload 4, 2) := by decide +kernel
theorem d_X9_tryCase_33 : decode (qMc M_X9_tryCase) 33 = .ok (.iload_n 3, 1) := by decide +kernel
theorem d_X9_tryCase_34 : decode (qMc M_X9_tryCase) 34 = .ok (.if_icmp .eq 77, 3) := by decide +kernel
theorem d_X9_tryCase_37 : decode (qMc M_X9_tryCase) 37 = .ok (.aload_n 0, 1) := by decide +kernel
theorem d_X9_tryCase_38 : decode (qMc M_X9_tryCase) 38 = .ok (.getfield 28, 3) := by decide +kernel
theorem d_X9_tryCase_41 : decode (qMc M_X9_tryCase) 41 = .ok (.iload_n 1, 1) := by decide +kernel
theorem d_X9_tryCase_42 : decode (qMc M_X9_tryCase) 42 = .ok (.iaload, 1) := by decide +kernel
theorem d_X9_tryCase_43 : decode (qMc M_X9_tryCase) 43 = .ok (.ifCond .eq 19, 3) := by decide +kernel
theorem d_X9_tryCase_46 : decode (qMc M_X9_tryCase) 46 = .ok (.aload_n 0, 1) := by decide +kernel
theorem d_X9_tryCase_47 : decode (qMc M_X9_tryCase) 47 = .ok (.aload_n 0, 1) := by decide +kernel
theorem d_X9_tryCase_48 : decode (qMc M_X9_tryCase) 48 = .ok (.getfield 24, 3) := by decide +kernel
theorem d_X9_tryCase_51 : decode (qMc M_X9_tryCase) 51 = .ok (.getfield 110, 3) := by decide +kernel
theorem d_X9_tryCase_54 : decode (qMc M_X9_tryCase) 54 = .ok (.iload_n 2, 1) := by decide +kernel
theorem d_X9_tryCase_55 : decode (qMc M_X9_tryCase) 55 = .ok (.invokevirtual 113, 3) := by decide +kernel
theorem d_X9_tryCase_58 : decode (qMc M_X9_tryCase) 58 = .ok (.iconst (-1), 1) := by decide +kernel
theorem d_X9_tryCase_59 : decode (qMc M_X9_tryCase) 59 = .ok (.if_icmp .ne 52, 3) := by decide +kernel
theorem d_X9_tryCase_62 : decode (qMc M_X9_tryCase) 62 = .ok (.aload_n 0, 1) := by decide +kernel
theorem d_X9_tryCase_63 : decode (qMc M_X9_tryCase) 63 = .ok (.dup, 1) := by decide +kernel
theorem d_X9_tryCase_64 : decode (qMc M_X9_tryCase) 64 = .ok (.getfield 36, 3) := by decide +kernel
theorem d_X9_tryCase_67 : decode (qMc M_X9_tryCase) 67 = .ok (.iconst 1, 1) := by decide +kernel
theorem d_X9_tryCase_68 : decode (qMc M_X9_tryCase) 68 = .ok (.iadd, 1) := by decide +kernel
theorem d_X9_tryCase_69 : decode (qMc M_X9_tryCase) 69 = .ok (.putfield 36, 3) := by decide +kernel
theorem d_X9_tryCase_72 : decode (qMc M_X9_tryCase) 72 = .ok (.aload_n 0, 1) := by decide +kernel
theorem d_X9_tryCase_73 : decode (qMc M_X9_tryCase) 73 = .ok (.getfield 39, 3) := by decide +kernel
theorem d_X9_tryCase_76 : decode (qMc M_X9_tryCase) 76 = .ok (.iconst (-1), 1) := by decide +kernel
theorem d_X9_tryCase_77 : decode (qMc M_X9_tryCase) 77 = .ok (.if_icmp .ne 34, 3) := by decide +kernel
theorem d_X9_tryCase_80 : decode (qMc M_X9_tryCase) 80 = .ok (.aload_n 0, 1) := by decide +kernel
theorem d_X9_tryCase_81 : decode (qMc M_X9_tryCase) 81 = .ok (.sipush 1000, 3) := by decide +kernel
theorem d_X9_tryCase_84 : decode (qMc M_X9_tryCase) 84 = .ok (.iload_n 1, 1) := by decide +kernel
theorem d_X9_tryCase_85 : decode (qMc M_X9_tryCase) 85 = .ok (.invokestatic 130, 3) := by decide +kernel
theorem d_X9_tryCase_88 : decode (qMc M_X9_tryCase) 88 = .ok (.imul, 1) := by decide +kernel
theorem d_X9_tryCase_89 : decode (qMc M_X9_tryCase) 89 = .ok (.bipush 100, 2) := by decide +kernel
theorem d_X9_tryCase_91 : decode (qMc M_X9_tryCase) 91 = .ok (.iload_n 1, 1) := by decide +kernel
theorem d_X9_tryCase_92 : decode (qMc M_X9_tryCase) 92 = .ok (.invokestatic 134, 3) := by decide +kernel
theorem d_X9_tryCase_95 : decode (qMc M_X9_tryCase) 95 = .ok (.imul, 1) := by decide +kernel
theorem d_X9_tryCase_96 : decode (qMc M_X9_tryCase) 96 = .ok (.iadd, 1) := by decide +kernel
theorem d_X9_tryCase_97 : decode (qMc M_X9_tryCase) 97 = .ok (.bipush 10, 2) := by decide +kernel
theorem d_X9_tryCase_99 : decode (qMc M_X9_tryCase) 99 = .ok (.iload_n 1, 1) := by decide +kernel
theorem d_X9_tryCase_100 : decode (qMc M_X9_tryCase) 100 = .ok (.invokestatic 137, 3) := by decide +kernel
theorem d_X9_tryCase_103 : decode (qMc M_X9_tryCase) 103 = .ok (.imul, 1) := by decide +kernel
theorem d_X9_tryCase_104 : decode (qMc M_X9_tryCase) 104 = .ok (.iadd, 1) := by decide +kernel
theorem d_X9_tryCase_105 : decode (qMc M_X9_tryCase) 105 = .ok (.iload 4, 2) := by decide +kernel
theorem d_X9_tryCase_107 : decode (qMc M_X9_tryCase) 107 = .ok (.iadd, 1) := by decide +kernel
theorem d_X9_tryCase_108 : decode (qMc M_X9_tryCase) 108 = .ok (.putfield 39, 3) := by decide +kernel
theorem d_X9_tryCase_111 : decode (qMc M_X9_tryCase) 111 = .ok (.iinc 4 1, 3) := by decide +kernel
theorem d_X9_tryCase_114 : decode (qMc M_X9_tryCase) 114 = .ok (.goto (-101), 3) := by decide +kernel
theorem d_X9_tryCase_117 : decode (qMc M_X9_tryCase) 117 = .ok (.aload_n 0, 1) := by decide +kernel
theorem d_X9_tryCase_118 : decode (qMc M_X9_tryCase) 118 = .ok (.getfield 24, 3) := by decide +kernel
theorem d_X9_tryCase_121 : decode (qMc M_X9_tryCase) 121 = .ok (.getfield 110, 3) := by decide +kernel
theorem d_X9_tryCase_124 : decode (qMc M_X9_tryCase) 124 = .ok (.iload_n 1, 1) := by decide +kernel
theorem d_X9_tryCase_125 : decode (qMc M_X9_tryCase) 125 = .ok (.iload_n 3, 1) := by decide +kernel
theorem d_X9_tryCase_126 : decode (qMc M_X9_tryCase) 126 = .ok (.iastore, 1) := by decide +kernel
theorem d_X9_tryCase_127 : decode (qMc M_X9_tryCase) 127 = .ok (.return_, 1) := by decide +kernel
theorem d_X9_firstUnlike_0 : decode (qMc M_X9_firstUnlike) 0 = .ok (.aload_n 0, 1) := by decide +kernel
theorem d_X9_firstUnlike_1 : decode (qMc M_X9_firstUnlike) 1 = .ok (.getfield 12, 3) := by decide +kernel
theorem d_X9_firstUnlike_4 : decode (qMc M_X9_firstUnlike) 4 = .ok (.iload_n 3, 1) := by decide +kernel
theorem d_X9_firstUnlike_5 : decode (qMc M_X9_firstUnlike) 5 = .ok (.iconst 0, 1) := by decide +kernel
theorem d_X9_firstUnlike_6 : decode (qMc M_X9_firstUnlike) 6 = .ok (.iconst 0, 1) := by decide +kernel
theorem d_X9_firstUnlike_7 : decode (qMc M_X9_firstUnlike) 7 = .ok (.invokevirtual 42, 3) := by decide +kernel
theorem d_X9_firstUnlike_10 : decode (qMc M_X9_firstUnlike) 10 = .ok (.aload_n 0, 1) := by decide +kernel
theorem d_X9_firstUnlike_11 : decode (qMc M_X9_firstUnlike) 11 = .ok (.getfield 18, 3) := by decide +kernel
theorem d_X9_firstUnlike_14 : decode (qMc M_X9_firstUnlike) 14 = .ok (.iload_n 3, 1) := by decide +kernel
theorem d_X9_firstUnlike_15 : decode (qMc M_X9_firstUnlike) 15 = .ok (.iconst 0, 1) := by decide +kernel
theorem d_X9_firstUnlike_16 : decode (qMc M_X9_firstUnlike) 16 = .ok (.iconst 0, 1) := by decide +kernel
theorem d_X9_firstUnlike_17 : decode (qMc M_X9_firstUnlike) 17 = .ok (.invokevirtual 42, 3) := by decide +kernel
theorem d_X9_firstUnlike_20 : decode (qMc M_X9_firstUnlike) 20 = .ok (.iconst 0, 1) := by decide +kernel
theorem d_X9_firstUnlike_21 : decode (qMc M_X9_firstUnlike) 21 = .ok (.istore 4, 2) := by decide +kernel
theorem d_X9_firstUnlike_23 : decode (qMc M_X9_firstUnlike) 23 = .ok (.iload 4, 2) := by decide +kernel
theorem d_X9_firstUnlike_25 : decode (qMc M_X9_firstUnlike) 25 = .ok (.aload_n 0, 1) := by decide +kernel
theorem d_X9_firstUnlike_26 : decode (qMc M_X9_firstUnlike) 26 = .ok (.getfield 12, 3) := by decide +kernel
theorem d_X9_firstUnlike_29 : decode (qMc M_X9_firstUnlike) 29 = .ok (.getfield 67, 3) := by decide +kernel
theorem d_X9_firstUnlike_32 : decode (qMc M_X9_firstUnlike) 32 = .ok (.if_icmp .ge 86, 3) := by decide +kernel
theorem d_X9_firstUnlike_35 : decode (qMc M_X9_firstUnlike) 35 = .ok (.aload_n 0, 1) := by decide +kernel
theorem d_X9_firstUnlike_36 : decode (qMc M_X9_firstUnlike) 36 = .ok (.getfield 12, 3) := by decide +kernel
theorem d_X9_firstUnlike_39 : decode (qMc M_X9_firstUnlike) 39 = .ok (.getfield 70, 3) := by decide +kernel
theorem d_X9_firstUnlike_42 : decode (qMc M_X9_firstUnlike) 42 = .ok (.ifCond .ne 76, 3) := by decide +kernel
theorem d_X9_firstUnlike_45 : decode (qMc M_X9_firstUnlike) 45 = .ok (.aload_n 0, 1) := by decide +kernel
theorem d_X9_firstUnlike_46 : decode (qMc M_X9_firstUnlike) 46 = .ok (.getfield 18, 3) := by decide +kernel
theorem d_X9_firstUnlike_49 : decode (qMc M_X9_firstUnlike) 49 = .ok (.getfield 70, 3) := by decide +kernel
theorem d_X9_firstUnlike_52 : decode (qMc M_X9_firstUnlike) 52 = .ok (.ifCond .ne 66, 3) := by decide +kernel
theorem d_X9_firstUnlike_55 : decode (qMc M_X9_firstUnlike) 55 = .ok (.aload_n 0, 1) := by decide +kernel
theorem d_X9_firstUnlike_56 : decode (qMc M_X9_firstUnlike) 56 = .ok (.getfield 12, 3) := by decide +kernel
theorem d_X9_firstUnlike_59 : decode (qMc M_X9_firstUnlike) 59 = .ok (.aload_n 1, 1) := by decide +kernel
theorem d_X9_firstUnlike_60 : decode (qMc M_X9_firstUnlike) 60 = .ok (.invokevirtual 76, 3) := by decide +kernel
theorem d_X9_firstUnlike_63 : decode (qMc M_X9_firstUnlike) 63 = .ok (.aload_n 0, 1) := by decide +kernel
theorem d_X9_firstUnlike_64 : decode (qMc M_X9_firstUnlike) 64 = .ok (.getfield 18, 3) := by decide +kernel
theorem d_X9_firstUnlike_67 : decode (qMc M_X9_firstUnlike) 67 = .ok (.aload_n 2, 1) := by decide +kernel
theorem d_X9_firstUnlike_68 : decode (qMc M_X9_firstUnlike) 68 = .ok (.invokevirtual 76, 3) := by decide +kernel
theorem d_X9_firstUnlike_71 : decode (qMc M_X9_firstUnlike) 71 = .ok (.iconst 0, 1) := by decide +kernel
theorem d_X9_firstUnlike_72 : decode (qMc M_X9_firstUnlike) 72 = .ok (.istore 5, 2) := by decide +kernel
theorem d_X9_firstUnlike_74 : decode (qMc M_X9_firstUnlike) 74 = .ok (.iload 5, 2) := by decide +kernel
theorem d_X9_firstUnlike_76 : decode (qMc M_X9_firstUnlike) 76 = .ok (.iload_n 3, 1) := by decide +kernel
theorem d_X9_firstUnlike_77 : decode (qMc M_X9_firstUnlike) 77 = .ok (.if_icmp .ge 35, 3) := by decide +kernel
theorem d_X9_firstUnlike_80 : decode (qMc M_X9_firstUnlike) 80 = .ok (.aload_n 0, 1) := by decide +kernel
theorem d_X9_firstUnlike_81 : decode (qMc M_X9_firstUnlike) 81 = .ok (.getfield 12, 3) := by decide +kernel
theorem d_X9_firstUnlike_84 : decode (qMc M_X9_firstUnlike) 84 = .ok (.getfield 140, 3) := by decide +kernel
theorem d_X9_firstUnlike_87 : decode (qMc M_X9_firstUnlike) 87 = .ok (.iload 5, 2) := by decide +kernel
theorem d_X9_firstUnlike_89 : decode (qMc M_X9_firstUnlike) 89 = .ok (.iaload, 1) := by decide +kernel
theorem d_X9_firstUnlike_90 : decode (qMc M_X9_firstUnlike) 90 = .ok (.aload_n 0, 1) := by decide +kernel
theorem d_X9_firstUnlike_91 : decode (qMc M_X9_firstUnlike) 91 = .ok (.getfield 18, 3) := by decide +kernel
theorem d_X9_firstUnlike_94 : decode (qMc M_X9_firstUnlike) 94 = .ok (.getfield 140, 3) := by decide +kernel
theorem d_X9_firstUnlike_97 : decode (qMc M_X9_firstUnlike) 97 = .ok (.iload 5, 2) := by decide +kernel
theorem d_X9_firstUnlike_99 : decode (qMc M_X9_firstUnlike) 99 = .ok (.iaload, 1) := by decide +kernel
theorem d_X9_firstUnlike_100 : decode (qMc M_X9_firstUnlike) 100 = .ok (.if_icmp .eq 6, 3) := by decide +kernel
theorem d_X9_firstUnlike_103 : decode (qMc M_X9_firstUnlike) 103 = .ok (.iload 5, 2) := by decide +kernel
theorem d_X9_firstUnlike_105 : decode (qMc M_X9_firstUnlike) 105 = .ok (.ireturn, 1) := by decide +kernel
theorem d_X9_firstUnlike_106 : decode (qMc M_X9_firstUnlike) 106 = .ok (.iinc 5 1, 3) := by decide +kernel
theorem d_X9_firstUnlike_109 : decode (qMc M_X9_firstUnlike) 109 = .ok (.goto (-35), 3) := by decide +kernel
theorem d_X9_firstUnlike_112 : decode (qMc M_X9_firstUnlike) 112 = .ok (.iinc 4 1, 3) := by decide +kernel
theorem d_X9_firstUnlike_115 : decode (qMc M_X9_firstUnlike) 115 = .ok (.goto (-92), 3) := by decide +kernel
theorem d_X9_firstUnlike_118 : decode (qMc M_X9_firstUnlike) 118 = .ok (.iconst (-1), 1) := by decide +kernel
theorem d_X9_firstUnlike_119 : decode (qMc M_X9_firstUnlike) 119 = .ok (.ireturn, 1) := by decide +kernel
theorem d_X9_fewestPages_0 : decode (qMc M_X9_fewestPages) 0 = .ok (.iconst (-1), 1) := by decide +kernel
theorem d_X9_fewestPages_1 : decode (qMc M_X9_fewestPages) 1 = .ok (.istore_n 3, 1) := by decide +kernel
theorem d_X9_fewestPages_2 : decode (qMc M_X9_fewestPages) 2 = .ok (.iconst 0, 1) := by decide +kernel
theorem d_X9_fewestPages_3 : decode (qMc M_X9_fewestPages) 3 = .ok (.istore 4, 2) := by decide +kernel
theorem d_X9_fewestPages_5 : decode (qMc M_X9_fewestPages) 5 = .ok (.iload 4, 2) := by decide +kernel
theorem d_X9_fewestPages_7 : decode (qMc M_X9_fewestPages) 7 = .ok (.bipush 16, 2) := by decide +kernel
theorem d_X9_fewestPages_9 : decode (qMc M_X9_fewestPages) 9 = .ok (.if_icmp .ge 52, 3) := by decide +kernel
theorem d_X9_fewestPages_12 : decode (qMc M_X9_fewestPages) 12 = .ok (.iload_n 3, 1) := by decide +kernel
theorem d_X9_fewestPages_13 : decode (qMc M_X9_fewestPages) 13 = .ok (.iconst (-1), 1) := by decide +kernel
theorem d_X9_fewestPages_14 : decode (qMc M_X9_fewestPages) 14 = .ok (.if_icmp .eq 15, 3) := by decide +kernel
theorem d_X9_fewestPages_17 : decode (qMc M_X9_fewestPages) 17 = .ok (.iload 4, 2) := by decide +kernel
theorem d_X9_fewestPages_19 : decode (qMc M_X9_fewestPages) 19 = .ok (.invokestatic 143, 3) := by decide +kernel
theorem d_X9_fewestPages_22 : decode (qMc M_X9_fewestPages) 22 = .ok (.iload_n 3, 1) := by decide +kernel
theorem d_X9_fewestPages_23 : decode (qMc M_X9_fewestPages) 23 = .ok (.invokestatic 143, 3) := by decide +kernel
theorem d_X9_fewestPages_26 : decode (qMc M_X9_fewestPages) 26 = .ok (.if_icmp .ge 7, 3) := by decide +kernel
theorem d_X9_fewestPages_29 : decode (qMc M_X9_fewestPages) 29 = .ok (.iconst 1, 1) := by decide +kernel
theorem d_X9_fewestPages_30 : decode (qMc M_X9_fewestPages) 30 = .ok (.goto 4, 3) := by decide +kernel
theorem d_X9_fewestPages_33 : decode (qMc M_X9_fewestPages) 33 = .ok (.iconst 0, 1) := by decide +kernel
theorem d_X9_fewestPages_34 : decode (qMc M_X9_fewestPages) 34 = .ok (.istore 5, 2) := by decide +kernel
theorem d_X9_fewestPages_36 : decode (qMc M_X9_fewestPages) 36 = .ok (.iload 5, 2) := by decide +kernel
theorem d_X9_fewestPages_38 : decode (qMc M_X9_fewestPages) 38 = .ok (.ifCond .eq 17, 3) := by decide +kernel
theorem d_X9_fewestPages_41 : decode (qMc M_X9_fewestPages) 41 = .ok (.aload_n 0, 1) := by decide +kernel
theorem d_X9_fewestPages_42 : decode (qMc M_X9_fewestPages) 42 = .ok (.aload_n 1, 1) := by decide +kernel
theorem d_X9_fewestPages_43 : decode (qMc M_X9_fewestPages) 43 = .ok (.iload 4, 2) := by decide +kernel
theorem d_X9_fewestPages_45 : decode (qMc M_X9_fewestPages) 45 = .ok (.iload_n 2, 1) := by decide +kernel
theorem d_X9_fewestPages_46 : decode (qMc M_X9_fewestPages) 46 = .ok (.invokevirtual 148, 3) := by decide +kernel
theorem d_X9_fewestPages_49 : decode (qMc M_X9_fewestPages) 49 = .ok (.ifCond .eq 6, 3) := by decide +kernel
theorem d_X9_fewestPages_52 : decode (qMc M_X9_fewestPages) 52 = .ok (.iload 4, 2) := by decide +kernel
theorem d_X9_fewestPages_54 : decode (qMc M_X9_fewestPages) 54 = .ok (.istore_n 3, 1) := by decide +kernel
theorem d_X9_fewestPages_55 : decode (qMc M_X9_fewestPages) 55 = .ok (.iinc 4 1, 3) := by decide +kernel
theorem d_X9_fewestPages_58 : decode (qMc M_X9_fewestPages) 58 = .ok (.goto (-53), 3) := by decide +kernel
theorem d_X9_fewestPages_61 : decode (qMc M_X9_fewestPages) 61 = .ok (.iload_n 3, 1) := by decide +kernel
theorem d_X9_fewestPages_62 : decode (qMc M_X9_fewestPages) 62 = .ok (.ireturn, 1) := by decide +kernel
theorem d_X9_worksWithPages_0 : decode (qMc M_X9_worksWithPages) 0 = .ok (.iconst 0, 1) := by decide +kernel
theorem d_X9_worksWithPages_1 : decode (qMc M_X9_worksWithPages) 1 = .ok (.istore 4, 2) := by decide +kernel
theorem d_X9_worksWithPages_3 : decode (qMc M_X9_worksWithPages) 3 = .ok (.iload 4, 2) := by decide +kernel
theorem d_X9_worksWithPages_5 : decode (qMc M_X9_worksWithPages) 5 = .ok (.iconst 4, 1) := by decide +kernel
theorem d_X9_worksWithPages_6 : decode (qMc M_X9_worksWithPages) 6 = .ok (.if_icmp .ge 54, 3) := by decide +kernel
theorem d_X9_worksWithPages_9 : decode (qMc M_X9_worksWithPages) 9 = .ok (.iload_n 2, 1) := by decide +kernel
theorem d_X9_worksWithPages_10 : decode (qMc M_X9_worksWithPages) 10 = .ok (.iload 4, 2) := by decide +kernel
theorem d_X9_worksWithPages_12 : decode (qMc M_X9_worksWithPages) 12 = .ok (.ishr, 1) := by decide +kernel
theorem d_X9_worksWithPages_13 : decode (qMc M_X9_worksWithPages) 13 = .ok (.iconst 1, 1) := by decide +kernel
theorem d_X9_worksWithPages_14 : decode (qMc M_X9_worksWithPages) 14 = .ok (.iand, 1) := by decide +kernel
theorem d_X9_worksWithPages_15 : decode (qMc M_X9_worksWithPages) 15 = .ok (.ifCond .eq 26, 3) := by decide +kernel
theorem d_X9_worksWithPages_18 : decode (qMc M_X9_worksWithPages) 18 = .ok (.aload_n 0, 1) := by decide +kernel
theorem d_X9_worksWithPages_19 : decode (qMc M_X9_worksWithPages) 19 = .ok (.getfield 24, 3) := by decide +kernel
theorem d_X9_worksWithPages_22 : decode (qMc M_X9_worksWithPages) 22 = .ok (.getfield 97, 3) := by decide +kernel
theorem d_X9_worksWithPages_25 : decode (qMc M_X9_worksWithPages) 25 = .ok (.iload 4, 2) := by decide +kernel
theorem d_X9_worksWithPages_27 : decode (qMc M_X9_worksWithPages) 27 = .ok (.aaload, 1) := by decide +kernel
theorem d_X9_worksWithPages_28 : decode (qMc M_X9_worksWithPages) 28 = .ok (.aload_n 1, 1) := by decide +kernel
theorem d_X9_worksWithPages_29 : decode (qMc M_X9_worksWithPages) 29 = .ok (.getfield 97, 3) := by decide +kernel
theorem d_X9_worksWithPages_32 : decode (qMc M_X9_worksWithPages) 32 = .ok (.iload 4, 2) := by decide +kernel
theorem d_X9_worksWithPages_34 : decode (qMc M_X9_worksWithPages) 34 = .ok (.aaload, 1) := by decide +kernel
theorem d_X9_worksWithPages_35 : decode (qMc M_X9_worksWithPages) 35 = .ok (.invokevirtual 152, 3) := by decide +kernel
theorem d_X9_worksWithPages_38 : decode (qMc M_X9_worksWithPages) 38 = .ok (.goto 16, 3) := by decide +kernel
theorem d_X9_worksWithPages_41 : decode (qMc M_X9_worksWithPages) 41 = .ok (.aload_n 0, 1) := by decide +kernel
theorem d_X9_worksWithPages_42 : decode (qMc M_X9_worksWithPages) 42 = .ok (.getfield 24, 3) := by decide +kernel
theorem d_X9_worksWithPages_45 : decode (qMc M_X9_worksWithPages) 45 = .ok (.getfield 97, 3) := by decide +kernel
theorem d_X9_worksWithPages_48 : decode (qMc M_X9_worksWithPages) 48 = .ok (.iload 4, 2) := by decide +kernel
theorem d_X9_worksWithPages_50 : decode (qMc M_X9_worksWithPages) 50 = .ok (.aaload, 1) := by decide +kernel
theorem d_X9_worksWithPages_51 : decode (qMc M_X9_worksWithPages) 51 = .ok (.invokevirtual 155, 3) := by decide +kernel
theorem d_X9_worksWithPages_54 : decode (qMc M_X9_worksWithPages) 54 = .ok (.iinc 4 1, 3) := by decide +kernel
theorem d_X9_worksWithPages_57 : decode (qMc M_X9_worksWithPages) 57 = .ok (.goto (-54), 3) := by decide +kernel
theorem d_X9_worksWithPages_60 : decode (qMc M_X9_worksWithPages) 60 = .ok (.aload_n 0, 1) := by decide +kernel
theorem d_X9_worksWithPages_61 : decode (qMc M_X9_worksWithPages) 61 = .ok (.getfield 24, 3) := by decide +kernel
theorem d_X9_worksWithPages_64 : decode (qMc M_X9_worksWithPages) 64 = .ok (.invokevirtual 107, 3) := by decide +kernel
theorem d_X9_worksWithPages_67 : decode (qMc M_X9_worksWithPages) 67 = .ok (.aload_n 0, 1) := by decide +kernel
theorem d_X9_worksWithPages_68 : decode (qMc M_X9_worksWithPages) 68 = .ok (.aload_n 0, 1) := by decide +kernel
theorem d_X9_worksWithPages_69 : decode (qMc M_X9_worksWithPages) 69 = .ok (.getfield 24, 3) := by decide +kernel
theorem d_X9_worksWithPages_72 : decode (qMc M_X9_worksWithPages) 72 = .ok (.getfield 110, 3) := by decide +kernel
theorem d_X9_worksWithPages_75 : decode (qMc M_X9_worksWithPages) 75 = .ok (.iload_n 3, 1) := by decide +kernel
theorem d_X9_worksWithPages_76 : decode (qMc M_X9_worksWithPages) 76 = .ok (.invokevirtual 113, 3) := by decide +kernel
theorem d_X9_worksWithPages_79 : decode (qMc M_X9_worksWithPages) 79 = .ok (.iconst (-1), 1) := by decide +kernel
theorem d_X9_worksWithPages_80 : decode (qMc M_X9_worksWithPages) 80 = .ok (.if_icmp .ne 7, 3) := by decide +kernel
theorem d_X9_worksWithPages_83 : decode (qMc M_X9_worksWithPages) 83 = .ok (.iconst 1, 1) := by decide +kernel
theorem d_X9_worksWithPages_84 : decode (qMc M_X9_worksWithPages) 84 = .ok (.goto 4, 3) := by decide +kernel
theorem d_X9_worksWithPages_87 : decode (qMc M_X9_worksWithPages) 87 = .ok (.iconst 0, 1) := by decide +kernel
theorem d_X9_worksWithPages_88 : decode (qMc M_X9_worksWithPages) 88 = .ok (.ireturn, 1) := by decide +kernel
theorem d_X9_tryMixedBooks_0 : decode (qMc M_X9_tryMixedBooks) 0 = .ok (.aload_n 0, 1) := by decide +kernel
theorem d_X9_tryMixedBooks_1 : decode (qMc M_X9_tryMixedBooks) 1 = .ok (.iconst 0, 1) := by decide +kernel
theorem d_X9_tryMixedBooks_2 : decode (qMc M_X9_tryMixedBooks) 2 = .ok (.putfield 36, 3) := by decide +kernel
theorem d_X9_tryMixedBooks_5 : decode (qMc M_X9_tryMixedBooks) 5 = .ok (.aload_n 0, 1) := by decide +kernel
theorem d_X9_tryMixedBooks_6 : decode (qMc M_X9_tryMixedBooks) 6 = .ok (.iconst (-1), 1) := by decide +kernel
theorem d_X9_tryMixedBooks_7 : decode (qMc M_X9_tryMixedBooks) 7 = .ok (.putfield 39, 3) := by decide +kernel
theorem d_X9_tryMixedBooks_10 : decode (qMc M_X9_tryMixedBooks) 10 = .ok (.iconst 0, 1) := by decide +kernel
theorem d_X9_tryMixedBooks_11 : decode (qMc M_X9_tryMixedBooks) 11 = .ok (.istore 4, 2) := by decide +kernel
theorem d_X9_tryMixedBooks_13 : decode (qMc M_X9_tryMixedBooks) 13 = .ok (.iload 4, 2) := by decide +kernel
theorem d_X9_tryMixedBooks_15 : decode (qMc M_X9_tryMixedBooks) 15 = .ok (.bipush 16, 2) := by decide +kernel
theorem d_X9_tryMixedBooks_17 : decode (qMc M_X9_tryMixedBooks) 17 = .ok (.if_icmp .ge 117, 3) := by decide +kernel
theorem d_X9_tryMixedBooks_20 : decode (qMc M_X9_tryMixedBooks) 20 = .ok (.iconst 0, 1) := by decide +kernel
theorem d_X9_tryMixedBooks_21 : decode (qMc M_X9_tryMixedBooks) 21 = .ok (.istore 5, 2) := by decide +kernel
theorem d_X9_tryMixedBooks_23 : decode (qMc M_X9_tryMixedBooks) 23 = .ok (.iload 5, 2) := by decide +kernel
theorem d_X9_tryMixedBooks_25 : decode (qMc M_X9_tryMixedBooks) 25 = .ok (.iconst 4, 1) := by decide +kernel
theorem d_X9_tryMixedBooks_26 : decode (qMc M_X9_tryMixedBooks) 26 = .ok (.if_icmp .ge 49, 3) := by decide +kernel
theorem d_X9_tryMixedBooks_29 : decode (qMc M_X9_tryMixedBooks) 29 = .ok (.aload_n 0, 1) := by decide +kernel
theorem d_X9_tryMixedBooks_30 : decode (qMc M_X9_tryMixedBooks) 30 = .ok (.getfield 24, 3) := by decide +kernel
theorem d_X9_tryMixedBooks_33 : decode (qMc M_X9_tryMixedBooks) 33 = .ok (.getfield 97, 3) := by decide +kernel
theorem d_X9_tryMixedBooks_36 : decode (qMc M_X9_tryMixedBooks) 36 = .ok (.iload 5, 2) := by decide +kernel
theorem d_X9_tryMixedBooks_38 : decode (qMc M_X9_tryMixedBooks) 38 = .ok (.aaload, 1) := by decide +kernel
theorem d_X9_tryMixedBooks_39 : decode (qMc M_X9_tryMixedBooks) 39 = .ok (.iload 4, 2) := by decide +kernel
theorem d_X9_tryMixedBooks_41 : decode (qMc M_X9_tryMixedBooks) 41 = .ok (.iload 5, 2) := by decide +kernel
theorem d_X9_tryMixedBooks_43 : decode (qMc M_X9_tryMixedBooks) 43 = .ok (.ishr, 1) := by decide +kernel
theorem d_X9_tryMixedBooks_44 : decode (qMc M_X9_tryMixedBooks) 44 = .ok (.iconst 1, 1) := by decide +kernel
theorem d_X9_tryMixedBooks_45 : decode (qMc M_X9_tryMixedBooks) 45 = .ok (.iand, 1) := by decide +kernel
theorem d_X9_tryMixedBooks_46 : decode (qMc M_X9_tryMixedBooks) 46 = .ok (.ifCond .eq 13, 3) := by decide +kernel
theorem d_X9_tryMixedBooks_49 : decode (qMc M_X9_tryMixedBooks) 49 = .ok (.aload_n 2, 1) := by decide +kernel
theorem d_X9_tryMixedBooks_50 : decode (qMc M_X9_tryMixedBooks) 50 = .ok (.getfield 97, 3) := by decide +kernel
theorem d_X9_tryMixedBooks_53 : decode (qMc M_X9_tryMixedBooks) 53 = .ok (.iload 5, 2) := by decide +kernel
theorem d_X9_tryMixedBooks_55 : decode (qMc M_X9_tryMixedBooks) 55 = .ok (.aaload, 1) := by decide +kernel
theorem d_X9_tryMixedBooks_56 : decode (qMc M_X9_tryMixedBooks) 56 = .ok (.goto 10, 3) := by decide +kernel
theorem d_X9_tryMixedBooks_59 : decode (qMc M_X9_tryMixedBooks) 59 = .ok (.aload_n 1, 1) := by decide +kernel
theorem d_X9_tryMixedBooks_60 : decode (qMc M_X9_tryMixedBooks) 60 = .ok (.getfield 97, 3) := by decide +kernel
theorem d_X9_tryMixedBooks_63 : decode (qMc M_X9_tryMixedBooks) 63 = .ok (.iload 5, 2) := by decide +kernel
theorem d_X9_tryMixedBooks_65 : decode (qMc M_X9_tryMixedBooks) 65 = .ok (.aaload, 1) := by decide +kernel
theorem d_X9_tryMixedBooks_66 : decode (qMc M_X9_tryMixedBooks) 66 = .ok (.invokevirtual 152, 3) := by decide +kernel
theorem d_X9_tryMixedBooks_69 : decode (qMc M_X9_tryMixedBooks) 69 = .ok (.iinc 5 1, 3) := by decide +kernel
theorem d_X9_tryMixedBooks_72 : decode (qMc M_X9_tryMixedBooks) 72 = .ok (.goto (-49), 3) := by decide +kernel
theorem d_X9_tryMixedBooks_75 : decode (qMc M_X9_tryMixedBooks) 75 = .ok (.aload_n 0, 1) := by decide +kernel
theorem d_X9_tryMixedBooks_76 : decode (qMc M_X9_tryMixedBooks) 76 = .ok (.getfield 24, 3) := by decide +kernel
theorem d_X9_tryMixedBooks_79 : decode (qMc M_X9_tryMixedBooks) 79 = .ok (.invokevirtual 107, 3) := by decide +kernel
theorem d_X9_tryMixedBooks_82 : decode (qMc M_X9_tryMixedBooks) 82 = .ok (.aload_n 0, 1) := by decide +kernel
theorem d_X9_tryMixedBooks_83 : decode (qMc M_X9_tryMixedBooks) 83 = .ok (.aload_n 0, 1) := by decide +kernel
theorem d_X9_tryMixedBooks_84 : decode (qMc M_X9_tryMixedBooks) 84 = .ok (.getfield 24, 3) := by decide +kernel
theorem d_X9_tryMixedBooks_87 : decode (qMc M_X9_tryMixedBooks) 87 = .ok (.getfield 110, 3) := by decide +kernel
theorem d_X9_tryMixedBooks_90 : decode (qMc M_X9_tryMixedBooks) 90 = .ok (.iload_n 3, 1) := by decide +kernel
theorem d_X9_tryMixedBooks_91 : decode (qMc M_X9_tryMixedBooks) 91 = .ok (.invokevirtual 113, 3) := by decide +kernel
theorem d_X9_tryMixedBooks_94 : decode (qMc M_X9_tryMixedBooks) 94 = .ok (.iconst (-1), 1) := by decide +kernel
theorem d_X9_tryMixedBooks_95 : decode (qMc M_X9_tryMixedBooks) 95 = .ok (.if_icmp .ne 33, 3) := by decide +kernel
theorem d_X9_tryMixedBooks_98 : decode (qMc M_X9_tryMixedBooks) 98 = .ok (.aload_n 0, 1) := by decide +kernel
theorem d_X9_tryMixedBooks_99 : decode (qMc M_X9_tryMixedBooks) 99 = .ok (.aload_n 0, 1) := by decide +kernel
theorem d_X9_tryMixedBooks_100 : decode (qMc M_X9_tryMixedBooks) 100 = .ok (.getfield 36, 3) := by decide +kernel
theorem d_X9_tryMixedBooks_103 : decode (qMc M_X9_tryMixedBooks) 103 = .ok (.ifCond .ne 8, 3) := by decide +kernel
theorem d_X9_tryMixedBooks_106 : decode (qMc M_X9_tryMixedBooks) 106 = .ok (.iload 4, 2) := by decide +kernel
theorem d_X9_tryMixedBooks_108 : decode (qMc M_X9_tryMixedBooks) 108 = .ok (.goto 7, 3) := by decide +kernel
theorem d_X9_tryMixedBooks_111 : decode (qMc M_X9_tryMixedBooks) 111 = .ok (.aload_n 0, 1) := by decide +kernel
theorem d_X9_tryMixedBooks_112 : decode (qMc M_X9_tryMixedBooks) 112 = .ok (.getfield 39, 3) := by decide +kernel
theorem d_X9_tryMixedBooks_115 : decode (qMc M_X9_tryMixedBooks) 115 = .ok (.putfield 39, 3) := by decide +kernel
theorem d_X9_tryMixedBooks_118 : decode (qMc M_X9_tryMixedBooks) 118 = .ok (.aload_n 0, 1) := by decide +kernel
theorem d_X9_tryMixedBooks_119 : decode (qMc M_X9_tryMixedBooks) 119 = .ok (.dup, 1) := by decide +kernel
theorem d_X9_tryMixedBooks_120 : decode (qMc M_X9_tryMixedBooks) 120 = .ok (.getfield 36, 3) := by decide +kernel
theorem d_X9_tryMixedBooks_123 : decode (qMc M_X9_tryMixedBooks) 123 = .ok (.iconst 1, 1) := by decide +kernel
theorem d_X9_tryMixedBooks_124 : decode (qMc M_X9_tryMixedBooks) 124 = .ok (.iadd, 1) := by decide +kernel
theorem d_X9_tryMixedBooks_125 : decode (qMc M_X9_tryMixedBooks) 125 = .ok (.putfield 36, 3) := by decide +kernel
theorem d_X9_tryMixedBooks_128 : decode (qMc M_X9_tryMixedBooks) 128 = .ok (.iinc 4 1, 3) := by decide +kernel
theorem d_X9_tryMixedBooks_131 : decode (qMc M_X9_tryMixedBooks) 131 = .ok (.goto (-118), 3) := by decide +kernel
theorem d_X9_tryMixedBooks_134 : decode (qMc M_X9_tryMixedBooks) 134 = .ok (.return_, 1) := by decide +kernel
theorem d_X10_init_0 : decode (qMc M_X10_init) 0 = .ok (.aload_n 0, 1) := by decide +kernel
theorem d_X10_init_1 : decode (qMc M_X10_init) 1 = .ok (.invokespecial 3, 3) := by decide +kernel
theorem d_X10_init_4 : decode (qMc M_X10_init) 4 = .ok (.aload_n 0, 1) := by decide +kernel
theorem d_X10_init_5 : decode (qMc M_X10_init) 5 = .ok (.iconst 0, 1) := by decide +kernel
theorem d_X10_init_6 : decode (qMc M_X10_init) 6 = .ok (.putfield 9, 3) := by decide +kernel
theorem d_X10_init_9 : decode (qMc M_X10_init) 9 = .ok (.aload_n 0, 1) := by decide +kernel
theorem d_X10_init_10 : decode (qMc M_X10_init) 10 = .ok (.iconst 0, 1) := by decide +kernel
theorem d_X10_init_11 : decode (qMc M_X10_init) 11 = .ok (.putfield 15, 3) := by decide +kernel
theorem d_X10_init_14 : decode (qMc M_X10_init) 14 = .ok (.aload_n 0, 1) := by decide +kernel
theorem d_X10_init_15 : decode (qMc M_X10_init) 15 = .ok (.bipush 32, 2) := by decide +kernel
theorem d_X10_init_17 : decode (qMc M_X10_init) 17 = .ok (.newarray .int, 2) := by decide +kernel
theorem d_X10_init_19 : decode (qMc M_X10_init) 19 = .ok (.putfield 19, 3) := by decide +kernel
theorem d_X10_init_22 : decode (qMc M_X10_init) 22 = .ok (.aload_n 0, 1) := by decide +kernel
theorem d_X10_init_23 : decode (qMc M_X10_init) 23 = .ok (.bipush 32, 2) := by decide +kernel
theorem d_X10_init_25 : decode (qMc M_X10_init) 25 = .ok (.newarray .int, 2) := by decide +kernel
theorem d_X10_init_27 : decode (qMc M_X10_init) 27 = .ok (.putfield 23, 3) := by decide +kernel
theorem d_X10_init_30 : decode (qMc M_X10_init) 30 = .ok (.aload_n 0, 1) := by decide +kernel
theorem d_X10_init_31 : decode (qMc M_X10_init) 31 = .ok (.bipush 32, 2) := by decide +kernel
theorem d_X10_init_33 : decode (qMc M_X10_init) 33 = .ok (.newarray .int, 2) := by decide +kernel
theorem d_X10_init_35 : decode (qMc M_X10_init) 35 = .ok (.putfield 26, 3) := by decide +kernel
theorem d_X10_init_38 : decode (qMc M_X10_init) 38 = .ok (.aload_n 0, 1) := by decide +kernel
theorem d_X10_init_39 : decode (qMc M_X10_init) 39 = .ok (.bipush 32, 2) := by decide +kernel
theorem d_X10_init_41 : decode (qMc M_X10_init) 41 = .ok (.newarray .int, 2) := by decide +kernel
theorem d_X10_init_43 : decode (qMc M_X10_init) 43 = .ok (.putfield 29, 3) := by decide +kernel
theorem d_X10_init_46 : decode (qMc M_X10_init) 46 = .ok (.aload_n 0, 1) := by decide +kernel
theorem d_X10_init_47 : decode (qMc M_X10_init) 47 = .ok (.iconst 0, 1) := by decide +kernel
theorem d_X10_init_48 : decode (qMc M_X10_init) 48 = .ok (.putfield 32, 3) := by decide +kernel
theorem d_X10_init_51 : decode (qMc M_X10_init) 51 = .ok (.aload_n 0, 1) := by decide +kernel
theorem d_X10_init_52 : decode (qMc M_X10_init) 52 = .ok (.iconst 0, 1) := by decide +kernel
theorem d_X10_init_53 : decode (qMc M_X10_init) 53 = .ok (.putfield 35, 3) := by decide +kernel
theorem d_X10_init_56 : decode (qMc M_X10_init) 56 = .ok (.aload_n 0, 1) := by decide +kernel
theorem d_X10_init_57 : decode (qMc M_X10_init) 57 = .ok (.iconst 0, 1) := by decide +kernel
theorem d_X10_init_58 : decode (qMc M_X10_init) 58 = .ok (.putfield 38, 3) := by decide +kernel
theorem d_X10_init_61 : decode (qMc M_X10_init) 61 = .ok (.aload_n 0, 1) := by decide +kernel
theorem d_X10_init_62 : decode (qMc M_X10_init) 62 = .ok (.iconst 0, 1) := by decide +kernel
theorem d_X10_init_63 : decode (qMc M_X10_init) 63 = .ok (.putfield 41, 3) := by decide +kernel
theorem d_X10_init_66 : decode (qMc M_X10_init) 66 = .ok (.aload_n 0, 1) := by decide +kernel
theorem d_X10_init_67 : decode (qMc M_X10_init) 67 = .ok (.iconst (-1), 1) := by decide +kernel
theorem d_X10_init_68 : decode (qMc M_X10_init) 68 = .ok (.putfield 44, 3) := by decide +kernel
theorem d_X10_init_71 : decode (qMc M_X10_init) 71 = .ok (.aload_n 0, 1) := by decide +kernel
theorem d_X10_init_72 : decode (qMc M_X10_init) 72 = .ok (.iconst 0, 1) := by decide +kernel
theorem d_X10_init_73 : decode (qMc M_X10_init) 73 = .ok (.putfield 47, 3) := by decide +kernel
theorem d_X10_init_76 : decode (qMc M_X10_init) 76 = .ok (.return_, 1) := by decide +kernel
theorem d_X10_build_0 : decode (qMc M_X10_build) 0 = .ok (.aload_n 0, 1) := by decide +kernel
theorem d_X10_build_1 : decode (qMc M_X10_build) 1 = .ok (.iload_n 1, 1) := by decide +kernel
theorem d_X10_build_2 : decode (qMc M_X10_build) 2 = .ok (.putfield 9, 3) := by decide +kernel
theorem d_X10_build_5 : decode (qMc M_X10_build) 5 = .ok (.aload_n 0, 1) := by decide +kernel
theorem d_X10_build_6 : decode (qMc M_X10_build) 6 = .ok (.iload_n 2, 1) := by decide +kernel
theorem d_X10_build_7 : decode (qMc M_X10_build) 7 = .ok (.putfield 15, 3) := by decide +kernel
theorem d_X10_build_10 : decode (qMc M_X10_build) 10 = .ok (.aload_n 0, 1) := by decide +kernel
theorem d_X10_build_11 : decode (qMc M_X10_build) 11 = .ok (.getfield 19, 3) := by decide +kernel
theorem d_X10_build_14 : decode (qMc M_X10_build) 14 = .ok (.iconst 0, 1) := by decide +kernel
theorem d_X10_build_15 : decode (qMc M_X10_build) 15 = .ok (.invokestatic 50, 3) := by decide +kernel
theorem d_X10_build_18 : decode (qMc M_X10_build) 18 = .ok (.aload_n 0, 1) := by decide +kernel
theorem d_X10_build_19 : decode (qMc M_X10_build) 19 = .ok (.getfield 23, 3) := by decide +kernel
theorem d_X10_build_22 : decode (qMc M_X10_build) 22 = .ok (.iconst 0, 1) := by decide +kernel
theorem d_X10_build_23 : decode (qMc M_X10_build) 23 = .ok (.invokestatic 50, 3) := by decide +kernel
theorem d_X10_build_26 : decode (qMc M_X10_build) 26 = .ok (.aload_n 0, 1) := by decide +kernel
theorem d_X10_build_27 : decode (qMc M_X10_build) 27 = .ok (.getfield 26, 3) := by decide +kernel
theorem d_X10_build_30 : decode (qMc M_X10_build) 30 = .ok (.iconst 0, 1) := by decide +kernel
theorem d_X10_build_31 : decode (qMc M_X10_build) 31 = .ok (.invokestatic 50, 3) := by decide +kernel
theorem d_X10_build_34 : decode (qMc M_X10_build) 34 = .ok (.aload_n 0, 1) := by decide +kernel
theorem d_X10_build_35 : decode (qMc M_X10_build) 35 = .ok (.iconst 0, 1) := by decide +kernel
theorem d_X10_build_36 : decode (qMc M_X10_build) 36 = .ok (.putfield 32, 3) := by decide +kernel
theorem d_X10_build_39 : decode (qMc M_X10_build) 39 = .ok (.aload_n 0, 1) := by decide +kernel
theorem d_X10_build_40 : decode (qMc M_X10_build) 40 = .ok (.iconst 0, 1) := by decide +kernel
theorem d_X10_build_41 : decode (qMc M_X10_build) 41 = .ok (.putfield 35, 3) := by decide +kernel
theorem d_X10_build_44 : decode (qMc M_X10_build) 44 = .ok (.aload_n 0, 1) := by decide +kernel
theorem d_X10_build_45 : decode (qMc M_X10_build) 45 = .ok (.iconst 0, 1) := by decide +kernel
theorem d_X10_build_46 : decode (qMc M_X10_build) 46 = .ok (.putfield 38, 3) := by decide +kernel
theorem d_X10_build_49 : decode (qMc M_X10_build) 49 = .ok (.aload_n 0, 1) := by decide +kernel
theorem d_X10_build_50 : decode (qMc M_X10_build) 50 = .ok (.iconst 0, 1) := by decide +kernel
theorem d_X10_build_51 : decode (qMc M_X10_build) 51 = .ok (.putfield 41, 3) := by decide +kernel
theorem d_X10_build_54 : decode (qMc M_X10_build) 54 = .ok (.aload_n 0, 1) := by decide +kernel
theorem d_X10_build_55 : decode (qMc M_X10_build) 55 = .ok (.iconst (-1), 1) := by decide +kernel
theorem d_X10_build_56 : decode (qMc M_X10_build) 56 = .ok (.putfield 44, 3) := by decide +kernel
theorem d_X10_build_59 : decode (qMc M_X10_build) 59 = .ok (.aload_n 0, 1) := by decide +kernel
theorem d_X10_build_60 : decode (qMc M_X10_build) 60 = .ok (.iconst 0, 1) := by decide +kernel
theorem d_X10_build_61 : decode (qMc M_X10_build) 61 = .ok (.putfield 47, 3) := by decide +kernel
theorem d_X10_build_64 : decode (qMc M_X10_build) 64 = .ok (.return_, 1) := by decide +kernel
theorem d_X10_copyFrom_0 : decode (qMc M_X10_copyFrom) 0 = .ok (.aload_n 0, 1) := by decide +kernel
theorem d_X10_copyFrom_1 : decode (qMc M_X10_copyFrom) 1 = .ok (.aload_n 1, 1) := by decide +kernel
theorem d_X10_copyFrom_2 : decode (qMc M_X10_copyFrom) 2 = .ok (.getfield 9, 3) := by decide +kernel
theorem d_X10_copyFrom_5 : decode (qMc M_X10_copyFrom) 5 = .ok (.putfield 9, 3) := by decide +kernel
theorem d_X10_copyFrom_8 : decode (qMc M_X10_copyFrom) 8 = .ok (.aload_n 0, 1) := by decide +kernel
theorem d_X10_copyFrom_9 : decode (qMc M_X10_copyFrom) 9 = .ok (.aload_n 1, 1) := by decide +kernel
theorem d_X10_copyFrom_10 : decode (qMc M_X10_copyFrom) 10 = .ok (.getfield 15, 3) := by decide +kernel
theorem d_X10_copyFrom_13 : decode (qMc M_X10_copyFrom) 13 = .ok (.putfield 15, 3) := by decide +kernel
theorem d_X10_copyFrom_16 : decode (qMc M_X10_copyFrom) 16 = .ok (.aload_n 1, 1) := by decide +kernel
theorem d_X10_copyFrom_17 : decode (qMc M_X10_copyFrom) 17 = .ok (.getfield 19, 3) := by decide +kernel
theorem d_X10_copyFrom_20 : decode (qMc M_X10_copyFrom) 20 = .ok (.iconst 0, 1) := by decide +kernel
theorem d_X10_copyFrom_21 : decode (qMc M_X10_copyFrom) 21 = .ok (.aload_n 0, 1) := by decide +kernel
theorem d_X10_copyFrom_22 : decode (qMc M_X10_copyFrom) 22 = .ok (.getfield 19, 3) := by decide +kernel
theorem d_X10_copyFrom_25 : decode (qMc M_X10_copyFrom) 25 = .ok (.iconst 0, 1) := by decide +kernel
theorem d_X10_copyFrom_26 : decode (qMc M_X10_copyFrom) 26 = .ok (.bipush 32, 2) := by decide +kernel
theorem d_X10_copyFrom_28 : decode (qMc M_X10_copyFrom) 28 = .ok (.invokestatic 56, 3) := by decide +kernel
theorem d_X10_copyFrom_31 : decode (qMc M_X10_copyFrom) 31 = .ok (.aload_n 1, 1) := by decide +kernel
theorem d_X10_copyFrom_32 : decode (qMc M_X10_copyFrom) 32 = .ok (.getfield 23, 3) := by decide +kernel
theorem d_X10_copyFrom_35 : decode (qMc M_X10_copyFrom) 35 = .ok (.iconst 0, 1) := by decide +kernel
theorem d_X10_copyFrom_36 : decode (qMc M_X10_copyFrom) 36 = .ok (.aload_n 0, 1) := by decide +kernel
theorem d_X10_copyFrom_37 : decode (qMc M_X10_copyFrom) 37 = .ok (.getfield 23, 3) := by decide +kernel
theorem d_X10_copyFrom_40 : decode (qMc M_X10_copyFrom) 40 = .ok (.iconst 0, 1) := by decide +kernel
theorem d_X10_copyFrom_41 : decode (qMc M_X10_copyFrom) 41 = .ok (.bipush 32, 2) := by decide +kernel
theorem d_X10_copyFrom_43 : decode (qMc M_X10_copyFrom) 43 = .ok (.invokestatic 56, 3) := by decide +kernel
theorem d_X10_copyFrom_46 : decode (qMc M_X10_copyFrom) 46 = .ok (.aload_n 1, 1) := by decide +kernel
theorem d_X10_copyFrom_47 : decode (qMc M_X10_copyFrom) 47 = .ok (.getfield 26, 3) := by decide +kernel
theorem d_X10_copyFrom_50 : decode (qMc M_X10_copyFrom) 50 = .ok (.iconst 0, 1) := by decide +kernel
theorem d_X10_copyFrom_51 : decode (qMc M_X10_copyFrom) 51 = .ok (.aload_n 0, 1) := by decide +kernel
theorem d_X10_copyFrom_52 : decode (qMc M_X10_copyFrom) 52 = .ok (.getfield 26, 3) := by decide +kernel
theorem d_X10_copyFrom_55 : decode (qMc M_X10_copyFrom) 55 = .ok (.iconst 0, 1) := by decide +kernel
theorem d_X10_copyFrom_56 : decode (qMc M_X10_copyFrom) 56 = .ok (.bipush 32, 2) := by decide +kernel
theorem d_X10_copyFrom_58 : decode (qMc M_X10_copyFrom) 58 = .ok (.invokestatic 56, 3) := by decide +kernel
theorem d_X10_copyFrom_61 : decode (qMc M_X10_copyFrom) 61 = .ok (.aload_n 0, 1) := by decide +kernel
theorem d_X10_copyFrom_62 : decode (qMc M_X10_copyFrom) 62 = .ok (.aload_n 1, 1) := by decide +kernel
theorem d_X10_copyFrom_63 : decode (qMc M_X10_copyFrom) 63 = .ok (.getfield 32, 3) := by decide +kernel
theorem d_X10_copyFrom_66 : decode (qMc M_X10_copyFrom) 66 = .ok (.putfield 32, 3) := by decide +kernel
theorem d_X10_copyFrom_69 : decode (qMc M_X10_copyFrom) 69 = .ok (.aload_n 0, 1) := by decide +kernel
theorem d_X10_copyFrom_70 : decode (qMc M_X10_copyFrom) 70 = .ok (.aload_n 1, 1) := by decide +kernel
theorem d_X10_copyFrom_71 : decode (qMc M_X10_copyFrom) 71 = .ok (.getfield 35, 3) := by decide +kernel
theorem d_X10_copyFrom_74 : decode (qMc M_X10_copyFrom) 74 = .ok (.putfield 35, 3) := by decide +kernel
theorem d_X10_copyFrom_77 : decode (qMc M_X10_copyFrom) 77 = .ok (.aload_n 0, 1) := by decide +kernel
theorem d_X10_copyFrom_78 : decode (qMc M_X10_copyFrom) 78 = .ok (.aload_n 1, 1) := by decide +kernel
theorem d_X10_copyFrom_79 : decode (qMc M_X10_copyFrom) 79 = .ok (.getfield 38, 3) := by decide +kernel
theorem d_X10_copyFrom_82 : decode (qMc M_X10_copyFrom) 82 = .ok (.putfield 38, 3) := by decide +kernel
theorem d_X10_copyFrom_85 : decode (qMc M_X10_copyFrom) 85 = .ok (.aload_n 0, 1) := by decide +kernel
theorem d_X10_copyFrom_86 : decode (qMc M_X10_copyFrom) 86 = .ok (.aload_n 1, 1) := by decide +kernel
theorem d_X10_copyFrom_87 : decode (qMc M_X10_copyFrom) 87 = .ok (.getfield 41, 3) := by decide +kernel
theorem d_X10_copyFrom_90 : decode (qMc M_X10_copyFrom) 90 = .ok (.putfield 41, 3) := by decide +kernel
theorem d_X10_copyFrom_93 : decode (qMc M_X10_copyFrom) 93 = .ok (.aload_n 0, 1) := by decide +kernel
theorem d_X10_copyFrom_94 : decode (qMc M_X10_copyFrom) 94 = .ok (.aload_n 1, 1) := by decide +kernel
theorem d_X10_copyFrom_95 : decode (qMc M_X10_copyFrom) 95 = .ok (.getfield 44, 3) := by decide +kernel
theorem d_X10_copyFrom_98 : decode (qMc M_X10_copyFrom) 98 = .ok (.putfield 44, 3) := by decide +kernel
theorem d_X10_copyFrom_101 : decode (qMc M_X10_copyFrom) 101 = .ok (.aload_n 0, 1) := by decide +kernel
theorem d_X10_copyFrom_102 : decode (qMc M_X10_copyFrom) 102 = .ok (.aload_n 1, 1) := by decide +kernel
theorem d_X10_copyFrom_103 : decode (qMc M_X10_copyFrom) 103 = .ok (.getfield 47, 3) := by decide +kernel
theorem d_X10_copyFrom_106 : decode (qMc M_X10_copyFrom) 106 = .ok (.putfield 47, 3) := by decide +kernel
theorem d_X10_copyFrom_109 : decode (qMc M_X10_copyFrom) 109 = .ok (.return_, 1) := by decide +kernel
theorem d_X10_has_0 : decode (qMc M_X10_has) 0 = .ok (.iload_n 1, 1) := by decide +kernel
theorem d_X10_has_1 : decode (qMc M_X10_has) 1 = .ok (.iconst 0, 1) := by decide +kernel
theorem d_X10_has_2 : decode (qMc M_X10_has) 2 = .ok (.aload_n 0, 1) := by decide +kernel
theorem d_X10_has_3 : decode (qMc M_X10_has) 3 = .ok (.getfield 9, 3) := by decide +kernel
theorem d_X10_has_6 : decode (qMc M_X10_has) 6 = .ok (.iconst 1, 1) := by decide +kernel
theorem d_X10_has_7 : decode (qMc M_X10_has) 7 = .ok (.isub, 1) := by decide +kernel
theorem d_X10_has_8 : decode (qMc M_X10_has) 8 = .ok (.invokestatic 62, 3) := by decide +kernel
theorem d_X10_has_11 : decode (qMc M_X10_has) 11 = .ok (.ireturn, 1) := by decide +kernel
theorem d_X10_isDeaf_0 : decode (qMc M_X10_isDeaf) 0 = .ok (.aload_n 0, 1) := by decide +kernel
theorem d_X10_isDeaf_1 : decode (qMc M_X10_isDeaf) 1 = .ok (.getfield 32, 3) := by decide +kernel
theorem d_X10_isDeaf_4 : decode (qMc M_X10_isDeaf) 4 = .ok (.iload_n 1, 1) := by decide +kernel
theorem d_X10_isDeaf_5 : decode (qMc M_X10_isDeaf) 5 = .ok (.iushr, 1) := by decide +kernel
theorem d_X10_isDeaf_6 : decode (qMc M_X10_isDeaf) 6 = .ok (.iconst 1, 1) := by decide +kernel
theorem d_X10_isDeaf_7 : decode (qMc M_X10_isDeaf) 7 = .ok (.iand, 1) := by decide +kernel
theorem d_X10_isDeaf_8 : decode (qMc M_X10_isDeaf) 8 = .ok (.ifCond .eq 7, 3) := by decide +kernel
theorem d_X10_isDeaf_11 : decode (qMc M_X10_isDeaf) 11 = .ok (.iconst 1, 1) := by decide +kernel
theorem d_X10_isDeaf_12 : decode (qMc M_X10_isDeaf) 12 = .ok (.goto 4, 3) := by decide +kernel
theorem d_X10_isDeaf_15 : decode (qMc M_X10_isDeaf) 15 = .ok (.iconst 0, 1) := by decide +kernel
theorem d_X10_isDeaf_16 : decode (qMc M_X10_isDeaf) 16 = .ok (.ireturn, 1) := by decide +kernel
theorem d_X10_isLate_0 : decode (qMc M_X10_isLate) 0 = .ok (.aload_n 0, 1) := by decide +kernel
theorem d_X10_isLate_1 : decode (qMc M_X10_isLate) 1 = .ok (.getfield 35, 3) := by decide +kernel
theorem d_X10_isLate_4 : decode (qMc M_X10_isLate) 4 = .ok (.iload_n 1, 1) := by decide +kernel
theorem d_X10_isLate_5 : decode (qMc M_X10_isLate) 5 = .ok (.iushr, 1) := by decide +kernel
theorem d_X10_isLate_6 : decode (qMc M_X10_isLate) 6 = .ok (.iconst 1, 1) := by decide +kernel
theorem d_X10_isLate_7 : decode (qMc M_X10_isLate) 7 = .ok (.iand, 1) := by decide +kernel
theorem d_X10_isLate_8 : decode (qMc M_X10_isLate) 8 = .ok (.ifCond .eq 7, 3) := by decide +kernel
theorem d_X10_isLate_11 : decode (qMc M_X10_isLate) 11 = .ok (.iconst 1, 1) := by decide +kernel
theorem d_X10_isLate_12 : decode (qMc M_X10_isLate) 12 = .ok (.goto 4, 3) := by decide +kernel
theorem d_X10_isLate_15 : decode (qMc M_X10_isLate) 15 = .ok (.iconst 0, 1) := by decide +kernel
theorem d_X10_isLate_16 : decode (qMc M_X10_isLate) 16 = .ok (.ireturn, 1) := by decide +kernel
theorem d_X10_change_0 : decode (qMc M_X10_change) 0 = .ok (.iload_n 1, 1) := by decide +kernel
theorem d_X10_change_1 : decode (qMc M_X10_change) 1 = .ok (.tableswitch 123 0 5 #[39, 49, 64, 81, 96, 113], 39) := by decide +kernel
theorem d_X10_change_40 : decode (qMc M_X10_change) 40 = .ok (.aload_n 0, 1) := by decide +kernel
theorem d_X10_change_41 : decode (qMc M_X10_change) 41 = .ok (.getfield 19, 3) := by decide +kernel
theorem d_X10_change_44 : decode (qMc M_X10_change) 44 = .ok (.iload_n 2, 1) := by decide +kernel
theorem d_X10_change_45 : decode (qMc M_X10_change) 45 = .ok (.iload_n 3, 1) := by decide +kernel
theorem d_X10_change_46 : decode (qMc M_X10_change) 46 = .ok (.iastore, 1) := by decide +kernel
theorem d_X10_change_47 : decode (qMc M_X10_change) 47 = .ok (.goto 77, 3) := by decide +kernel
theorem d_X10_change_50 : decode (qMc M_X10_change) 50 = .ok (.aload_n 0, 1) := by decide +kernel
theorem d_X10_change_51 : decode (qMc M_X10_change) 51 = .ok (.dup, 1) := by decide +kernel
theorem d_X10_change_52 : decode (qMc M_X10_change) 52 = .ok (.getfield 32, 3) := by decide +kernel
theorem d_X10_change_55 : decode (qMc M_X10_change) 55 = .ok (.iconst 1, 1) := by decide +kernel
theorem d_X10_change_56 : decode (qMc M_X10_change) 56 = .ok (.iload_n 2, 1) := by decide +kernel
theorem d_X10_change_57 : decode (qMc M_X10_change) 57 = .ok (.ishl, 1) := by decide +kernel
theorem d_X10_change_58 : decode (qMc M_X10_change) 58 = .ok (.ior, 1) := by decide +kernel
theorem d_X10_change_59 : decode (qMc M_X10_change) 59 = .ok (.putfield 32, 3) := by decide +kernel
theorem d_X10_change_62 : decode (qMc M_X10_change) 62 = .ok (.goto 62, 3) := by decide +kernel
theorem d_X10_change_65 : decode (qMc M_X10_change) 65 = .ok (.aload_n 0, 1) := by decide +kernel
theorem d_X10_change_66 : decode (qMc M_X10_change) 66 = .ok (.dup, 1) := by decide +kernel
theorem d_X10_change_67 : decode (qMc M_X10_change) 67 = .ok (.getfield 32, 3) := by decide +kernel
theorem d_X10_change_70 : decode (qMc M_X10_change) 70 = .ok (.iconst 1, 1) := by decide +kernel
theorem d_X10_change_71 : decode (qMc M_X10_change) 71 = .ok (.iload_n 2, 1) := by decide +kernel
theorem d_X10_change_72 : decode (qMc M_X10_change) 72 = .ok (.ishl, 1) := by decide +kernel
theorem d_X10_change_73 : decode (qMc M_X10_change) 73 = .ok (.iconst (-1), 1) := by decide +kernel
theorem d_X10_change_74 : decode (qMc M_X10_change) 74 = .ok (.ixor, 1) := by decide +kernel
theorem d_X10_change_75 : decode (qMc M_X10_change) 75 = .ok (.iand, 1) := by decide +kernel
theorem d_X10_change_76 : decode (qMc M_X10_change) 76 = .ok (.putfield 32, 3) := by decide +kernel
theorem d_X10_change_79 : decode (qMc M_X10_change) 79 = .ok (.goto 45, 3) := by decide +kernel
theorem d_X10_change_82 : decode (qMc M_X10_change) 82 = .ok (.aload_n 0, 1) := by decide +kernel
theorem d_X10_change_83 : decode (qMc M_X10_change) 83 = .ok (.dup, 1) := by decide +kernel
theorem d_X10_change_84 : decode (qMc M_X10_change) 84 = .ok (.getfield 35, 3) := by decide +kernel
theorem d_X10_change_87 : decode (qMc M_X10_change) 87 = .ok (.iconst 1, 1) := by decide +kernel
theorem d_X10_change_88 : decode (qMc M_X10_change) 88 = .ok (.iload_n 2, 1) := by decide +kernel
theorem d_X10_change_89 : decode (qMc M_X10_change) 89 = .ok (.ishl, 1) := by decide +kernel
theorem d_X10_change_90 : decode (qMc M_X10_change) 90 = .ok (.ior, 1) := by decide +kernel
theorem d_X10_change_91 : decode (qMc M_X10_change) 91 = .ok (.putfield 35, 3) := by decide +kernel
theorem d_X10_change_94 : decode (qMc M_X10_change) 94 = .ok (.goto 30, 3) := by decide +kernel
theorem d_X10_change_97 : decode (qMc M_X10_change) 97 = .ok (.aload_n 0, 1) := by decide +kernel
theorem d_X10_change_98 : decode (qMc M_X10_change) 98 = .ok (.dup, 1) := by decide +kernel
theorem d_X10_change_99 : decode (qMc M_X10_change) 99 = .ok (.getfield 35, 3) := by decide +kernel
theorem d_X10_change_102 : decode (qMc M_X10_change) 102 = .ok (.iconst 1, 1) := by decide +kernel
theorem d_X10_change_103 : decode (qMc M_X10_change) 103 = .ok (.iload_n 2, 1) := by decide +kernel
theorem d_X10_change_104 : decode (qMc M_X10_change) 104 = .ok (.ishl, 1) := by decide +kernel
theorem d_X10_change_105 : decode (qMc M_X10_change) 105 = .ok (.iconst (-1), 1) := by decide +kernel
theorem d_X10_change_106 : decode (qMc M_X10_change) 106 = .ok (.ixor, 1) := by decide +kernel
theorem d_X10_change_107 : decode (qMc M_X10_change) 107 = .ok (.iand, 1) := by decide +kernel
theorem d_X10_change_108 : decode (qMc M_X10_change) 108 = .ok (.putfield 35, 3) := by decide +kernel
theorem d_X10_change_111 : decode (qMc M_X10_change) 111 = .ok (.goto 13, 3) := by decide +kernel
theorem d_X10_change_114 : decode (qMc M_X10_change) 114 = .ok (.aload_n 0, 1) := by decide +kernel
theorem d_X10_change_115 : decode (qMc M_X10_change) 115 = .ok (.getfield 26, 3) := by decide +kernel
theorem d_X10_change_118 : decode (qMc M_X10_change) 118 = .ok (.iload_n 2, 1) := by decide +kernel
theorem d_X10_change_119 : decode (qMc M_X10_change) 119 = .ok (.iload_n 3, 1) := by decide +kernel
theorem d_X10_change_120 : decode (qMc M_X10_change) 120 = .ok (.iastore, 1) := by decide +kernel
theorem d_X10_change_121 : decode (qMc M_X10_change) 121 = .ok (.goto 3, 3) := by decide +kernel
theorem d_X10_change_124 : decode (qMc M_X10_change) 124 = .ok (.return_, 1) := by decide +kernel
theorem d_X10_keeperSeenLeft_0 : decode (qMc M_X10_keeperSeenLeft) 0 = .ok (.iload_n 1, 1) := by decide +kernel
theorem d_X10_keeperSeenLeft_1 : decode (qMc M_X10_keeperSeenLeft) 1 = .ok (.ifCond .le 9, 3) := by decide +kernel
theorem d_X10_keeperSeenLeft_4 : decode (qMc M_X10_keeperSeenLeft) 4 = .ok (.iload_n 1, 1) := by decide +kernel
theorem d_X10_keeperSeenLeft_5 : decode (qMc M_X10_keeperSeenLeft) 5 = .ok (.iconst 1, 1) := by decide +kernel
theorem d_X10_keeperSeenLeft_6 : decode (qMc M_X10_keeperSeenLeft) 6 = .ok (.isub, 1) := by decide +kernel
theorem d_X10_keeperSeenLeft_7 : decode (qMc M_X10_keeperSeenLeft) 7 = .ok (.goto 20, 3) := by decide +kernel
theorem d_X10_keeperSeenLeft_10 : decode (qMc M_X10_keeperSeenLeft) 10 = .ok (.aload_n 0, 1) := by decide +kernel
theorem d_X10_keeperSeenLeft_11 : decode (qMc M_X10_keeperSeenLeft) 11 = .ok (.getfield 15, 3) := by decide +kernel
theorem d_X10_keeperSeenLeft_14 : decode (qMc M_X10_keeperSeenLeft) 14 = .ok (.ifCond .eq 12, 3) := by decide +kernel
theorem d_X10_keeperSeenLeft_17 : decode (qMc M_X10_keeperSeenLeft) 17 = .ok (.aload_n 0, 1) := by decide +kernel
theorem d_X10_keeperSeenLeft_18 : decode (qMc M_X10_keeperSeenLeft) 18 = .ok (.getfield 9, 3) := by decide +kernel
theorem d_X10_keeperSeenLeft_21 : decode (qMc M_X10_keeperSeenLeft) 21 = .ok (.iconst 1, 1) := by decide +kernel
theorem d_X10_keeperSeenLeft_22 : decode (qMc M_X10_keeperSeenLeft) 22 = .ok (.isub, 1) := by decide +kernel
theorem d_X10_keeperSeenLeft_23 : decode (qMc M_X10_keeperSeenLeft) 23 = .ok (.goto 4, 3) := by decide +kernel
theorem d_X10_keeperSeenLeft_26 : decode (qMc M_X10_keeperSeenLeft) 26 = .ok (.iconst (-1), 1) := by decide +kernel
theorem d_X10_keeperSeenLeft_27 : decode (qMc M_X10_keeperSeenLeft) 27 = .ok (.istore_n 2, 1) := by decide +kernel
theorem d_X10_keeperSeenLeft_28 : decode (qMc M_X10_keeperSeenLeft) 28 = .ok (.iload_n 2, 1) := by decide +kernel
theorem d_X10_keeperSeenLeft_29 : decode (qMc M_X10_keeperSeenLeft) 29 = .ok (.iconst (-1), 1) := by decide +kernel
theorem d_X10_keeperSeenLeft_30 : decode (qMc M_X10_keeperSeenLeft) 30 = .ok (.if_icmp .eq 14, 3) := by decide +kernel
theorem d_X10_keeperSeenLeft_33 : decode (qMc M_X10_keeperSeenLeft) 33 = .ok (.aload_n 0, 1) := by decide +kernel
theorem d_X10_keeperSeenLeft_34 : decode (qMc M_X10_keeperSeenLeft) 34 = .ok (.getfield 26, 3) := by decide +kernel
theorem d_X10_keeperSeenLeft_37 : decode (qMc M_X10_keeperSeenLeft) 37 = .ok (.iload_n 2, 1) := by decide +kernel
theorem d_X10_keeperSeenLeft_38 : decode (qMc M_X10_keeperSeenLeft) 38 = .ok (.iaload, 1) := by decide +kernel
theorem d_X10_keeperSeenLeft_39 : decode (qMc M_X10_keeperSeenLeft) 39 = .ok (.iconst 2, 1) := by decide +kernel
theorem d_X10_keeperSeenLeft_40 : decode (qMc M_X10_keeperSeenLeft) 40 = .ok (.iand, 1) := by decide +kernel
theorem d_X10_keeperSeenLeft_41 : decode (qMc M_X10_keeperSeenLeft) 41 = .ok (.ifCond .eq 7, 3) := by decide +kernel
theorem d_X10_keeperSeenLeft_44 : decode (qMc M_X10_keeperSeenLeft) 44 = .ok (.iconst (-1), 1) := by decide +kernel
theorem d_X10_keeperSeenLeft_45 : decode (qMc M_X10_keeperSeenLeft) 45 = .ok (.goto 4, 3) := by decide +kernel
theorem d_X10_keeperSeenLeft_48 : decode (qMc M_X10_keeperSeenLeft) 48 = .ok (.iload_n 2, 1) := by decide +kernel
theorem d_X10_keeperSeenLeft_49 : decode (qMc M_X10_keeperSeenLeft) 49 = .ok (.ireturn, 1) := by decide +kernel
theorem d_X10_keeperSeenRight_0 : decode (qMc M_X10_keeperSeenRight) 0 = .ok (.iload_n 1, 1) := by decide +kernel
theorem d_X10_keeperSeenRight_1 : decode (qMc M_X10_keeperSeenRight) 1 = .ok (.aload_n 0, 1) := by decide +kernel
theorem d_X10_keeperSeenRight_2 : decode (qMc M_X10_keeperSeenRight) 2 = .ok (.getfield 9, 3) := by decide +kernel
theorem d_X10_keeperSeenRight_5 : decode (qMc M_X10_keeperSeenRight) 5 = .ok (.iconst 1, 1) := by decide +kernel
theorem d_X10_keeperSeenRight_6 : decode (qMc M_X10_keeperSeenRight) 6 = .ok (.isub, 1) := by decide +kernel
theorem d_X10_keeperSeenRight_7 : decode (qMc M_X10_keeperSeenRight) 7 = .ok (.if_icmp .ge 9, 3) := by decide +kernel
theorem d_X10_keeperSeenRight_10 : decode (qMc M_X10_keeperSeenRight) 10 = .ok (.iload_n 1, 1) := by decide +kernel
theorem d_X10_keeperSeenRight_11 : decode (qMc M_X10_keeperSeenRight) 11 = .ok (.iconst 1, 1) := by decide +kernel
theorem d_X10_keeperSeenRight_12 : decode (qMc M_X10_keeperSeenRight) 12 = .ok (.iadd, 1) := by decide +kernel
theorem d_X10_keeperSeenRight_13 : decode (qMc M_X10_keeperSeenRight) 13 = .ok (.goto 15, 3) := by decide +kernel
theorem d_X10_keeperSeenRight_16 : decode (qMc M_X10_keeperSeenRight) 16 = .ok (.aload_n 0, 1) := by decide +kernel
theorem d_X10_keeperSeenRight_17 : decode (qMc M_X10_keeperSeenRight) 17 = .ok (.getfield 15, 3) := by decide +kernel
theorem d_X10_keeperSeenRight_20 : decode (qMc M_X10_keeperSeenRight) 20 = .ok (.ifCond .eq 7, 3) := by decide +kernel
theorem d_X10_keeperSeenRight_23 : decode (qMc M_X10_keeperSeenRight) 23 = .ok (.iconst 0, 1) := by decide +kernel
theorem d_X10_keeperSeenRight_24 : decode (qMc M_X10_keeperSeenRight) 24 = .ok (.goto 4, 3) := by decide +kernel
theorem d_X10_keeperSeenRight_27 : decode (qMc M_X10_keeperSeenRight) 27 = .ok (.iconst (-1), 1) := by decide +kernel
theorem d_X10_keeperSeenRight_28 : decode (qMc M_X10_keeperSeenRight) 28 = .ok (.istore_n 2, 1) := by decide +kernel
theorem d_X10_keeperSeenRight_29 : decode (qMc M_X10_keeperSeenRight) 29 = .ok (.aload_n 0, 1) := by decide +kernel
theorem d_X10_keeperSeenRight_30 : decode (qMc M_X10_keeperSeenRight) 30 = .ok (.getfield 26, 3) := by decide +kernel
theorem d_X10_keeperSeenRight_33 : decode (qMc M_X10_keeperSeenRight) 33 = .ok (.iload_n 1, 1) := by decide +kernel
theorem d_X10_keeperSeenRight_34 : decode (qMc M_X10_keeperSeenRight) 34 = .ok (.iaload, 1) := by decide +kernel
theorem d_X10_keeperSeenRight_35 : decode (qMc M_X10_keeperSeenRight) 35 = .ok (.iconst 1, 1) := by decide +kernel
theorem d_X10_keeperSeenRight_36 : decode (qMc M_X10_keeperSeenRight) 36 = .ok (.iand, 1) := by decide +kernel
theorem d_X10_keeperSeenRight_37 : decode (qMc M_X10_keeperSeenRight) 37 = .ok (.ifCond .eq 7, 3) := by decide +kernel
theorem d_X10_keeperSeenRight_40 : decode (qMc M_X10_keeperSeenRight) 40 = .ok (.iconst (-1), 1) := by decide +kernel
theorem d_X10_keeperSeenRight_41 : decode (qMc M_X10_keeperSeenRight) 41 = .ok (.goto 4, 3) := by decide +kernel
theorem d_X10_keeperSeenRight_44 : decode (qMc M_X10_keeperSeenRight) 44 = .ok (.iload_n 2, 1) := by decide +kernel
theorem d_X10_keeperSeenRight_45 : decode (qMc M_X10_keeperSeenRight) 45 = .ok (.ireturn, 1) := by decide +kernel
theorem d_X10_mindSeenLeft_0 : decode (qMc M_X10_mindSeenLeft) 0 = .ok (.aload_n 0, 1) := by decide +kernel
theorem d_X10_mindSeenLeft_1 : decode (qMc M_X10_mindSeenLeft) 1 = .ok (.iload_n 1, 1) := by decide +kernel
theorem d_X10_mindSeenLeft_2 : decode (qMc M_X10_mindSeenLeft) 2 = .ok (.aload_n 0, 1) := by decide +kernel
theorem d_X10_mindSeenLeft_3 : decode (qMc M_X10_mindSeenLeft) 3 = .ok (.iload_n 1, 1) := by decide +kernel
theorem d_X10_mindSeenLeft_4 : decode (qMc M_X10_mindSeenLeft) 4 = .ok (.invokevirtual 66, 3) := by decide +kernel
theorem d_X10_mindSeenLeft_7 : decode (qMc M_X10_mindSeenLeft) 7 = .ok (.invokevirtual 70, 3) := by decide +kernel
theorem d_X10_mindSeenLeft_10 : decode (qMc M_X10_mindSeenLeft) 10 = .ok (.ireturn, 1) := by decide +kernel
theorem d_X10_mindSeenRight_0 : decode (qMc M_X10_mindSeenRight) 0 = .ok (.aload_n 0, 1) := by decide +kernel
theorem d_X10_mindSeenRight_1 : decode (qMc M_X10_mindSeenRight) 1 = .ok (.iload_n 1, 1) := by decide +kernel
theorem d_X10_mindSeenRight_2 : decode (qMc M_X10_mindSeenRight) 2 = .ok (.aload_n 0, 1) := by decide +kernel
theorem d_X10_mindSeenRight_3 : decode (qMc M_X10_mindSeenRight) 3 = .ok (.iload_n 1, 1) := by decide +kernel
theorem d_X10_mindSeenRight_4 : decode (qMc M_X10_mindSeenRight) 4 = .ok (.invokevirtual 74, 3) := by decide +kernel
theorem d_X10_mindSeenRight_7 : decode (qMc M_X10_mindSeenRight) 7 = .ok (.invokevirtual 70, 3) := by decide +kernel
theorem d_X10_mindSeenRight_10 : decode (qMc M_X10_mindSeenRight) 10 = .ok (.ireturn, 1) := by decide +kernel
theorem d_X10_mindOfSeen_0 : decode (qMc M_X10_mindOfSeen) 0 = .ok (.iload_n 2, 1) := by decide +kernel
theorem d_X10_mindOfSeen_1 : decode (qMc M_X10_mindOfSeen) 1 = .ok (.iconst (-1), 1) := by decide +kernel
theorem d_X10_mindOfSeen_2 : decode (qMc M_X10_mindOfSeen) 2 = .ok (.if_icmp .ne 6, 3) := by decide +kernel
theorem d_X10_mindOfSeen_5 : decode (qMc M_X10_mindOfSeen) 5 = .ok (.bipush 8, 2) := by decide +kernel
theorem d_X10_mindOfSeen_7 : decode (qMc M_X10_mindOfSeen) 7 = .ok (.ireturn, 1) := by decide +kernel
theorem d_X10_mindOfSeen_8 : decode (qMc M_X10_mindOfSeen) 8 = .ok (.aload_n 0, 1) := by decide +kernel
theorem d_X10_mindOfSeen_9 : decode (qMc M_X10_mindOfSeen) 9 = .ok (.iload_n 1, 1) := by decide +kernel
theorem d_X10_mindOfSeen_10 : decode (qMc M_X10_mindOfSeen) 10 = .ok (.invokevirtual 77, 3) := by decide +kernel
theorem d_X10_mindOfSeen_13 : decode (qMc M_X10_mindOfSeen) 13 = .ok (.ifCond .eq 12, 3) := by decide +kernel
theorem d_X10_mindOfSeen_16 : decode (qMc M_X10_mindOfSeen) 16 = .ok (.aload_n 0, 1) := by decide +kernel
theorem d_X10_mindOfSeen_17 : decode (qMc M_X10_mindOfSeen) 17 = .ok (.getfield 23, 3) := by decide +kernel
theorem d_X10_mindOfSeen_20 : decode (qMc M_X10_mindOfSeen) 20 = .ok (.iload_n 2, 1) := by decide +kernel
theorem d_X10_mindOfSeen_21 : decode (qMc M_X10_mindOfSeen) 21 = .ok (.iaload, 1) := by decide +kernel
theorem d_X10_mindOfSeen_22 : decode (qMc M_X10_mindOfSeen) 22 = .ok (.goto 9, 3) := by decide +kernel
theorem d_X10_mindOfSeen_25 : decode (qMc M_X10_mindOfSeen) 25 = .ok (.aload_n 0, 1) := by decide +kernel
theorem d_X10_mindOfSeen_26 : decode (qMc M_X10_mindOfSeen) 26 = .ok (.getfield 19, 3) := by decide +kernel
theorem d_X10_mindOfSeen_29 : decode (qMc M_X10_mindOfSeen) 29 = .ok (.iload_n 2, 1) := by decide +kernel
theorem d_X10_mindOfSeen_30 : decode (qMc M_X10_mindOfSeen) 30 = .ok (.iaload, 1) := by decide +kernel
theorem d_X10_mindOfSeen_31 : decode (qMc M_X10_mindOfSeen) 31 = .ok (.ireturn, 1) := by decide +kernel
theorem d_X10_goOn_0 : decode (qMc M_X10_goOn) 0 = .ok (.iconst 0, 1) := by decide +kernel
theorem d_X10_goOn_1 : decode (qMc M_X10_goOn) 1 = .ok (.istore_n 2, 1) := by decide +kernel
theorem d_X10_goOn_2 : decode (qMc M_X10_goOn) 2 = .ok (.iload_n 2, 1) := by decide +kernel
theorem d_X10_goOn_3 : decode (qMc M_X10_goOn) 3 = .ok (.aload_n 0, 1) := by decide +kernel
theorem d_X10_goOn_4 : decode (qMc M_X10_goOn) 4 = .ok (.getfield 9, 3) := by decide +kernel
theorem d_X10_goOn_7 : decode (qMc M_X10_goOn) 7 = .ok (.if_icmp .ge 21, 3) := by decide +kernel
theorem d_X10_goOn_10 : decode (qMc M_X10_goOn) 10 = .ok (.aload_n 0, 1) := by decide +kernel
theorem d_X10_goOn_11 : decode (qMc M_X10_goOn) 11 = .ok (.getfield 29, 3) := by decide +kernel
theorem d_X10_goOn_14 : decode (qMc M_X10_goOn) 14 = .ok (.iload_n 2, 1) := by decide +kernel
theorem d_X10_goOn_15 : decode (qMc M_X10_goOn) 15 = .ok (.aload_n 0, 1) := by decide +kernel
theorem d_X10_goOn_16 : decode (qMc M_X10_goOn) 16 = .ok (.iload_n 2, 1) := by decide +kernel
theorem d_X10_goOn_17 : decode (qMc M_X10_goOn) 17 = .ok (.aload_n 1, 1) := by decide +kernel
theorem d_X10_goOn_18 : decode (qMc M_X10_goOn) 18 = .ok (.invokevirtual 81, 3) := by decide +kernel
theorem d_X10_goOn_21 : decode (qMc M_X10_goOn) 21 = .ok (.iastore, 1) := by decide +kernel
theorem d_X10_goOn_22 : decode (qMc M_X10_goOn) 22 = .ok (.iinc 2 1, 3) := by decide +kernel
theorem d_X10_goOn_25 : decode (qMc M_X10_goOn) 25 = .ok (.goto (-23), 3) := by decide +kernel
theorem d_X10_goOn_28 : decode (qMc M_X10_goOn) 28 = .ok (.aload_n 0, 1) := by decide +kernel
theorem d_X10_goOn_29 : decode (qMc M_X10_goOn) 29 = .ok (.getfield 19, 3) := by decide +kernel
theorem d_X10_goOn_32 : decode (qMc M_X10_goOn) 32 = .ok (.iconst 0, 1) := by decide +kernel
theorem d_X10_goOn_33 : decode (qMc M_X10_goOn) 33 = .ok (.aload_n 0, 1) := by decide +kernel
theorem d_X10_goOn_34 : decode (qMc M_X10_goOn) 34 = .ok (.getfield 23, 3) := by decide +kernel
theorem d_X10_goOn_37 : decode (qMc M_X10_goOn) 37 = .ok (.iconst 0, 1) := by decide +kernel
theorem d_X10_goOn_38 : decode (qMc M_X10_goOn) 38 = .ok (.aload_n 0, 1) := by decide +kernel
theorem d_X10_goOn_39 : decode (qMc M_X10_goOn) 39 = .ok (.getfield 9, 3) := by decide +kernel
theorem d_X10_goOn_42 : decode (qMc M_X10_goOn) 42 = .ok (.invokestatic 56, 3) := by decide +kernel
theorem d_X10_goOn_45 : decode (qMc M_X10_goOn) 45 = .ok (.aload_n 0, 1) := by decide +kernel
theorem d_X10_goOn_46 : decode (qMc M_X10_goOn) 46 = .ok (.getfield 29, 3) := by decide +kernel
theorem d_X10_goOn_49 : decode (qMc M_X10_goOn) 49 = .ok (.iconst 0, 1) := by decide +kernel
theorem d_X10_goOn_50 : decode (qMc M_X10_goOn) 50 = .ok (.aload_n 0, 1) := by decide +kernel
theorem d_X10_goOn_51 : decode (qMc M_X10_goOn) 51 = .ok (.getfield 19, 3) := by decide +kernel
theorem d_X10_goOn_54 : decode (qMc M_X10_goOn) 54 = .ok (.iconst 0, 1) := by decide +kernel
theorem d_X10_goOn_55 : decode (qMc M_X10_goOn) 55 = .ok (.aload_n 0, 1) := by decide +kernel
theorem d_X10_goOn_56 : decode (qMc M_X10_goOn) 56 = .ok (.getfield 9, 3) := by decide +kernel
theorem d_X10_goOn_59 : decode (qMc M_X10_goOn) 59 = .ok (.invokestatic 56, 3) := by decide +kernel
theorem d_X10_goOn_62 : decode (qMc M_X10_goOn) 62 = .ok (.return_, 1) := by decide +kernel
theorem d_X10_answerFor_0 : decode (qMc M_X10_answerFor) 0 = .ok (.aload_n 0, 1) := by decide +kernel
theorem d_X10_answerFor_1 : decode (qMc M_X10_answerFor) 1 = .ok (.getfield 19, 3) := by decide +kernel
theorem d_X10_answerFor_4 : decode (qMc M_X10_answerFor) 4 = .ok (.iload_n 1, 1) := by decide +kernel
theorem d_X10_answerFor_5 : decode (qMc M_X10_answerFor) 5 = .ok (.iaload, 1) := by decide +kernel
theorem d_X10_answerFor_6 : decode (qMc M_X10_answerFor) 6 = .ok (.istore_n 3, 1) := by decide +kernel
theorem d_X10_answerFor_7 : decode (qMc M_X10_answerFor) 7 = .ok (.iload_n 3, 1) := by decide +kernel
theorem d_X10_answerFor_8 : decode (qMc M_X10_answerFor) 8 = .ok (.bipush 7, 2) := by decide +kernel
theorem d_X10_answerFor_10 : decode (qMc M_X10_answerFor) 10 = .ok (.if_icmp .eq 11, 3) := by decide +kernel
theorem d_X10_answerFor_13 : decode (qMc M_X10_answerFor) 13 = .ok (.aload_n 0, 1) := by decide +kernel
theorem d_X10_answerFor_14 : decode (qMc M_X10_answerFor) 14 = .ok (.iload_n 1, 1) := by decide +kernel
theorem d_X10_answerFor_15 : decode (qMc M_X10_answerFor) 15 = .ok (.invokevirtual 85, 3) := by decide +kernel
theorem d_X10_answerFor_18 : decode (qMc M_X10_answerFor) 18 = .ok (.ifCond .eq 5, 3) := by decide +kernel
theorem d_X10_answerFor_21 : decode (qMc M_X10_answerFor) 21 = .ok (.iload_n 3, 1) := by decide +kernel
theorem d_X10_answerFor_22 : decode (qMc M_X10_answerFor) 22 = .ok (.ireturn, 1) := by decide +kernel
theorem d_X10_answerFor_23 : decode (qMc M_X10_answerFor) 23 = .ok (.iload_n 3, 1) := by decide +kernel
theorem d_X10_answerFor_24 : decode (qMc M_X10_answerFor) 24 = .ok (.aload_n 0, 1) := by decide +kernel
theorem d_X10_answerFor_25 : decode (qMc M_X10_answerFor) 25 = .ok (.iload_n 1, 1) := by decide +kernel
theorem d_X10_answerFor_26 : decode (qMc M_X10_answerFor) 26 = .ok (.invokevirtual 88, 3) := by decide +kernel
theorem d_X10_answerFor_29 : decode (qMc M_X10_answerFor) 29 = .ok (.aload_n 0, 1) := by decide +kernel
theorem d_X10_answerFor_30 : decode (qMc M_X10_answerFor) 30 = .ok (.iload_n 1, 1) := by decide +kernel
theorem d_X10_answerFor_31 : decode (qMc M_X10_answerFor) 31 = .ok (.invokevirtual 91, 3) := by decide +kernel
theorem d_X10_answerFor_34 : decode (qMc M_X10_answerFor) 34 = .ok (.invokestatic 94, 3) := by decide +kernel
theorem d_X10_answerFor_37 : decode (qMc M_X10_answerFor) 37 = .ok (.istore 4, 2) := by decide +kernel
theorem d_X10_answerFor_39 : decode (qMc M_X10_answerFor) 39 = .ok (.aload_n 2, 1) := by decide +kernel
theorem d_X10_answerFor_40 : decode (qMc M_X10_answerFor) 40 = .ok (.getfield 98, 3) := by decide +kernel
theorem d_X10_answerFor_43 : decode (qMc M_X10_answerFor) 43 = .ok (.iload 4, 2) := by decide +kernel
theorem d_X10_answerFor_45 : decode (qMc M_X10_answerFor) 45 = .ok (.iaload, 1) := by decide +kernel
theorem d_X10_answerFor_46 : decode (qMc M_X10_answerFor) 46 = .ok (.iconst (-1), 1) := by decide +kernel
theorem d_X10_answerFor_47 : decode (qMc M_X10_answerFor) 47 = .ok (.if_icmp .eq 13, 3) := by decide +kernel
theorem d_X10_answerFor_50 : decode (qMc M_X10_answerFor) 50 = .ok (.aload_n 0, 1) := by decide +kernel
theorem d_X10_answerFor_51 : decode (qMc M_X10_answerFor) 51 = .ok (.dup, 1) := by decide +kernel
theorem d_X10_answerFor_52 : decode (qMc M_X10_answerFor) 52 = .ok (.getfield 41, 3) := by decide +kernel
theorem d_X10_answerFor_55 : decode (qMc M_X10_answerFor) 55 = .ok (.iconst 1, 1) := by decide +kernel
theorem d_X10_answerFor_56 : decode (qMc M_X10_answerFor) 56 = .ok (.iadd, 1) := by decide +kernel
theorem d_X10_answerFor_57 : decode (qMc M_X10_answerFor) 57 = .ok (.putfield 41, 3) := by decide +kernel
theorem d_X10_answerFor_60 : decode (qMc M_X10_answerFor) 60 = .ok (.aload_n 2, 1) := by decide +kernel
theorem d_X10_answerFor_61 : decode (qMc M_X10_answerFor) 61 = .ok (.getfield 103, 3) := by decide +kernel
theorem d_X10_answerFor_64 : decode (qMc M_X10_answerFor) 64 = .ok (.iload 4, 2) := by decide +kernel
theorem d_X10_answerFor_66 : decode (qMc M_X10_answerFor) 66 = .ok (.iaload, 1) := by decide +kernel
theorem d_X10_answerFor_67 : decode (qMc M_X10_answerFor) 67 = .ok (.ireturn, 1) := by decide +kernel
theorem d_X10_litCount_0 : decode (qMc M_X10_litCount) 0 = .ok (.iconst 0, 1) := by decide +kernel
theorem d_X10_litCount_1 : decode (qMc M_X10_litCount) 1 = .ok (.istore_n 1, 1) := by decide +kernel
theorem d_X10_litCount_2 : decode (qMc M_X10_litCount) 2 = .ok (.iconst 0, 1) := by decide +kernel
theorem d_X10_litCount_3 : decode (qMc M_X10_litCount) 3 = .ok (.istore_n 2, 1) := by decide +kernel
theorem d_X10_litCount_4 : decode (qMc M_X10_litCount) 4 = .ok (.iload_n 2, 1) := by decide +kernel
theorem d_X10_litCount_5 : decode (qMc M_X10_litCount) 5 = .ok (.aload_n 0, 1) := by decide +kernel
theorem d_X10_litCount_6 : decode (qMc M_X10_litCount) 6 = .ok (.getfield 9, 3) := by decide +kernel
theorem d_X10_litCount_9 : decode (qMc M_X10_litCount) 9 = .ok (.if_icmp .ge 23, 3) := by decide +kernel
theorem d_X10_litCount_12 : decode (qMc M_X10_litCount) 12 = .ok (.aload_n 0, 1) := by decide +kernel
theorem d_X10_litCount_13 : decode (qMc M_X10_litCount) 13 = .ok (.getfield 19, 3) := by decide +kernel
theorem d_X10_litCount_16 : decode (qMc M_X10_litCount) 16 = .ok (.iload_n 2, 1) := by decide +kernel
theorem d_X10_litCount_17 : decode (qMc M_X10_litCount) 17 = .ok (.iaload, 1) := by decide +kernel
theorem d_X10_litCount_18 : decode (qMc M_X10_litCount) 18 = .ok (.bipush 7, 2) := by decide +kernel
theorem d_X10_litCount_20 : decode (qMc M_X10_litCount) 20 = .ok (.if_icmp .ne 6, 3) := by decide +kernel
theorem d_X10_litCount_23 : decode (qMc M_X10_litCount) 23 = .ok (.iinc 1 1, 3) := by decide +kernel
theorem d_X10_litCount_26 : decode (qMc M_X10_litCount) 26 = .ok (.iinc 2 1, 3) := by decide +kernel
theorem d_X10_litCount_29 : decode (qMc M_X10_litCount) 29 = .ok (.goto (-25), 3) := by decide +kernel
theorem d_X10_litCount_32 : decode (qMc M_X10_litCount) 32 = .ok (.iload_n 1, 1) := by decide +kernel
theorem d_X10_litCount_33 : decode (qMc M_X10_litCount) 33 = .ok (.ireturn, 1) := by decide +kernel
theorem d_X10_leastLit_0 : decode (qMc M_X10_leastLit) 0 = .ok (.iconst 0, 1) := by decide +kernel
theorem d_X10_leastLit_1 : decode (qMc M_X10_leastLit) 1 = .ok (.istore_n 1, 1) := by decide +kernel
theorem d_X10_leastLit_2 : decode (qMc M_X10_leastLit) 2 = .ok (.iload_n 1, 1) := by decide +kernel
theorem d_X10_leastLit_3 : decode (qMc M_X10_leastLit) 3 = .ok (.aload_n 0, 1) := by decide +kernel
theorem d_X10_leastLit_4 : decode (qMc M_X10_leastLit) 4 = .ok (.getfield 9, 3) := by decide +kernel
theorem d_X10_leastLit_7 : decode (qMc M_X10_leastLit) 7 = .ok (.if_icmp .ge 22, 3) := by decide +kernel
theorem d_X10_leastLit_10 : decode (qMc M_X10_leastLit) 10 = .ok (.aload_n 0, 1) := by decide +kernel
theorem d_X10_leastLit_11 : decode (qMc M_X10_leastLit) 11 = .ok (.getfield 19, 3) := by decide +kernel
theorem d_X10_leastLit_14 : decode (qMc M_X10_leastLit) 14 = .ok (.iload_n 1, 1) := by decide +kernel
theorem d_X10_leastLit_15 : decode (qMc M_X10_leastLit) 15 = .ok (.iaload, 1) := by decide +kernel
theorem d_X10_leastLit_16 : decode (qMc M_X10_leastLit) 16 = .ok (.bipush 7, 2) := by decide +kernel
theorem d_X10_leastLit_18 : decode (qMc M_X10_leastLit) 18 = .ok (.if_icmp .ne 5, 3) := by decide +kernel
theorem d_X10_leastLit_21 : decode (qMc M_X10_leastLit) 21 = .ok (.iload_n 1, 1) := by decide +kernel
theorem d_X10_leastLit_22 : decode (qMc M_X10_leastLit) 22 = .ok (.ireturn, 1) := by decide +kernel
theorem d_X10_leastLit_23 : decode (qMc M_X10_leastLit) 23 = .ok (.iinc 1 1, 3) := by decide +kernel
theorem d_X10_leastLit_26 : decode (qMc M_X10_leastLit) 26 = .ok (.goto (-24), 3) := by decide +kernel
theorem d_X10_leastLit_29 : decode (qMc M_X10_leastLit) 29 = .ok (.iconst (-1), 1) := by decide +kernel
theorem d_X10_leastLit_30 : decode (qMc M_X10_leastLit) 30 = .ok (.ireturn, 1) := by decide +kernel
theorem d_X11_init_0 : decode (qMc M_X11_init) 0 = .ok (.aload_n 0, 1) := by decide +kernel
theorem d_X11_init_1 : decode (qMc M_X11_init) 1 = .ok (.invokespecial 3, 3) := by decide +kernel
theorem d_X11_init_4 : decode (qMc M_X11_init) 4 = .ok (.aload_n 0, 1) := by decide +kernel
theorem d_X11_init_5 : decode (qMc M_X11_init) 5 = .ok (.new 9, 3) := by decide +kernel
theorem d_X11_init_8 : decode (qMc M_X11_init) 8 = .ok (.dup, 1) := by decide +kernel
theorem d_X11_init_9 : decode (qMc M_X11_init) 9 = .ok (.invokespecial 11, 3) := by decide +kernel
theorem d_X11_init_12 : decode (qMc M_X11_init) 12 = .ok (.putfield 12, 3) := by decide +kernel
theorem d_X11_init_15 : decode (qMc M_X11_init) 15 = .ok (.aload_n 0, 1) := by decide +kernel
theorem d_X11_init_16 : decode (qMc M_X11_init) 16 = .ok (.new 9, 3) := by decide +kernel
theorem d_X11_init_19 : decode (qMc M_X11_init) 19 = .ok (.dup, 1) := by decide +kernel
theorem d_X11_init_20 : decode (qMc M_X11_init) 20 = .ok (.invokespecial 11, 3) := by decide +kernel
theorem d_X11_init_23 : decode (qMc M_X11_init) 23 = .ok (.putfield 16, 3) := by decide +kernel
theorem d_X11_init_26 : decode (qMc M_X11_init) 26 = .ok (.aload_n 0, 1) := by decide +kernel
theorem d_X11_init_27 : decode (qMc M_X11_init) 27 = .ok (.iconst 0, 1) := by decide +kernel
theorem d_X11_init_28 : decode (qMc M_X11_init) 28 = .ok (.putfield 19, 3) := by decide +kernel
theorem d_X11_init_31 : decode (qMc M_X11_init) 31 = .ok (.aload_n 0, 1) := by decide +kernel
theorem d_X11_init_32 : decode (qMc M_X11_init) 32 = .ok (.new 23, 3) := by decide +kernel
theorem d_X11_init_35 : decode (qMc M_X11_init) 35 = .ok (.dup, 1) := by decide +kernel
theorem d_X11_init_36 : decode (qMc M_X11_init) 36 = .ok (.invokespecial 25, 3) := by decide +kernel
theorem d_X11_init_39 : decode (qMc M_X11_init) 39 = .ok (.putfield 26, 3) := by decide +kernel
theorem d_X11_init_42 : decode (qMc M_X11_init) 42 = .ok (.aload_n 0, 1) := by decide +kernel
theorem d_X11_init_43 : decode (qMc M_X11_init) 43 = .ok (.new 30, 3) := by decide +kernel
theorem d_X11_init_46 : decode (qMc M_X11_init) 46 = .ok (.dup, 1) := by decide +kernel
theorem d_X11_init_47 : decode (qMc M_X11_init) 47 = .ok (.invokespecial 32, 3) := by decide +kernel
theorem d_X11_init_50 : decode (qMc M_X11_init) 50 = .ok (.putfield 33, 3) := by decide +kernel
theorem d_X11_init_53 : decode (qMc M_X11_init) 53 = .ok (.aload_n 0, 1) := by decide +kernel
theorem d_X11_init_54 : decode (qMc M_X11_init) 54 = .ok (.new 37, 3) := by decide +kernel
theorem d_X11_init_57 : decode (qMc M_X11_init) 57 = .ok (.dup, 1) := by decide +kernel
theorem d_X11_init_58 : decode (qMc M_X11_init) 58 = .ok (.invokespecial 39, 3) := by decide +kernel
theorem d_X11_init_61 : decode (qMc M_X11_init) 61 = .ok (.putfield 40, 3) := by decide +kernel
theorem d_X11_init_64 : decode (qMc M_X11_init) 64 = .ok (.aload_n 0, 1) := by decide +kernel
theorem d_X11_init_65 : decode (qMc M_X11_init) 65 = .ok (.new 44, 3) := by decide +kernel
theorem d_X11_init_68 : decode (qMc M_X11_init) 68 = .ok (.dup, 1) := by decide +kernel
theorem d_X11_init_69 : decode (qMc M_X11_init) 69 = .ok (.invokespecial 46, 3) := by decide +kernel
theorem d_X11_init_72 : decode (qMc M_X11_init) 72 = .ok (.putfield 47, 3) := by decide +kernel
theorem d_X11_init_75 : decode (qMc M_X11_init) 75 = .ok (.aload_n 0, 1) := by decide +kernel
theorem d_X11_init_76 : decode (qMc M_X11_init) 76 = .ok (.new 51, 3) := by decide +kernel
theorem d_X11_init_79 : decode (qMc M_X11_init) 79 = .ok (.dup, 1) := by decide +kernel
theorem d_X11_init_80 : decode (qMc M_X11_init) 80 = .ok (.invokespecial 53, 3) := by decide +kernel
theorem d_X11_init_83 : decode (qMc M_X11_init) 83 = .ok (.putfield 54, 3) := by decide +kernel
theorem d_X11_init_86 : decode (qMc M_X11_init) 86 = .ok (.aload_n 0, 1) := by decide +kernel
theorem d_X11_init_87 : decode (qMc M_X11_init) 87 = .ok (.bipush 32, 2) := by decide +kernel
theorem d_X11_init_89 : decode (qMc M_X11_init) 89 = .ok (.newarray .int, 2) := by decide +kernel
theorem d_X11_init_91 : decode (qMc M_X11_init) 91 = .ok (.putfield 58, 3) := by decide +kernel
theorem d_X11_init_94 : decode (qMc M_X11_init) 94 = .ok (.return_, 1) := by decide +kernel
theorem d_X11_wall_0 : decode (qMc M_X11_wall) 0 = .ok (.iload_n 1, 1) := by decide +kernel
theorem d_X11_wall_1 : decode (qMc M_X11_wall) 1 = .ok (.iconst 0, 1) := by decide +kernel
theorem d_X11_wall_2 : decode (qMc M_X11_wall) 2 = .ok (.bipush 32, 2) := by decide +kernel
theorem d_X11_wall_4 : decode (qMc M_X11_wall) 4 = .ok (.invokestatic 62, 3) := by decide +kernel
theorem d_X11_wall_7 : decode (qMc M_X11_wall) 7 = .ok (.ifCond .ne 5, 3) := by decide +kernel
theorem d_X11_wall_10 : decode (qMc M_X11_wall) 10 = .ok (.iconst 0, 1) := by decide +kernel
theorem d_X11_wall_11 : decode (qMc M_X11_wall) 11 = .ok (.ireturn, 1) := by decide +kernel
theorem d_X11_wall_12 : decode (qMc M_X11_wall) 12 = .ok (.aload_n 0, 1) := by decide +kernel
theorem d_X11_wall_13 : decode (qMc M_X11_wall) 13 = .ok (.getfield 12, 3) := by decide +kernel
theorem d_X11_wall_16 : decode (qMc M_X11_wall) 16 = .ok (.getfield 66, 3) := by decide +kernel
theorem d_X11_wall_19 : decode (qMc M_X11_wall) 19 = .ok (.iload_n 1, 1) := by decide +kernel
theorem d_X11_wall_20 : decode (qMc M_X11_wall) 20 = .ok (.iload_n 2, 1) := by decide +kernel
theorem d_X11_wall_21 : decode (qMc M_X11_wall) 21 = .ok (.invokevirtual 70, 3) := by decide +kernel
theorem d_X11_wall_24 : decode (qMc M_X11_wall) 24 = .ok (.aload_n 0, 1) := by decide +kernel
theorem d_X11_wall_25 : decode (qMc M_X11_wall) 25 = .ok (.getfield 26, 3) := by decide +kernel
theorem d_X11_wall_28 : decode (qMc M_X11_wall) 28 = .ok (.invokevirtual 76, 3) := by decide +kernel
theorem d_X11_wall_31 : decode (qMc M_X11_wall) 31 = .ok (.iconst 1, 1) := by decide +kernel
theorem d_X11_wall_32 : decode (qMc M_X11_wall) 32 = .ok (.ireturn, 1) := by decide +kernel
theorem d_X11_act_0 : decode (qMc M_X11_act) 0 = .ok (.iload_n 1, 1) := by decide +kernel
theorem d_X11_act_1 : decode (qMc M_X11_act) 1 = .ok (.iload_n 3, 1) := by decide +kernel
theorem d_X11_act_2 : decode (qMc M_X11_act) 2 = .ok (.invokestatic 79, 3) := by decide +kernel
theorem d_X11_act_5 : decode (qMc M_X11_act) 5 = .ok (.istore 4, 2) := by decide +kernel
theorem d_X11_act_7 : decode (qMc M_X11_act) 7 = .ok (.iload 4, 2) := by decide +kernel
theorem d_X11_act_9 : decode (qMc M_X11_act) 9 = .ok (.iconst (-1), 1) := by decide +kernel
theorem d_X11_act_10 : decode (qMc M_X11_act) 10 = .ok (.if_icmp .eq 17, 3) := by decide +kernel
theorem d_X11_act_13 : decode (qMc M_X11_act) 13 = .ok (.aload_n 0, 1) := by decide +kernel
theorem d_X11_act_14 : decode (qMc M_X11_act) 14 = .ok (.getfield 12, 3) := by decide +kernel
theorem d_X11_act_17 : decode (qMc M_X11_act) 17 = .ok (.getfield 66, 3) := by decide +kernel
theorem d_X11_act_20 : decode (qMc M_X11_act) 20 = .ok (.iload_n 2, 1) := by decide +kernel
theorem d_X11_act_21 : decode (qMc M_X11_act) 21 = .ok (.invokevirtual 83, 3) := by decide +kernel
theorem d_X11_act_24 : decode (qMc M_X11_act) 24 = .ok (.ifCond .ne 5, 3) := by decide +kernel
theorem d_X11_act_27 : decode (qMc M_X11_act) 27 = .ok (.iconst 0, 1) := by decide +kernel
theorem d_X11_act_28 : decode (qMc M_X11_act) 28 = .ok (.ireturn, 1) := by decide +kernel
theorem d_X11_act_29 : decode (qMc M_X11_act) 29 = .ok (.aload_n 0, 1) := by decide +kernel
theorem d_X11_act_30 : decode (qMc M_X11_act) 30 = .ok (.getfield 26, 3) := by decide +kernel
theorem d_X11_act_33 : decode (qMc M_X11_act) 33 = .ok (.aload_n 0, 1) := by decide +kernel
theorem d_X11_act_34 : decode (qMc M_X11_act) 34 = .ok (.getfield 12, 3) := by decide +kernel
theorem d_X11_act_37 : decode (qMc M_X11_act) 37 = .ok (.invokevirtual 87, 3) := by decide +kernel
theorem d_X11_act_40 : decode (qMc M_X11_act) 40 = .ok (.aload_n 0, 1) := by decide +kernel
theorem d_X11_act_41 : decode (qMc M_X11_act) 41 = .ok (.getfield 12, 3) := by decide +kernel
theorem d_X11_act_44 : decode (qMc M_X11_act) 44 = .ok (.iload 4, 2) := by decide +kernel
theorem d_X11_act_46 : decode (qMc M_X11_act) 46 = .ok (.iload_n 2, 1) := by decide +kernel
theorem d_X11_act_47 : decode (qMc M_X11_act) 47 = .ok (.iload 4, 2) := by decide +kernel
theorem d_X11_act_49 : decode (qMc M_X11_act) 49 = .ok (.ifCond .eq 9, 3) := by decide +kernel
theorem d_X11_act_52 : decode (qMc M_X11_act) 52 = .ok (.iload 4, 2) := by decide +kernel
theorem d_X11_act_54 : decode (qMc M_X11_act) 54 = .ok (.iconst 5, 1) := by decide +kernel
theorem d_X11_act_55 : decode (qMc M_X11_act) 55 = .ok (.if_icmp .ne 7, 3) := by decide +kernel
theorem d_X11_act_58 : decode (qMc M_X11_act) 58 = .ok (.iload_n 3, 1) := by decide +kernel
theorem d_X11_act_59 : decode (qMc M_X11_act) 59 = .ok (.goto 4, 3) := by decide +kernel
theorem d_X11_act_62 : decode (qMc M_X11_act) 62 = .ok (.iconst 0, 1) := by decide +kernel
theorem d_X11_act_63 : decode (qMc M_X11_act) 63 = .ok (.invokevirtual 91, 3) := by decide +kernel
theorem d_X11_act_66 : decode (qMc M_X11_act) 66 = .ok (.iconst 1, 1) := by decide +kernel
theorem d_X11_act_67 : decode (qMc M_X11_act) 67 = .ok (.ireturn, 1) := by decide +kernel
theorem d_X11_kindOfAct_0 : decode (qMc M_X11_kindOfAct) 0 = .ok (.iload_n 0, 1) := by decide +kernel
theorem d_X11_kindOfAct_1 : decode (qMc M_X11_kindOfAct) 1 = .ok (.ifCond .ne 19, 3) := by decide +kernel
theorem d_X11_kindOfAct_4 : decode (qMc M_X11_kindOfAct) 4 = .ok (.iload_n 1, 1) := by decide +kernel
theorem d_X11_kindOfAct_5 : decode (qMc M_X11_kindOfAct) 5 = .ok (.iconst 0, 1) := by decide +kernel
theorem d_X11_kindOfAct_6 : decode (qMc M_X11_kindOfAct) 6 = .ok (.bipush 7, 2) := by decide +kernel
theorem d_X11_kindOfAct_8 : decode (qMc M_X11_kindOfAct) 8 = .ok (.invokestatic 62, 3) := by decide +kernel
theorem d_X11_kindOfAct_11 : decode (qMc M_X11_kindOfAct) 11 = .ok (.ifCond .eq 7, 3) := by decide +kernel
theorem d_X11_kindOfAct_14 : decode (qMc M_X11_kindOfAct) 14 = .ok (.iconst 0, 1) := by decide +kernel
theorem d_X11_kindOfAct_15 : decode (qMc M_X11_kindOfAct) 15 = .ok (.goto 4, 3) := by decide +kernel
theorem d_X11_kindOfAct_18 : decode (qMc M_X11_kindOfAct) 18 = .ok (.iconst (-1), 1) := by decide +kernel
theorem d_X11_kindOfAct_19 : decode (qMc M_X11_kindOfAct) 19 = .ok (.ireturn, 1) := by decide +kernel
theorem d_X11_kindOfAct_20 : decode (qMc M_X11_kindOfAct) 20 = .ok (.iload_n 0, 1) := by decide +kernel
theorem d_X11_kindOfAct_21 : decode (qMc M_X11_kindOfAct) 21 = .ok (.iconst 3, 1) := by decide +kernel
theorem d_X11_kindOfAct_22 : decode (qMc M_X11_kindOfAct) 22 = .ok (.if_icmp .ne 18, 3) := by decide +kernel
theorem d_X11_kindOfAct_25 : decode (qMc M_X11_kindOfAct) 25 = .ok (.iload_n 1, 1) := by decide +kernel
theorem d_X11_kindOfAct_26 : decode (qMc M_X11_kindOfAct) 26 = .ok (.iconst 0, 1) := by decide +kernel
theorem d_X11_kindOfAct_27 : decode (qMc M_X11_kindOfAct) 27 = .ok (.iconst 3, 1) := by decide +kernel
theorem d_X11_kindOfAct_28 : decode (qMc M_X11_kindOfAct) 28 = .ok (.invokestatic 62, 3) := by decide +kernel
theorem d_X11_kindOfAct_31 : decode (qMc M_X11_kindOfAct) 31 = .ok (.ifCond .eq 7, 3) := by decide +kernel
theorem d_X11_kindOfAct_34 : decode (qMc M_X11_kindOfAct) 34 = .ok (.iconst 5, 1) := by decide +kernel
theorem d_X11_kindOfAct_35 : decode (qMc M_X11_kindOfAct) 35 = .ok (.goto 4, 3) := by decide +kernel
theorem d_X11_kindOfAct_38 : decode (qMc M_X11_kindOfAct) 38 = .ok (.iconst (-1), 1) := by decide +kernel
theorem d_X11_kindOfAct_39 : decode (qMc M_X11_kindOfAct) 39 = .ok (.ireturn, 1) := by decide +kernel
theorem d_X11_kindOfAct_40 : decode (qMc M_X11_kindOfAct) 40 = .ok (.iload_n 1, 1) := by decide +kernel
theorem d_X11_kindOfAct_41 : decode (qMc M_X11_kindOfAct) 41 = .ok (.iconst 0, 1) := by decide +kernel
theorem d_X11_kindOfAct_42 : decode (qMc M_X11_kindOfAct) 42 = .ok (.iconst 1, 1) := by decide +kernel
theorem d_X11_kindOfAct_43 : decode (qMc M_X11_kindOfAct) 43 = .ok (.invokestatic 62, 3) := by decide +kernel
theorem d_X11_kindOfAct_46 : decode (qMc M_X11_kindOfAct) 46 = .ok (.ifCond .ne 5, 3) := by decide +kernel
theorem d_X11_kindOfAct_49 : decode (qMc M_X11_kindOfAct) 49 = .ok (.iconst (-1), 1) := by decide +kernel
theorem d_X11_kindOfAct_50 : decode (qMc M_X11_kindOfAct) 50 = .ok (.ireturn, 1) := by decide +kernel
theorem d_X11_kindOfAct_51 : decode (qMc M_X11_kindOfAct) 51 = .ok (.iload_n 0, 1) := by decide +kernel
theorem d_X11_kindOfAct_52 : decode (qMc M_X11_kindOfAct) 52 = .ok (.iconst 1, 1) := by decide +kernel
theorem d_X11_kindOfAct_53 : decode (qMc M_X11_kindOfAct) 53 = .ok (.if_icmp .ne 14, 3) := by decide +kernel
theorem d_X11_kindOfAct_56 : decode (qMc M_X11_kindOfAct) 56 = .ok (.iload_n 1, 1) := by decide +kernel
theorem d_X11_kindOfAct_57 : decode (qMc M_X11_kindOfAct) 57 = .ok (.iconst 1, 1) := by decide +kernel
theorem d_X11_kindOfAct_58 : decode (qMc M_X11_kindOfAct) 58 = .ok (.if_icmp .ne 7, 3) := by decide +kernel
theorem d_X11_kindOfAct_61 : decode (qMc M_X11_kindOfAct) 61 = .ok (.iconst 1, 1) := by decide +kernel
theorem d_X11_kindOfAct_62 : decode (qMc M_X11_kindOfAct) 62 = .ok (.goto 4, 3) := by decide +kernel
theorem d_X11_kindOfAct_65 : decode (qMc M_X11_kindOfAct) 65 = .ok (.iconst 2, 1) := by decide +kernel
theorem d_X11_kindOfAct_66 : decode (qMc M_X11_kindOfAct) 66 = .ok (.ireturn, 1) := by decide +kernel
theorem d_X11_kindOfAct_67 : decode (qMc M_X11_kindOfAct) 67 = .ok (.iload_n 0, 1) := by decide +kernel
theorem d_X11_kindOfAct_68 : decode (qMc M_X11_kindOfAct) 68 = .ok (.iconst 2, 1) := by decide +kernel
theorem d_X11_kindOfAct_69 : decode (qMc M_X11_kindOfAct) 69 = .ok (.if_icmp .ne 14, 3) := by decide +kernel
theorem d_X11_kindOfAct_72 : decode (qMc M_X11_kindOfAct) 72 = .ok (.iload_n 1, 1) := by decide +kernel
theorem d_X11_kindOfAct_73 : decode (qMc M_X11_kindOfAct) 73 = .ok (.iconst 1, 1) := by decide +kernel
theorem d_X11_kindOfAct_74 : decode (qMc M_X11_kindOfAct) 74 = .ok (.if_icmp .ne 7, 3) := by decide +kernel
theorem d_X11_kindOfAct_77 : decode (qMc M_X11_kindOfAct) 77 = .ok (.iconst 3, 1) := by decide +kernel
theorem d_X11_kindOfAct_78 : decode (qMc M_X11_kindOfAct) 78 = .ok (.goto 4, 3) := by decide +kernel
theorem d_X11_kindOfAct_81 : decode (qMc M_X11_kindOfAct) 81 = .ok (.iconst 4, 1) := by decide +kernel
theorem d_X11_kindOfAct_82 : decode (qMc M_X11_kindOfAct) 82 = .ok (.ireturn, 1) := by decide +kernel
theorem d_X11_kindOfAct_83 : decode (qMc M_X11_kindOfAct) 83 = .ok (.iconst (-1), 1) := by decide +kernel
theorem d_X11_kindOfAct_84 : decode (qMc M_X11_kindOfAct) 84 = .ok (.ireturn, 1) := by decide +kernel
theorem d_X11_breaths_0 : decode (qMc M_X11_breaths) 0 = .ok (.iload_n 1, 1) := by decide +kernel
theorem d_X11_breaths_1 : decode (qMc M_X11_breaths) 1 = .ok (.iconst 1, 1) := by decide +kernel
theorem d_X11_breaths_2 : decode (qMc M_X11_breaths) 2 = .ok (.bipush 60, 2) := by decide +kernel
theorem d_X11_breaths_4 : decode (qMc M_X11_breaths) 4 = .ok (.invokestatic 62, 3) := by decide +kernel
theorem d_X11_breaths_7 : decode (qMc M_X11_breaths) 7 = .ok (.ifCond .eq 21, 3) := by decide +kernel
theorem d_X11_breaths_10 : decode (qMc M_X11_breaths) 10 = .ok (.aload_n 0, 1) := by decide +kernel
theorem d_X11_breaths_11 : decode (qMc M_X11_breaths) 11 = .ok (.getfield 12, 3) := by decide +kernel
theorem d_X11_breaths_14 : decode (qMc M_X11_breaths) 14 = .ok (.getfield 66, 3) := by decide +kernel
theorem d_X11_breaths_17 : decode (qMc M_X11_breaths) 17 = .ok (.getfield 95, 3) := by decide +kernel
theorem d_X11_breaths_20 : decode (qMc M_X11_breaths) 20 = .ok (.iload_n 1, 1) := by decide +kernel
theorem d_X11_breaths_21 : decode (qMc M_X11_breaths) 21 = .ok (.iadd, 1) := by decide +kernel
theorem d_X11_breaths_22 : decode (qMc M_X11_breaths) 22 = .ok (.sipush 9999, 3) := by decide +kernel
theorem d_X11_breaths_25 : decode (qMc M_X11_breaths) 25 = .ok (.if_icmp .le 5, 3) := by decide +kernel
theorem d_X11_breaths_28 : decode (qMc M_X11_breaths) 28 = .ok (.iconst (-1), 1) := by decide +kernel
theorem d_X11_breaths_29 : decode (qMc M_X11_breaths) 29 = .ok (.ireturn, 1) := by decide +kernel
theorem d_X11_breaths_30 : decode (qMc M_X11_breaths) 30 = .ok (.iconst 0, 1) := by decide +kernel
theorem d_X11_breaths_31 : decode (qMc M_X11_breaths) 31 = .ok (.istore_n 2, 1) := by decide +kernel
theorem d_X11_breaths_32 : decode (qMc M_X11_breaths) 32 = .ok (.iload_n 2, 1) := by decide +kernel
theorem d_X11_breaths_33 : decode (qMc M_X11_breaths) 33 = .ok (.iload_n 1, 1) := by decide +kernel
theorem d_X11_breaths_34 : decode (qMc M_X11_breaths) 34 = .ok (.if_icmp .ge 27, 3) := by decide +kernel
theorem d_X11_breaths_37 : decode (qMc M_X11_breaths) 37 = .ok (.aload_n 0, 1) := by decide +kernel
theorem d_X11_breaths_38 : decode (qMc M_X11_breaths) 38 = .ok (.getfield 26, 3) := by decide +kernel
theorem d_X11_breaths_41 : decode (qMc M_X11_breaths) 41 = .ok (.aload_n 0, 1) := by decide +kernel
theorem d_X11_breaths_42 : decode (qMc M_X11_breaths) 42 = .ok (.getfield 12, 3) := by decide +kernel
theorem d_X11_breaths_45 : decode (qMc M_X11_breaths) 45 = .ok (.invokevirtual 87, 3) := by decide +kernel
theorem d_X11_breaths_48 : decode (qMc M_X11_breaths) 48 = .ok (.aload_n 0, 1) := by decide +kernel
theorem d_X11_breaths_49 : decode (qMc M_X11_breaths) 49 = .ok (.getfield 12, 3) := by decide +kernel
theorem d_X11_breaths_52 : decode (qMc M_X11_breaths) 52 = .ok (.invokevirtual 99, 3) := by decide +kernel
theorem d_X11_breaths_55 : decode (qMc M_X11_breaths) 55 = .ok (.iinc 2 1, 3) := by decide +kernel
theorem d_X11_breaths_58 : decode (qMc M_X11_breaths) 58 = .ok (.goto (-26), 3) := by decide +kernel
theorem d_X11_breaths_61 : decode (qMc M_X11_breaths) 61 = .ok (.aload_n 0, 1) := by decide +kernel
theorem d_X11_breaths_62 : decode (qMc M_X11_breaths) 62 = .ok (.getfield 12, 3) := by decide +kernel
theorem d_X11_breaths_65 : decode (qMc M_X11_breaths) 65 = .ok (.getfield 66, 3) := by decide +kernel
theorem d_X11_breaths_68 : decode (qMc M_X11_breaths) 68 = .ok (.invokevirtual 102, 3) := by decide +kernel
theorem d_X11_breaths_71 : decode (qMc M_X11_breaths) 71 = .ok (.ireturn, 1) := by decide +kernel
theorem d_X11_of_0 : decode (qMc M_X11_of) 0 = .ok (.aload_n 0, 1) := by decide +kernel
theorem d_X11_of_1 : decode (qMc M_X11_of) 1 = .ok (.getfield 12, 3) := by decide +kernel
theorem d_X11_of_4 : decode (qMc M_X11_of) 4 = .ok (.getfield 66, 3) := by decide +kernel
theorem d_X11_of_7 : decode (qMc M_X11_of) 7 = .ok (.astore_n 3, 1) := by decide +kernel
theorem d_X11_of_8 : decode (qMc M_X11_of) 8 = .ok (.aload_n 3, 1) := by decide +kernel
theorem d_X11_of_9 : decode (qMc M_X11_of) 9 = .ok (.iload_n 1, 1) := by decide +kernel
theorem d_X11_of_10 : decode (qMc M_X11_of) 10 = .ok (.invokevirtual 83, 3) := by decide +kernel
theorem d_X11_of_13 : decode (qMc M_X11_of) 13 = .ok (.ifCond .ne 5, 3) := by decide +kernel
theorem d_X11_of_16 : decode (qMc M_X11_of) 16 = .ok (.iconst (-1), 1) := by decide +kernel
theorem d_X11_of_17 : decode (qMc M_X11_of) 17 = .ok (.ireturn, 1) := by decide +kernel
theorem d_X11_of_18 : decode (qMc M_X11_of) 18 = .ok (.iload_n 2, 1) := by decide +kernel
theorem d_X11_of_19 : decode (qMc M_X11_of) 19 = .ok (.tableswitch 102 0 6 #[41, 48, 55, 69, 83, 90, 96], 41) := by decide +kernel
theorem d_X11_of_60 : decode (qMc M_X11_of) 60 = .ok (.aload_n 3, 1) := by decide +kernel
theorem d_X11_of_61 : decode (qMc M_X11_of) 61 = .ok (.getfield 106, 3) := by decide +kernel
theorem d_X11_of_64 : decode (qMc M_X11_of) 64 = .ok (.iload_n 1, 1) := by decide +kernel
theorem d_X11_of_65 : decode (qMc M_X11_of) 65 = .ok (.iaload, 1) := by decide +kernel
theorem d_X11_of_66 : decode (qMc M_X11_of) 66 = .ok (.ireturn, 1) := by decide +kernel
theorem d_X11_of_67 : decode (qMc M_X11_of) 67 = .ok (.aload_n 3, 1) := by decide +kernel
theorem d_X11_of_68 : decode (qMc M_X11_of) 68 = .ok (.getfield 109, 3) := by decide +kernel
theorem d_X11_of_71 : decode (qMc M_X11_of) 71 = .ok (.iload_n 1, 1) := by decide +kernel
theorem d_X11_of_72 : decode (qMc M_X11_of) 72 = .ok (.iaload, 1) := by decide +kernel
theorem d_X11_of_73 : decode (qMc M_X11_of) 73 = .ok (.ireturn, 1) := by decide +kernel
theorem d_X11_of_74 : decode (qMc M_X11_of) 74 = .ok (.aload_n 3, 1) := by decide +kernel
theorem d_X11_of_75 : decode (qMc M_X11_of) 75 = .ok (.iload_n 1, 1) := by decide +kernel
theorem d_X11_of_76 : decode (qMc M_X11_of) 76 = .ok (.invokevirtual 112, 3) := by decide +kernel
theorem d_X11_of_79 : decode (qMc M_X11_of) 79 = .ok (.ifCond .eq 7, 3) := by decide +kernel
theorem d_X11_of_82 : decode (qMc M_X11_of) 82 = .ok (.iconst 1, 1) := by decide +kernel
theorem d_X11_of_83 : decode (qMc M_X11_of) 83 = .ok (.goto 4, 3) := by decide +kernel
theorem d_X11_of_86 : decode (qMc M_X11_of) 86 = .ok (.iconst 0, 1) := by decide +kernel
theorem d_X11_of_87 : decode (qMc M_X11_of) 87 = .ok (.ireturn, 1) := by decide +kernel
theorem d_X11_of_88 : decode (qMc M_X11_of) 88 = .ok (.aload_n 3, 1) := by decide +kernel
theorem d_X11_of_89 : decode (qMc M_X11_of) 89 = .ok (.iload_n 1, 1) := by decide +kernel
theorem d_X11_of_90 : decode (qMc M_X11_of) 90 = .ok (.invokevirtual 115, 3) := by decide +kernel
theorem d_X11_of_93 : decode (qMc M_X11_of) 93 = .ok (.ifCond .eq 7, 3) := by decide +kernel
theorem d_X11_of_96 : decode (qMc M_X11_of) 96 = .ok (.iconst 1, 1) := by decide +kernel
theorem d_X11_of_97 : decode (qMc M_X11_of) 97 = .ok (.goto 4, 3) := by decide +kernel
theorem d_X11_of_100 : decode (qMc M_X11_of) 100 = .ok (.iconst 0, 1) := by decide +kernel
theorem d_X11_of_101 : decode (qMc M_X11_of) 101 = .ok (.ireturn, 1) := by decide +kernel
theorem d_X11_of_102 : decode (qMc M_X11_of) 102 = .ok (.aload_n 3, 1) := by decide +kernel
theorem d_X11_of_103 : decode (qMc M_X11_of) 103 = .ok (.getfield 118, 3) := by decide +kernel
theorem d_X11_of_106 : decode (qMc M_X11_of) 106 = .ok (.iload_n 1, 1) := by decide +kernel
theorem d_X11_of_107 : decode (qMc M_X11_of) 107 = .ok (.iaload, 1) := by decide +kernel
theorem d_X11_of_108 : decode (qMc M_X11_of) 108 = .ok (.ireturn, 1) := by decide +kernel
theorem d_X11_of_109 : decode (qMc M_X11_of) 109 = .ok (.aload_n 3, 1) := by decide +kernel
theorem d_X11_of_110 : decode (qMc M_X11_of) 110 = .ok (.iload_n 1, 1) := by decide +kernel
theorem d_X11_of_111 : decode (qMc M_X11_of) 111 = .ok (.invokevirtual 121, 3) := by decide +kernel
theorem d_X11_of_114 : decode (qMc M_X11_of) 114 = .ok (.ireturn, 1) := by decide +kernel
theorem d_X11_of_115 : decode (qMc M_X11_of) 115 = .ok (.aload_n 3, 1) := by decide +kernel
theorem d_X11_of_116 : decode (qMc M_X11_of) 116 = .ok (.iload_n 1, 1) := by decide +kernel
theorem d_X11_of_117 : decode (qMc M_X11_of) 117 = .ok (.invokevirtual 125, 3) := by decide +kernel
theorem d_X11_of_120 : decode (qMc M_X11_of) 120 = .ok (.ireturn, 1) := by decide +kernel
theorem d_X11_of_121 : decode (qMc M_X11_of) 121 = .ok (.iconst (-1), 1) := by decide +kernel
theorem d_X11_of_122 : decode (qMc M_X11_of) 122 = .ok (.ireturn, 1) := by decide +kernel
theorem d_X11_log_0 : decode (qMc M_X11_log) 0 = .ok (.aload_n 0, 1) := by decide +kernel
theorem d_X11_log_1 : decode (qMc M_X11_log) 1 = .ok (.getfield 12, 3) := by decide +kernel
theorem d_X11_log_4 : decode (qMc M_X11_log) 4 = .ok (.getfield 128, 3) := by decide +kernel
theorem d_X11_log_7 : decode (qMc M_X11_log) 7 = .ok (.iload_n 1, 1) := by decide +kernel
theorem d_X11_log_8 : decode (qMc M_X11_log) 8 = .ok (.iload_n 2, 1) := by decide +kernel
theorem d_X11_log_9 : decode (qMc M_X11_log) 9 = .ok (.invokevirtual 132, 3) := by decide +kernel
theorem d_X11_log_12 : decode (qMc M_X11_log) 12 = .ok (.ireturn, 1) := by decide +kernel
theorem d_X11_undo_0 : decode (qMc M_X11_undo) 0 = .ok (.aload_n 0, 1) := by decide +kernel
theorem d_X11_undo_1 : decode (qMc M_X11_undo) 1 = .ok (.getfield 26, 3) := by decide +kernel
theorem d_X11_undo_4 : decode (qMc M_X11_undo) 4 = .ok (.aload_n 0, 1) := by decide +kernel
theorem d_X11_undo_5 : decode (qMc M_X11_undo) 5 = .ok (.getfield 12, 3) := by decide +kernel
theorem d_X11_undo_8 : decode (qMc M_X11_undo) 8 = .ok (.invokevirtual 137, 3) := by decide +kernel
theorem d_X11_undo_11 : decode (qMc M_X11_undo) 11 = .ok (.ireturn, 1) := by decide +kernel
theorem d_X11_image_0 : decode (qMc M_X11_image) 0 = .ok (.iload_n 1, 1) := by decide +kernel
theorem d_X11_image_1 : decode (qMc M_X11_image) 1 = .ok (.ifCond .eq 21, 3) := by decide +kernel
theorem d_X11_image_4 : decode (qMc M_X11_image) 4 = .ok (.aload_n 0, 1) := by decide +kernel
theorem d_X11_image_5 : decode (qMc M_X11_image) 5 = .ok (.getfield 16, 3) := by decide +kernel
theorem d_X11_image_8 : decode (qMc M_X11_image) 8 = .ok (.aload_n 0, 1) := by decide +kernel
theorem d_X11_image_9 : decode (qMc M_X11_image) 9 = .ok (.getfield 12, 3) := by decide +kernel
theorem d_X11_image_12 : decode (qMc M_X11_image) 12 = .ok (.invokevirtual 141, 3) := by decide +kernel
theorem d_X11_image_15 : decode (qMc M_X11_image) 15 = .ok (.aload_n 0, 1) := by decide +kernel
theorem d_X11_image_16 : decode (qMc M_X11_image) 16 = .ok (.iconst 1, 1) := by decide +kernel
theorem d_X11_image_17 : decode (qMc M_X11_image) 17 = .ok (.putfield 19, 3) := by decide +kernel
theorem d_X11_image_20 : decode (qMc M_X11_image) 20 = .ok (.iconst 1, 1) := by decide +kernel
theorem d_X11_image_21 : decode (qMc M_X11_image) 21 = .ok (.ireturn, 1) := by decide +kernel
theorem d_X11_image_22 : decode (qMc M_X11_image) 22 = .ok (.aload_n 0, 1) := by decide +kernel
theorem d_X11_image_23 : decode (qMc M_X11_image) 23 = .ok (.getfield 19, 3) := by decide +kernel
theorem d_X11_image_26 : decode (qMc M_X11_image) 26 = .ok (.ifCond .ne 5, 3) := by decide +kernel
theorem d_X11_image_29 : decode (qMc M_X11_image) 29 = .ok (.iconst 0, 1) := by decide +kernel
theorem d_X11_image_30 : decode (qMc M_X11_image) 30 = .ok (.ireturn, 1) := by decide +kernel
theorem d_X11_image_31 : decode (qMc M_X11_image) 31 = .ok (.aload_n 0, 1) := by decide +kernel
theorem d_X11_image_32 : decode (qMc M_X11_image) 32 = .ok (.getfield 12, 3) := by decide +kernel
theorem d_X11_image_35 : decode (qMc M_X11_image) 35 = .ok (.aload_n 0, 1) := by decide +kernel
theorem d_X11_image_36 : decode (qMc M_X11_image) 36 = .ok (.getfield 16, 3) := by decide +kernel
theorem d_X11_image_39 : decode (qMc M_X11_image) 39 = .ok (.invokevirtual 141, 3) := by decide +kernel
theorem d_X11_image_42 : decode (qMc M_X11_image) 42 = .ok (.aload_n 0, 1) := by decide +kernel
theorem d_X11_image_43 : decode (qMc M_X11_image) 43 = .ok (.getfield 26, 3) := by decide +kernel
theorem d_X11_image_46 : decode (qMc M_X11_image) 46 = .ok (.invokevirtual 76, 3) := by decide +kernel
theorem d_X11_image_49 : decode (qMc M_X11_image) 49 = .ok (.iconst 1, 1) := by decide +kernel
theorem d_X11_image_50 : decode (qMc M_X11_image) 50 = .ok (.ireturn, 1) := by decide +kernel
theorem d_X11_look_0 : decode (qMc M_X11_look) 0 = .ok (.aload_n 0, 1) := by decide +kernel
theorem d_X11_look_1 : decode (qMc M_X11_look) 1 = .ok (.getfield 12, 3) := by decide +kernel
theorem d_X11_look_4 : decode (qMc M_X11_look) 4 = .ok (.getfield 66, 3) := by decide +kernel
theorem d_X11_look_7 : decode (qMc M_X11_look) 7 = .ok (.astore_n 2, 1) := by decide +kernel
theorem d_X11_look_8 : decode (qMc M_X11_look) 8 = .ok (.iload_n 1, 1) := by decide +kernel
theorem d_X11_look_9 : decode (qMc M_X11_look) 9 = .ok (.bipush 8, 2) := by decide +kernel
theorem d_X11_look_11 : decode (qMc M_X11_look) 11 = .ok (.bipush 11, 2) := by decide +kernel
theorem d_X11_look_13 : decode (qMc M_X11_look) 13 = .ok (.invokestatic 62, 3) := by decide +kernel
theorem d_X11_look_16 : decode (qMc M_X11_look) 16 = .ok (.ifCond .eq 22, 3) := by decide +kernel
theorem d_X11_look_19 : decode (qMc M_X11_look) 19 = .ok (.aload_n 0, 1) := by decide +kernel
theorem d_X11_look_20 : decode (qMc M_X11_look) 20 = .ok (.getfield 12, 3) := by decide +kernel
theorem d_X11_look_23 : decode (qMc M_X11_look) 23 = .ok (.getfield 144, 3) := by decide +kernel
theorem d_X11_look_26 : decode (qMc M_X11_look) 26 = .ok (.getfield 148, 3) := by decide +kernel
theorem d_X11_look_29 : decode (qMc M_X11_look) 29 = .ok (.iload_n 1, 1) := by decide +kernel
theorem d_X11_look_30 : decode (qMc M_X11_look) 30 = .ok (.bipush 8, 2) := by decide +kernel
theorem d_X11_look_32 : decode (qMc M_X11_look) 32 = .ok (.isub, 1) := by decide +kernel
theorem d_X11_look_33 : decode (qMc M_X11_look) 33 = .ok (.aaload, 1) := by decide +kernel
theorem d_X11_look_34 : decode (qMc M_X11_look) 34 = .ok (.getfield 154, 3) := by decide +kernel
theorem d_X11_look_37 : decode (qMc M_X11_look) 37 = .ok (.ireturn, 1) := by decide +kernel
theorem d_X11_look_38 : decode (qMc M_X11_look) 38 = .ok (.iload_n 1, 1) := by decide +kernel
theorem d_X11_look_39 : decode (qMc M_X11_look) 39 = .ok (.tableswitch 172 0 15 #[77, 82, 95, 100, 105, 110, 115, 120, 172, 172, 172, 172, 131, 142, 153, 164], 77) := by decide +kernel
theorem d_X11_look_116 : decode (qMc M_X11_look) 116 = .ok (.aload_n 2, 1) := by decide +kernel
theorem d_X11_look_117 : decode (qMc M_X11_look) 117 = .ok (.getfield 159, 3) := by decide +kernel
theorem d_X11_look_120 : decode (qMc M_X11_look) 120 = .ok (.ireturn, 1) := by decide +kernel
theorem d_X11_look_121 : decode (qMc M_X11_look) 121 = .ok (.aload_n 2, 1) := by decide +kernel
theorem d_X11_look_122 : decode (qMc M_X11_look) 122 = .ok (.getfield 162, 3) := by decide +kernel
theorem d_X11_look_125 : decode (qMc M_X11_look) 125 = .ok (.ifCond .eq 7, 3) := by decide +kernel
theorem d_X11_look_128 : decode (qMc M_X11_look) 128 = .ok (.iconst 1, 1) := by decide +kernel
theorem d_X11_look_129 : decode (qMc M_X11_look) 129 = .ok (.goto 4, 3) := by decide +kernel
theorem d_X11_look_132 : decode (qMc M_X11_look) 132 = .ok (.iconst 0, 1) := by decide +kernel
theorem d_X11_look_133 : decode (qMc M_X11_look) 133 = .ok (.ireturn, 1) := by decide +kernel
theorem d_X11_look_134 : decode (qMc M_X11_look) 134 = .ok (.aload_n 2, 1) := by decide +kernel
theorem d_X11_look_135 : decode (qMc M_X11_look) 135 = .ok (.getfield 95, 3) := by decide +kernel
theorem d_X11_look_138 : decode (qMc M_X11_look) 138 = .ok (.ireturn, 1) := by decide +kernel
theorem d_X11_look_139 : decode (qMc M_X11_look) 139 = .ok (.aload_n 2, 1) := by decide +kernel
theorem d_X11_look_140 : decode (qMc M_X11_look) 140 = .ok (.getfield 165, 3) := by decide +kernel
theorem d_X11_look_143 : decode (qMc M_X11_look) 143 = .ok (.ireturn, 1) := by decide +kernel
theorem d_X11_look_144 : decode (qMc M_X11_look) 144 = .ok (.aload_n 2, 1) := by decide +kernel
theorem d_X11_look_145 : decode (qMc M_X11_look) 145 = .ok (.getfield 168, 3) := by decide +kernel
theorem d_X11_look_148 : decode (qMc M_X11_look) 148 = .ok (.ireturn, 1) := by decide +kernel
theorem d_X11_look_149 : decode (qMc M_X11_look) 149 = .ok (.aload_n 2, 1) := by decide +kernel
theorem d_X11_look_150 : decode (qMc M_X11_look) 150 = .ok (.getfield 171, 3) := by decide +kernel
theorem d_X11_look_153 : decode (qMc M_X11_look) 153 = .ok (.ireturn, 1) := by decide +kernel
theorem d_X11_look_154 : decode (qMc M_X11_look) 154 = .ok (.aload_n 2, 1) := by decide +kernel
theorem d_X11_look_155 : decode (qMc M_X11_look) 155 = .ok (.invokevirtual 102, 3) := by decide +kernel
theorem d_X11_look_158 : decode (qMc M_X11_look) 158 = .ok (.ireturn, 1) := by decide +kernel
theorem d_X11_look_159 : decode (qMc M_X11_look) 159 = .ok (.aload_n 0, 1) := by decide +kernel
theorem d_X11_look_160 : decode (qMc M_X11_look) 160 = .ok (.getfield 12, 3) := by decide +kernel
theorem d_X11_look_163 : decode (qMc M_X11_look) 163 = .ok (.getfield 128, 3) := by decide +kernel
theorem d_X11_look_166 : decode (qMc M_X11_look) 166 = .ok (.getfield 174, 3) := by decide +kernel
theorem d_X11_look_169 : decode (qMc M_X11_look) 169 = .ok (.ireturn, 1) := by decide +kernel
theorem d_X11_look_170 : decode (qMc M_X11_look) 170 = .ok (.aload_n 0, 1) := by decide +kernel
theorem d_X11_look_171 : decode (qMc M_X11_look) 171 = .ok (.getfield 12, 3) := by decide +kernel
theorem d_X11_look_174 : decode (qMc M_X11_look) 174 = .ok (.getfield 175, 3) := by decide +kernel
theorem d_X11_look_177 : decode (qMc M_X11_look) 177 = .ok (.getfield 174, 3) := by decide +kernel
theorem d_X11_look_180 : decode (qMc M_X11_look) 180 = .ok (.ireturn, 1) := by decide +kernel
theorem d_X11_look_181 : decode (qMc M_X11_look) 181 = .ok (.aload_n 0, 1) := by decide +kernel
theorem d_X11_look_182 : decode (qMc M_X11_look) 182 = .ok (.getfield 12, 3) := by decide +kernel
theorem d_X11_look_185 : decode (qMc M_X11_look) 185 = .ok (.getfield 178, 3) := by decide +kernel
theorem d_X11_look_188 : decode (qMc M_X11_look) 188 = .ok (.getfield 174, 3) := by decide +kernel
theorem d_X11_look_191 : decode (qMc M_X11_look) 191 = .ok (.ireturn, 1) := by decide +kernel
theorem d_X11_look_192 : decode (qMc M_X11_look) 192 = .ok (.aload_n 0, 1) := by decide +kernel
theorem d_X11_look_193 : decode (qMc M_X11_look) 193 = .ok (.getfield 12, 3) := by decide +kernel
theorem d_X11_look_196 : decode (qMc M_X11_look) 196 = .ok (.getfield 181, 3) := by decide +kernel
theorem d_X11_look_199 : decode (qMc M_X11_look) 199 = .ok (.invokevirtual 184, 3) := by decide +kernel
theorem d_X11_look_202 : decode (qMc M_X11_look) 202 = .ok (.ireturn, 1) := by decide +kernel
theorem d_X11_look_203 : decode (qMc M_X11_look) 203 = .ok (.aload_n 0, 1) := by decide +kernel
theorem d_X11_look_204 : decode (qMc M_X11_look) 204 = .ok (.getfield 26, 3) := by decide +kernel
theorem d_X11_look_207 : decode (qMc M_X11_look) 207 = .ok (.getfield 187, 3) := by decide +kernel
theorem d_X11_look_210 : decode (qMc M_X11_look) 210 = .ok (.ireturn, 1) := by decide +kernel
theorem d_X11_look_211 : decode (qMc M_X11_look) 211 = .ok (.iconst (-1), 1) := by decide +kernel
theorem d_X11_look_212 : decode (qMc M_X11_look) 212 = .ok (.ireturn, 1) := by decide +kernel
theorem d_X11_feed_0 : decode (qMc M_X11_feed) 0 = .ok (.aload_n 0, 1) := by decide +kernel
theorem d_X11_feed_1 : decode (qMc M_X11_feed) 1 = .ok (.getfield 33, 3) := by decide +kernel
theorem d_X11_feed_4 : decode (qMc M_X11_feed) 4 = .ok (.iload_n 1, 1) := by decide +kernel
theorem d_X11_feed_5 : decode (qMc M_X11_feed) 5 = .ok (.iload_n 2, 1) := by decide +kernel
theorem d_X11_feed_6 : decode (qMc M_X11_feed) 6 = .ok (.iload_n 3, 1) := by decide +kernel
theorem d_X11_feed_7 : decode (qMc M_X11_feed) 7 = .ok (.iload 4, 2) := by decide +kernel
theorem d_X11_feed_9 : decode (qMc M_X11_feed) 9 = .ok (.iload 5, 2) := by decide +kernel
theorem d_X11_feed_11 : decode (qMc M_X11_feed) 11 = .ok (.invokevirtual 188, 3) := by decide +kernel
theorem d_X11_feed_14 : decode (qMc M_X11_feed) 14 = .ok (.ireturn, 1) := by decide +kernel
theorem d_X11_end_0 : decode (qMc M_X11_end) 0 = .ok (.aload_n 0, 1) := by decide +kernel
theorem d_X11_end_1 : decode (qMc M_X11_end) 1 = .ok (.getfield 33, 3) := by decide +kernel
theorem d_X11_end_4 : decode (qMc M_X11_end) 4 = .ok (.iload_n 1, 1) := by decide +kernel
theorem d_X11_end_5 : decode (qMc M_X11_end) 5 = .ok (.invokevirtual 192, 3) := by decide +kernel
theorem d_X11_end_8 : decode (qMc M_X11_end) 8 = .ok (.ireturn, 1) := by decide +kernel
theorem d_X11_text_0 : decode (qMc M_X11_text) 0 = .ok (.iconst (-1), 1) := by decide +kernel
theorem d_X11_text_1 : decode (qMc M_X11_text) 1 = .ok (.istore_n 2, 1) := by decide +kernel
theorem d_X11_text_2 : decode (qMc M_X11_text) 2 = .ok (.aload_n 0, 1) := by decide +kernel
theorem d_X11_text_3 : decode (qMc M_X11_text) 3 = .ok (.getfield 33, 3) := by decide +kernel
theorem d_X11_text_6 : decode (qMc M_X11_text) 6 = .ok (.invokevirtual 195, 3) := by decide +kernel
theorem d_X11_text_9 : decode (qMc M_X11_text) 9 = .ok (.iload_n 1, 1) := by decide +kernel
theorem d_X11_text_10 : decode (qMc M_X11_text) 10 = .ok (.iconst 0, 1) := by decide +kernel
theorem d_X11_text_11 : decode (qMc M_X11_text) 11 = .ok (.iconst 3, 1) := by decide +kernel
theorem d_X11_text_12 : decode (qMc M_X11_text) 12 = .ok (.invokestatic 62, 3) := by decide +kernel
theorem d_X11_text_15 : decode (qMc M_X11_text) 15 = .ok (.ifCond .eq 12, 3) := by decide +kernel
theorem d_X11_text_18 : decode (qMc M_X11_text) 18 = .ok (.aload_n 0, 1) := by decide +kernel
theorem d_X11_text_19 : decode (qMc M_X11_text) 19 = .ok (.iload_n 1, 1) := by decide +kernel
theorem d_X11_text_20 : decode (qMc M_X11_text) 20 = .ok (.invokevirtual 198, 3) := by decide +kernel
theorem d_X11_text_23 : decode (qMc M_X11_text) 23 = .ok (.istore_n 2, 1) := by decide +kernel
theorem d_X11_text_24 : decode (qMc M_X11_text) 24 = .ok (.goto 26, 3) := by decide +kernel
theorem d_X11_text_27 : decode (qMc M_X11_text) 27 = .ok (.iload_n 1, 1) := by decide +kernel
theorem d_X11_text_28 : decode (qMc M_X11_text) 28 = .ok (.iconst 4, 1) := by decide +kernel
theorem d_X11_text_29 : decode (qMc M_X11_text) 29 = .ok (.if_icmp .ne 11, 3) := by decide +kernel
theorem d_X11_text_32 : decode (qMc M_X11_text) 32 = .ok (.aload_n 0, 1) := by decide +kernel
theorem d_X11_text_33 : decode (qMc M_X11_text) 33 = .ok (.invokevirtual 201, 3) := by decide +kernel
theorem d_X11_text_36 : decode (qMc M_X11_text) 36 = .ok (.istore_n 2, 1) := by decide +kernel
theorem d_X11_text_37 : decode (qMc M_X11_text) 37 = .ok (.goto 13, 3) := by decide +kernel
theorem d_X11_text_40 : decode (qMc M_X11_text) 40 = .ok (.iload_n 1, 1) := by decide +kernel
theorem d_X11_text_41 : decode (qMc M_X11_text) 41 = .ok (.iconst 5, 1) := by decide +kernel
theorem d_X11_text_42 : decode (qMc M_X11_text) 42 = .ok (.if_icmp .ne 8, 3) := by decide +kernel
theorem d_X11_text_45 : decode (qMc M_X11_text) 45 = .ok (.aload_n 0, 1) := by decide +kernel
theorem d_X11_text_46 : decode (qMc M_X11_text) 46 = .ok (.invokevirtual 204, 3) := by decide +kernel
theorem d_X11_text_49 : decode (qMc M_X11_text) 49 = .ok (.istore_n 2, 1) := by decide +kernel
theorem d_X11_text_50 : decode (qMc M_X11_text) 50 = .ok (.aload_n 0, 1) := by decide +kernel
theorem d_X11_text_51 : decode (qMc M_X11_text) 51 = .ok (.getfield 33, 3) := by decide +kernel
theorem d_X11_text_54 : decode (qMc M_X11_text) 54 = .ok (.iconst 0, 1) := by decide +kernel
theorem d_X11_text_55 : decode (qMc M_X11_text) 55 = .ok (.invokevirtual 192, 3) := by decide +kernel
theorem d_X11_text_58 : decode (qMc M_X11_text) 58 = .ok (.pop, 1) := by decide +kernel
theorem d_X11_text_59 : decode (qMc M_X11_text) 59 = .ok (.iload_n 2, 1) := by decide +kernel
theorem d_X11_text_60 : decode (qMc M_X11_text) 60 = .ok (.ireturn, 1) := by decide +kernel
theorem d_X11_tellPage_0 : decode (qMc M_X11_tellPage) 0 = .ok (.aload_n 0, 1) := by decide +kernel
theorem d_X11_tellPage_1 : decode (qMc M_X11_tellPage) 1 = .ok (.getfield 33, 3) := by decide +kernel
theorem d_X11_tellPage_4 : decode (qMc M_X11_tellPage) 4 = .ok (.invokevirtual 207, 3) := by decide +kernel
theorem d_X11_tellPage_7 : decode (qMc M_X11_tellPage) 7 = .ok (.ifCond .ne 5, 3) := by decide +kernel
theorem d_X11_tellPage_10 : decode (qMc M_X11_tellPage) 10 = .ok (.iconst (-1), 1) := by decide +kernel
theorem d_X11_tellPage_11 : decode (qMc M_X11_tellPage) 11 = .ok (.ireturn, 1) := by decide +kernel
theorem d_X11_tellPage_12 : decode (qMc M_X11_tellPage) 12 = .ok (.aload_n 0, 1) := by decide +kernel
theorem d_X11_tellPage_13 : decode (qMc M_X11_tellPage) 13 = .ok (.getfield 12, 3) := by decide +kernel
theorem d_X11_tellPage_16 : decode (qMc M_X11_tellPage) 16 = .ok (.getfield 144, 3) := by decide +kernel
theorem d_X11_tellPage_19 : decode (qMc M_X11_tellPage) 19 = .ok (.getfield 148, 3) := by decide +kernel
theorem d_X11_tellPage_22 : decode (qMc M_X11_tellPage) 22 = .ok (.iload_n 1, 1) := by decide +kernel
theorem d_X11_tellPage_23 : decode (qMc M_X11_tellPage) 23 = .ok (.aaload, 1) := by decide +kernel
theorem d_X11_tellPage_24 : decode (qMc M_X11_tellPage) 24 = .ok (.aload_n 0, 1) := by decide +kernel
theorem d_X11_tellPage_25 : decode (qMc M_X11_tellPage) 25 = .ok (.getfield 33, 3) := by decide +kernel
theorem d_X11_tellPage_28 : decode (qMc M_X11_tellPage) 28 = .ok (.getfield 211, 3) := by decide +kernel
theorem d_X11_tellPage_31 : decode (qMc M_X11_tellPage) 31 = .ok (.invokevirtual 215, 3) := by decide +kernel
theorem d_X11_tellPage_34 : decode (qMc M_X11_tellPage) 34 = .ok (.aload_n 0, 1) := by decide +kernel
theorem d_X11_tellPage_35 : decode (qMc M_X11_tellPage) 35 = .ok (.getfield 12, 3) := by decide +kernel
theorem d_X11_tellPage_38 : decode (qMc M_X11_tellPage) 38 = .ok (.getfield 144, 3) := by decide +kernel
theorem d_X11_tellPage_41 : decode (qMc M_X11_tellPage) 41 = .ok (.invokevirtual 218, 3) := by decide +kernel
theorem d_X11_tellPage_44 : decode (qMc M_X11_tellPage) 44 = .ok (.aload_n 0, 1) := by decide +kernel
theorem d_X11_tellPage_45 : decode (qMc M_X11_tellPage) 45 = .ok (.getfield 26, 3) := by decide +kernel
theorem d_X11_tellPage_48 : decode (qMc M_X11_tellPage) 48 = .ok (.invokevirtual 76, 3) := by decide +kernel
theorem d_X11_tellPage_51 : decode (qMc M_X11_tellPage) 51 = .ok (.aload_n 0, 1) := by decide +kernel
theorem d_X11_tellPage_52 : decode (qMc M_X11_tellPage) 52 = .ok (.getfield 33, 3) := by decide +kernel
theorem d_X11_tellPage_55 : decode (qMc M_X11_tellPage) 55 = .ok (.getfield 211, 3) := by decide +kernel
theorem d_X11_tellPage_58 : decode (qMc M_X11_tellPage) 58 = .ok (.getfield 154, 3) := by decide +kernel
theorem d_X11_tellPage_61 : decode (qMc M_X11_tellPage) 61 = .ok (.ireturn, 1) := by decide +kernel
theorem d_X11_tellPlan_0 : decode (qMc M_X11_tellPlan) 0 = .ok (.aload_n 0, 1) := by decide +kernel
theorem d_X11_tellPlan_1 : decode (qMc M_X11_tellPlan) 1 = .ok (.getfield 33, 3) := by decide +kernel
theorem d_X11_tellPlan_4 : decode (qMc M_X11_tellPlan) 4 = .ok (.invokevirtual 221, 3) := by decide +kernel
theorem d_X11_tellPlan_7 : decode (qMc M_X11_tellPlan) 7 = .ok (.ifCond .ne 5, 3) := by decide +kernel
theorem d_X11_tellPlan_10 : decode (qMc M_X11_tellPlan) 10 = .ok (.iconst (-1), 1) := by decide +kernel
theorem d_X11_tellPlan_11 : decode (qMc M_X11_tellPlan) 11 = .ok (.ireturn, 1) := by decide +kernel
theorem d_X11_tellPlan_12 : decode (qMc M_X11_tellPlan) 12 = .ok (.aload_n 0, 1) := by decide +kernel
theorem d_X11_tellPlan_13 : decode (qMc M_X11_tellPlan) 13 = .ok (.getfield 12, 3) := by decide +kernel
theorem d_X11_tellPlan_16 : decode (qMc M_X11_tellPlan) 16 = .ok (.getfield 175, 3) := by decide +kernel
theorem d_X11_tellPlan_19 : decode (qMc M_X11_tellPlan) 19 = .ok (.aload_n 0, 1) := by decide +kernel
theorem d_X11_tellPlan_20 : decode (qMc M_X11_tellPlan) 20 = .ok (.getfield 33, 3) := by decide +kernel
theorem d_X11_tellPlan_23 : decode (qMc M_X11_tellPlan) 23 = .ok (.getfield 224, 3) := by decide +kernel
theorem d_X11_tellPlan_26 : decode (qMc M_X11_tellPlan) 26 = .ok (.invokevirtual 227, 3) := by decide +kernel
theorem d_X11_tellPlan_29 : decode (qMc M_X11_tellPlan) 29 = .ok (.aload_n 0, 1) := by decide +kernel
theorem d_X11_tellPlan_30 : decode (qMc M_X11_tellPlan) 30 = .ok (.getfield 26, 3) := by decide +kernel
theorem d_X11_tellPlan_33 : decode (qMc M_X11_tellPlan) 33 = .ok (.invokevirtual 76, 3) := by decide +kernel
theorem d_X11_tellPlan_36 : decode (qMc M_X11_tellPlan) 36 = .ok (.aload_n 0, 1) := by decide +kernel
theorem d_X11_tellPlan_37 : decode (qMc M_X11_tellPlan) 37 = .ok (.getfield 33, 3) := by decide +kernel
theorem d_X11_tellPlan_40 : decode (qMc M_X11_tellPlan) 40 = .ok (.getfield 224, 3) := by decide +kernel
theorem d_X11_tellPlan_43 : decode (qMc M_X11_tellPlan) 43 = .ok (.getfield 174, 3) := by decide +kernel
theorem d_X11_tellPlan_46 : decode (qMc M_X11_tellPlan) 46 = .ok (.ireturn, 1) := by decide +kernel
theorem d_X11_tellTree_0 : decode (qMc M_X11_tellTree) 0 = .ok (.aload_n 0, 1) := by decide +kernel
theorem d_X11_tellTree_1 : decode (qMc M_X11_tellTree) 1 = .ok (.getfield 33, 3) := by decide +kernel
theorem d_X11_tellTree_4 : decode (qMc M_X11_tellTree) 4 = .ok (.invokevirtual 230, 3) := by decide +kernel
theorem d_X11_tellTree_7 : decode (qMc M_X11_tellTree) 7 = .ok (.ifCond .ne 5, 3) := by decide +kernel
theorem d_X11_tellTree_10 : decode (qMc M_X11_tellTree) 10 = .ok (.iconst (-1), 1) := by decide +kernel
theorem d_X11_tellTree_11 : decode (qMc M_X11_tellTree) 11 = .ok (.ireturn, 1) := by decide +kernel
theorem d_X11_tellTree_12 : decode (qMc M_X11_tellTree) 12 = .ok (.aload_n 0, 1) := by decide +kernel
theorem d_X11_tellTree_13 : decode (qMc M_X11_tellTree) 13 = .ok (.getfield 12, 3) := by decide +kernel
theorem d_X11_tellTree_16 : decode (qMc M_X11_tellTree) 16 = .ok (.getfield 178, 3) := by decide +kernel
theorem d_X11_tellTree_19 : decode (qMc M_X11_tellTree) 19 = .ok (.aload_n 0, 1) := by decide +kernel
theorem d_X11_tellTree_20 : decode (qMc M_X11_tellTree) 20 = .ok (.getfield 33, 3) := by decide +kernel
theorem d_X11_tellTree_23 : decode (qMc M_X11_tellTree) 23 = .ok (.getfield 224, 3) := by decide +kernel
theorem d_X11_tellTree_26 : decode (qMc M_X11_tellTree) 26 = .ok (.invokevirtual 227, 3) := by decide +kernel
theorem d_X11_tellTree_29 : decode (qMc M_X11_tellTree) 29 = .ok (.aload_n 0, 1) := by decide +kernel
theorem d_X11_tellTree_30 : decode (qMc M_X11_tellTree) 30 = .ok (.getfield 33, 3) := by decide +kernel
theorem d_X11_tellTree_33 : decode (qMc M_X11_tellTree) 33 = .ok (.getfield 224, 3) := by decide +kernel
theorem d_X11_tellTree_36 : decode (qMc M_X11_tellTree) 36 = .ok (.getfield 174, 3) := by decide +kernel
theorem d_X11_tellTree_39 : decode (qMc M_X11_tellTree) 39 = .ok (.ireturn, 1) := by decide +kernel
theorem d_X11_fault_0 : decode (qMc M_X11_fault) 0 = .ok (.iload_n 1, 1) := by decide +kernel
theorem d_X11_fault_1 : decode (qMc M_X11_fault) 1 = .ok (.ifCond .ne 11, 3) := by decide +kernel
theorem d_X11_fault_4 : decode (qMc M_X11_fault) 4 = .ok (.aload_n 0, 1) := by decide +kernel
theorem d_X11_fault_5 : decode (qMc M_X11_fault) 5 = .ok (.getfield 33, 3) := by decide +kernel
theorem d_X11_fault_8 : decode (qMc M_X11_fault) 8 = .ok (.getfield 233, 3) := by decide +kernel
theorem d_X11_fault_11 : decode (qMc M_X11_fault) 11 = .ok (.ireturn, 1) := by decide +kernel
theorem d_X11_fault_12 : decode (qMc M_X11_fault) 12 = .ok (.iload_n 1, 1) := by decide +kernel
theorem d_X11_fault_13 : decode (qMc M_X11_fault) 13 = .ok (.iconst 1, 1) := by decide +kernel
theorem d_X11_fault_14 : decode (qMc M_X11_fault) 14 = .ok (.if_icmp .ne 13, 3) := by decide +kernel
theorem d_X11_fault_17 : decode (qMc M_X11_fault) 17 = .ok (.aload_n 0, 1) := by decide +kernel
theorem d_X11_fault_18 : decode (qMc M_X11_fault) 18 = .ok (.getfield 33, 3) := by decide +kernel
theorem d_X11_fault_21 : decode (qMc M_X11_fault) 21 = .ok (.getfield 236, 3) := by decide +kernel
theorem d_X11_fault_24 : decode (qMc M_X11_fault) 24 = .ok (.goto 4, 3) := by decide +kernel
theorem d_X11_fault_27 : decode (qMc M_X11_fault) 27 = .ok (.iconst (-1), 1) := by decide +kernel
theorem d_X11_fault_28 : decode (qMc M_X11_fault) 28 = .ok (.ireturn, 1) := by decide +kernel
theorem d_X11_says_0 : decode (qMc M_X11_says) 0 = .ok (.iload_n 1, 1) := by decide +kernel
theorem d_X11_says_1 : decode (qMc M_X11_says) 1 = .ok (.iconst 0, 1) := by decide +kernel
theorem d_X11_says_2 : decode (qMc M_X11_says) 2 = .ok (.bipush 7, 2) := by decide +kernel
theorem d_X11_says_4 : decode (qMc M_X11_says) 4 = .ok (.invokestatic 62, 3) := by decide +kernel
theorem d_X11_says_7 : decode (qMc M_X11_says) 7 = .ok (.ifCond .eq 23, 3) := by decide +kernel
theorem d_X11_says_10 : decode (qMc M_X11_says) 10 = .ok (.iload_n 2, 1) := by decide +kernel
theorem d_X11_says_11 : decode (qMc M_X11_says) 11 = .ok (.iconst 0, 1) := by decide +kernel
theorem d_X11_says_12 : decode (qMc M_X11_says) 12 = .ok (.bipush 8, 2) := by decide +kernel
theorem d_X11_says_14 : decode (qMc M_X11_says) 14 = .ok (.invokestatic 62, 3) := by decide +kernel
theorem d_X11_says_17 : decode (qMc M_X11_says) 17 = .ok (.ifCond .eq 13, 3) := by decide +kernel
theorem d_X11_says_20 : decode (qMc M_X11_says) 20 = .ok (.iload_n 3, 1) := by decide +kernel
theorem d_X11_says_21 : decode (qMc M_X11_says) 21 = .ok (.iconst 0, 1) := by decide +kernel
theorem d_X11_says_22 : decode (qMc M_X11_says) 22 = .ok (.bipush 8, 2) := by decide +kernel
theorem d_X11_says_24 : decode (qMc M_X11_says) 24 = .ok (.invokestatic 62, 3) := by decide +kernel
theorem d_X11_says_27 : decode (qMc M_X11_says) 27 = .ok (.ifCond .ne 5, 3) := by decide +kernel
theorem d_X11_says_30 : decode (qMc M_X11_says) 30 = .ok (.iconst (-1), 1) := by decide +kernel
theorem d_X11_says_31 : decode (qMc M_X11_says) 31 = .ok (.ireturn, 1) := by decide +kernel
theorem d_X11_says_32 : decode (qMc M_X11_says) 32 = .ok (.iload_n 1, 1) := by decide +kernel
theorem d_X11_says_33 : decode (qMc M_X11_says) 33 = .ok (.iload_n 2, 1) := by decide +kernel
theorem d_X11_says_34 : decode (qMc M_X11_says) 34 = .ok (.iload_n 3, 1) := by decide +kernel
theorem d_X11_says_35 : decode (qMc M_X11_says) 35 = .ok (.invokestatic 239, 3) := by decide +kernel
theorem d_X11_says_38 : decode (qMc M_X11_says) 38 = .ok (.istore 5, 2) := by decide +kernel
theorem d_X11_says_40 : decode (qMc M_X11_says) 40 = .ok (.iload 4, 2) := by decide +kernel
theorem d_X11_says_42 : decode (qMc M_X11_says) 42 = .ok (.ifCond .ne 17, 3) := by decide +kernel
theorem d_X11_says_45 : decode (qMc M_X11_says) 45 = .ok (.aload_n 0, 1) := by decide +kernel
theorem d_X11_says_46 : decode (qMc M_X11_says) 46 = .ok (.getfield 12, 3) := by decide +kernel
theorem d_X11_says_49 : decode (qMc M_X11_says) 49 = .ok (.getfield 144, 3) := by decide +kernel
theorem d_X11_says_52 : decode (qMc M_X11_says) 52 = .ok (.getfield 243, 3) := by decide +kernel
theorem d_X11_says_55 : decode (qMc M_X11_says) 55 = .ok (.iload 5, 2) := by decide +kernel
theorem d_X11_says_57 : decode (qMc M_X11_says) 57 = .ok (.iaload, 1) := by decide +kernel
theorem d_X11_says_58 : decode (qMc M_X11_says) 58 = .ok (.ireturn, 1) := by decide +kernel
theorem d_X11_says_59 : decode (qMc M_X11_says) 59 = .ok (.iload 4, 2) := by decide +kernel
theorem d_X11_says_61 : decode (qMc M_X11_says) 61 = .ok (.iconst 1, 1) := by decide +kernel
theorem d_X11_says_62 : decode (qMc M_X11_says) 62 = .ok (.if_icmp .ne 19, 3) := by decide +kernel
theorem d_X11_says_65 : decode (qMc M_X11_says) 65 = .ok (.aload_n 0, 1) := by decide +kernel
theorem d_X11_says_66 : decode (qMc M_X11_says) 66 = .ok (.getfield 12, 3) := by decide +kernel
theorem d_X11_says_69 : decode (qMc M_X11_says) 69 = .ok (.getfield 144, 3) := by decide +kernel
theorem d_X11_says_72 : decode (qMc M_X11_says) 72 = .ok (.getfield 246, 3) := by decide +kernel
theorem d_X11_says_75 : decode (qMc M_X11_says) 75 = .ok (.iload 5, 2) := by decide +kernel
theorem d_X11_says_77 : decode (qMc M_X11_says) 77 = .ok (.iaload, 1) := by decide +kernel
theorem d_X11_says_78 : decode (qMc M_X11_says) 78 = .ok (.goto 4, 3) := by decide +kernel
theorem d_X11_says_81 : decode (qMc M_X11_says) 81 = .ok (.iconst (-1), 1) := by decide +kernel
theorem d_X11_says_82 : decode (qMc M_X11_says) 82 = .ok (.ireturn, 1) := by decide +kernel
theorem d_X11_keeps_0 : decode (qMc M_X11_keeps) 0 = .ok (.aload_n 0, 1) := by decide +kernel
theorem d_X11_keeps_1 : decode (qMc M_X11_keeps) 1 = .ok (.getfield 12, 3) := by decide +kernel
theorem d_X11_keeps_4 : decode (qMc M_X11_keeps) 4 = .ok (.getfield 181, 3) := by decide +kernel
theorem d_X11_keeps_7 : decode (qMc M_X11_keeps) 7 = .ok (.aload_n 0, 1) := by decide +kernel
theorem d_X11_keeps_8 : decode (qMc M_X11_keeps) 8 = .ok (.getfield 12, 3) := by decide +kernel
theorem d_X11_keeps_11 : decode (qMc M_X11_keeps) 11 = .ok (.getfield 144, 3) := by decide +kernel
theorem d_X11_keeps_14 : decode (qMc M_X11_keeps) 14 = .ok (.invokevirtual 249, 3) := by decide +kernel
theorem d_X11_keeps_17 : decode (qMc M_X11_keeps) 17 = .ok (.aload_n 0, 1) := by decide +kernel
theorem d_X11_keeps_18 : decode (qMc M_X11_keeps) 18 = .ok (.getfield 12, 3) := by decide +kernel
theorem d_X11_keeps_21 : decode (qMc M_X11_keeps) 21 = .ok (.getfield 181, 3) := by decide +kernel
theorem d_X11_keeps_24 : decode (qMc M_X11_keeps) 24 = .ok (.invokevirtual 184, 3) := by decide +kernel
theorem d_X11_keeps_27 : decode (qMc M_X11_keeps) 27 = .ok (.ireturn, 1) := by decide +kernel
theorem d_X11_quiet_0 : decode (qMc M_X11_quiet) 0 = .ok (.iload_n 1, 1) := by decide +kernel
theorem d_X11_quiet_1 : decode (qMc M_X11_quiet) 1 = .ok (.iconst 0, 1) := by decide +kernel
theorem d_X11_quiet_2 : decode (qMc M_X11_quiet) 2 = .ok (.iconst 1, 1) := by decide +kernel
theorem d_X11_quiet_3 : decode (qMc M_X11_quiet) 3 = .ok (.invokestatic 62, 3) := by decide +kernel
theorem d_X11_quiet_6 : decode (qMc M_X11_quiet) 6 = .ok (.ifCond .ne 5, 3) := by decide +kernel
theorem d_X11_quiet_9 : decode (qMc M_X11_quiet) 9 = .ok (.iconst (-1), 1) := by decide +kernel
theorem d_X11_quiet_10 : decode (qMc M_X11_quiet) 10 = .ok (.ireturn, 1) := by decide +kernel
theorem d_X11_quiet_11 : decode (qMc M_X11_quiet) 11 = .ok (.iconst 0, 1) := by decide +kernel
theorem d_X11_quiet_12 : decode (qMc M_X11_quiet) 12 = .ok (.istore_n 2, 1) := by decide +kernel
theorem d_X11_quiet_13 : decode (qMc M_X11_quiet) 13 = .ok (.iconst 0, 1) := by decide +kernel
theorem d_X11_quiet_14 : decode (qMc M_X11_quiet) 14 = .ok (.istore_n 3, 1) := by decide +kernel
theorem d_X11_quiet_15 : decode (qMc M_X11_quiet) 15 = .ok (.iload_n 3, 1) := by decide +kernel
theorem d_X11_quiet_16 : decode (qMc M_X11_quiet) 16 = .ok (.bipush 8, 2) := by decide +kernel
theorem d_X11_quiet_18 : decode (qMc M_X11_quiet) 18 = .ok (.if_icmp .ge 50, 3) := by decide +kernel
theorem d_X11_quiet_21 : decode (qMc M_X11_quiet) 21 = .ok (.iload_n 1, 1) := by decide +kernel
theorem d_X11_quiet_22 : decode (qMc M_X11_quiet) 22 = .ok (.ifCond .ne 7, 3) := by decide +kernel
theorem d_X11_quiet_25 : decode (qMc M_X11_quiet) 25 = .ok (.iload_n 3, 1) := by decide +kernel
theorem d_X11_quiet_26 : decode (qMc M_X11_quiet) 26 = .ok (.goto 5, 3) := by decide +kernel
theorem d_X11_quiet_29 : decode (qMc M_X11_quiet) 29 = .ok (.bipush 8, 2) := by decide +kernel
theorem d_X11_quiet_31 : decode (qMc M_X11_quiet) 31 = .ok (.istore 4, 2) := by decide +kernel
theorem d_X11_quiet_33 : decode (qMc M_X11_quiet) 33 = .ok (.aload_n 0, 1) := by decide +kernel
theorem d_X11_quiet_34 : decode (qMc M_X11_quiet) 34 = .ok (.getfield 12, 3) := by decide +kernel
theorem d_X11_quiet_37 : decode (qMc M_X11_quiet) 37 = .ok (.getfield 144, 3) := by decide +kernel
theorem d_X11_quiet_40 : decode (qMc M_X11_quiet) 40 = .ok (.getfield 243, 3) := by decide +kernel
theorem d_X11_quiet_43 : decode (qMc M_X11_quiet) 43 = .ok (.iload_n 3, 1) := by decide +kernel
theorem d_X11_quiet_44 : decode (qMc M_X11_quiet) 44 = .ok (.iload 4, 2) := by decide +kernel
theorem d_X11_quiet_46 : decode (qMc M_X11_quiet) 46 = .ok (.iload 4, 2) := by decide +kernel
theorem d_X11_quiet_48 : decode (qMc M_X11_quiet) 48 = .ok (.invokestatic 239, 3) := by decide +kernel
theorem d_X11_quiet_51 : decode (qMc M_X11_quiet) 51 = .ok (.iaload, 1) := by decide +kernel
theorem d_X11_quiet_52 : decode (qMc M_X11_quiet) 52 = .ok (.iload_n 3, 1) := by decide +kernel
theorem d_X11_quiet_53 : decode (qMc M_X11_quiet) 53 = .ok (.if_icmp .ne 9, 3) := by decide +kernel
theorem d_X11_quiet_56 : decode (qMc M_X11_quiet) 56 = .ok (.iload_n 2, 1) := by decide +kernel
theorem d_X11_quiet_57 : decode (qMc M_X11_quiet) 57 = .ok (.iconst 1, 1) := by decide +kernel
theorem d_X11_quiet_58 : decode (qMc M_X11_quiet) 58 = .ok (.iload_n 3, 1) := by decide +kernel
theorem d_X11_quiet_59 : decode (qMc M_X11_quiet) 59 = .ok (.ishl, 1) := by decide +kernel
theorem d_X11_quiet_60 : decode (qMc M_X11_quiet) 60 = .ok (.ior, 1) := by decide +kernel
theorem d_X11_quiet_61 : decode (qMc M_X11_quiet) 61 = .ok (.istore_n 2, 1) := by decide +kernel
theorem d_X11_quiet_62 : decode (qMc M_X11_quiet) 62 = .ok (.iinc 3 1, 3) := by decide +kernel
theorem d_X11_quiet_65 : decode (qMc M_X11_quiet) 65 = .ok (.goto (-50), 3) := by decide +kernel
theorem d_X11_quiet_68 : decode (qMc M_X11_quiet) 68 = .ok (.iload_n 2, 1) := by decide +kernel
theorem d_X11_quiet_69 : decode (qMc M_X11_quiet) 69 = .ok (.ireturn, 1) := by decide +kernel
theorem d_X11_rules_0 : decode (qMc M_X11_rules) 0 = .ok (.aload_n 0, 1) := by decide +kernel
theorem d_X11_rules_1 : decode (qMc M_X11_rules) 1 = .ok (.getfield 12, 3) := by decide +kernel
theorem d_X11_rules_4 : decode (qMc M_X11_rules) 4 = .ok (.getfield 144, 3) := by decide +kernel
theorem d_X11_rules_7 : decode (qMc M_X11_rules) 7 = .ok (.astore_n 2, 1) := by decide +kernel
theorem d_X11_rules_8 : decode (qMc M_X11_rules) 8 = .ok (.iload_n 1, 1) := by decide +kernel
theorem d_X11_rules_9 : decode (qMc M_X11_rules) 9 = .ok (.tableswitch 95 0 4 #[35, 40, 61, 77, 90], 35) := by decide +kernel
theorem d_X11_rules_44 : decode (qMc M_X11_rules) 44 = .ok (.aload_n 2, 1) := by decide +kernel
theorem d_X11_rules_45 : decode (qMc M_X11_rules) 45 = .ok (.invokevirtual 252, 3) := by decide +kernel
theorem d_X11_rules_48 : decode (qMc M_X11_rules) 48 = .ok (.ireturn, 1) := by decide +kernel
theorem d_X11_rules_49 : decode (qMc M_X11_rules) 49 = .ok (.aload_n 0, 1) := by decide +kernel
theorem d_X11_rules_50 : decode (qMc M_X11_rules) 50 = .ok (.getfield 40, 3) := by decide +kernel
theorem d_X11_rules_53 : decode (qMc M_X11_rules) 53 = .ok (.invokevirtual 255, 3) := by decide +kernel
theorem d_X11_rules_56 : decode (qMc M_X11_rules) 56 = .ok (.aload_n 2, 1) := by decide +kernel
theorem d_X11_rules_57 : decode (qMc M_X11_rules) 57 = .ok (.invokevirtual 184, 3) := by decide +kernel
theorem d_X11_rules_60 : decode (qMc M_X11_rules) 60 = .ok (.aload_n 0, 1) := by decide +kernel
theorem d_X11_rules_61 : decode (qMc M_X11_rules) 61 = .ok (.getfield 40, 3) := by decide +kernel
theorem d_X11_rules_64 : decode (qMc M_X11_rules) 64 = .ok (.aload_n 2, 1) := by decide +kernel
theorem d_X11_rules_65 : decode (qMc M_X11_rules) 65 = .ok (.invokevirtual 258, 3) := by decide +kernel
theorem d_X11_rules_68 : decode (qMc M_X11_rules) 68 = .ok (.isub, 1) := by decide +kernel
theorem d_X11_rules_69 : decode (qMc M_X11_rules) 69 = .ok (.ireturn, 1) := by decide +kernel
theorem d_X11_rules_70 : decode (qMc M_X11_rules) 70 = .ok (.aload_n 0, 1) := by decide +kernel
theorem d_X11_rules_71 : decode (qMc M_X11_rules) 71 = .ok (.getfield 40, 3) := by decide +kernel
theorem d_X11_rules_74 : decode (qMc M_X11_rules) 74 = .ok (.invokevirtual 255, 3) := by decide +kernel
theorem d_X11_rules_77 : decode (qMc M_X11_rules) 77 = .ok (.aload_n 0, 1) := by decide +kernel
theorem d_X11_rules_78 : decode (qMc M_X11_rules) 78 = .ok (.getfield 40, 3) := by decide +kernel
theorem d_X11_rules_81 : decode (qMc M_X11_rules) 81 = .ok (.aload_n 2, 1) := by decide +kernel
theorem d_X11_rules_82 : decode (qMc M_X11_rules) 82 = .ok (.invokevirtual 262, 3) := by decide +kernel
theorem d_X11_rules_85 : decode (qMc M_X11_rules) 85 = .ok (.ireturn, 1) := by decide +kernel
theorem d_X11_rules_86 : decode (qMc M_X11_rules) 86 = .ok (.aload_n 2, 1) := by decide +kernel
theorem d_X11_rules_87 : decode (qMc M_X11_rules) 87 = .ok (.invokevirtual 265, 3) := by decide +kernel
theorem d_X11_rules_90 : decode (qMc M_X11_rules) 90 = .ok (.ifCond .ne 7, 3) := by decide +kernel
theorem d_X11_rules_93 : decode (qMc M_X11_rules) 93 = .ok (.iconst 1, 1) := by decide +kernel
theorem d_X11_rules_94 : decode (qMc M_X11_rules) 94 = .ok (.goto 4, 3) := by decide +kernel
theorem d_X11_rules_97 : decode (qMc M_X11_rules) 97 = .ok (.iconst 0, 1) := by decide +kernel
theorem d_X11_rules_98 : decode (qMc M_X11_rules) 98 = .ok (.ireturn, 1) := by decide +kernel
theorem d_X11_rules_99 : decode (qMc M_X11_rules) 99 = .ok (.aload_n 2, 1) := by decide +kernel
theorem d_X11_rules_100 : decode (qMc M_X11_rules) 100 = .ok (.invokevirtual 265, 3) := by decide +kernel
theorem d_X11_rules_103 : decode (qMc M_X11_rules) 103 = .ok (.ireturn, 1) := by decide +kernel
theorem d_X11_rules_104 : decode (qMc M_X11_rules) 104 = .ok (.iconst (-1), 1) := by decide +kernel
theorem d_X11_rules_105 : decode (qMc M_X11_rules) 105 = .ok (.ireturn, 1) := by decide +kernel
