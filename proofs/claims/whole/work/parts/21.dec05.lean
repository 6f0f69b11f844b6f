theorem d_X12_isRule_0 : decode (qMc M_X12_isRule) 0 = .ok (.iload_n 1, 1) := by decide +kernel
theorem d_X12_isRule_1 : decode (qMc M_X12_isRule) 1 = .ok (.iconst 0, 1) := by decide +kernel
theorem d_X12_isRule_2 : decode (qMc M_X12_isRule) 2 = .ok (.bipush 95, 2) := by decide +kernel
theorem d_X12_isRule_4 : decode (qMc M_X12_isRule) 4 = .ok (.invokestatic 137, 3) := by decide +kernel
theorem d_X12_isRule_7 : decode (qMc M_X12_isRule) 7 = .ok (.ifCond .eq 23, 3) := by decide +kernel
theorem d_X12_isRule_10 : decode (qMc M_X12_isRule) 10 = .ok (.iload_n 1, 1) := by decide +kernel
theorem d_X12_isRule_11 : decode (qMc M_X12_isRule) 11 = .ok (.bipush 24, 2) := by decide +kernel
theorem d_X12_isRule_13 : decode (qMc M_X12_isRule) 13 = .ok (.irem, 1) := by decide +kernel
theorem d_X12_isRule_14 : decode (qMc M_X12_isRule) 14 = .ok (.aload_n 0, 1) := by decide +kernel
theorem d_X12_isRule_15 : decode (qMc M_X12_isRule) 15 = .ok (.getfield 26, 3) := by decide +kernel
theorem d_X12_isRule_18 : decode (qMc M_X12_isRule) 18 = .ok (.iload_n 1, 1) := by decide +kernel
theorem d_X12_isRule_19 : decode (qMc M_X12_isRule) 19 = .ok (.bipush 24, 2) := by decide +kernel
theorem d_X12_isRule_21 : decode (qMc M_X12_isRule) 21 = .ok (.idiv, 1) := by decide +kernel
theorem d_X12_isRule_22 : decode (qMc M_X12_isRule) 22 = .ok (.iaload, 1) := by decide +kernel
theorem d_X12_isRule_23 : decode (qMc M_X12_isRule) 23 = .ok (.if_icmp .ge 7, 3) := by decide +kernel
theorem d_X12_isRule_26 : decode (qMc M_X12_isRule) 26 = .ok (.iconst 1, 1) := by decide +kernel
theorem d_X12_isRule_27 : decode (qMc M_X12_isRule) 27 = .ok (.goto 4, 3) := by decide +kernel
theorem d_X12_isRule_30 : decode (qMc M_X12_isRule) 30 = .ok (.iconst 0, 1) := by decide +kernel
theorem d_X12_isRule_31 : decode (qMc M_X12_isRule) 31 = .ok (.ireturn, 1) := by decide +kernel
theorem d_X12_says_0 : decode (qMc M_X12_says) 0 = .ok (.aload_n 0, 1) := by decide +kernel
theorem d_X12_says_1 : decode (qMc M_X12_says) 1 = .ok (.iconst 0, 1) := by decide +kernel
theorem d_X12_says_2 : decode (qMc M_X12_says) 2 = .ok (.putfield 127, 3) := by decide +kernel
theorem d_X12_says_5 : decode (qMc M_X12_says) 5 = .ok (.iload_n 1, 1) := by decide +kernel
theorem d_X12_says_6 : decode (qMc M_X12_says) 6 = .ok (.iconst 0, 1) := by decide +kernel
theorem d_X12_says_7 : decode (qMc M_X12_says) 7 = .ok (.bipush 7, 2) := by decide +kernel
theorem d_X12_says_9 : decode (qMc M_X12_says) 9 = .ok (.invokestatic 137, 3) := by decide +kernel
theorem d_X12_says_12 : decode (qMc M_X12_says) 12 = .ok (.ifCond .eq 33, 3) := by decide +kernel
theorem d_X12_says_15 : decode (qMc M_X12_says) 15 = .ok (.iload_n 2, 1) := by decide +kernel
theorem d_X12_says_16 : decode (qMc M_X12_says) 16 = .ok (.iconst 0, 1) := by decide +kernel
theorem d_X12_says_17 : decode (qMc M_X12_says) 17 = .ok (.bipush 8, 2) := by decide +kernel
theorem d_X12_says_19 : decode (qMc M_X12_says) 19 = .ok (.invokestatic 137, 3) := by decide +kernel
theorem d_X12_says_22 : decode (qMc M_X12_says) 22 = .ok (.ifCond .eq 23, 3) := by decide +kernel
theorem d_X12_says_25 : decode (qMc M_X12_says) 25 = .ok (.iload_n 3, 1) := by decide +kernel
theorem d_X12_says_26 : decode (qMc M_X12_says) 26 = .ok (.iconst 0, 1) := by decide +kernel
theorem d_X12_says_27 : decode (qMc M_X12_says) 27 = .ok (.bipush 8, 2) := by decide +kernel
theorem d_X12_says_29 : decode (qMc M_X12_says) 29 = .ok (.invokestatic 137, 3) := by decide +kernel
theorem d_X12_says_32 : decode (qMc M_X12_says) 32 = .ok (.ifCond .eq 13, 3) := by decide +kernel
theorem d_X12_says_35 : decode (qMc M_X12_says) 35 = .ok (.iload 4, 2) := by decide +kernel
theorem d_X12_says_37 : decode (qMc M_X12_says) 37 = .ok (.iconst 0, 1) := by decide +kernel
theorem d_X12_says_38 : decode (qMc M_X12_says) 38 = .ok (.iconst 1, 1) := by decide +kernel
theorem d_X12_says_39 : decode (qMc M_X12_says) 39 = .ok (.invokestatic 137, 3) := by decide +kernel
theorem d_X12_says_42 : decode (qMc M_X12_says) 42 = .ok (.ifCond .ne 5, 3) := by decide +kernel
theorem d_X12_says_45 : decode (qMc M_X12_says) 45 = .ok (.iconst (-1), 1) := by decide +kernel
theorem d_X12_says_46 : decode (qMc M_X12_says) 46 = .ok (.ireturn, 1) := by decide +kernel
theorem d_X12_says_47 : decode (qMc M_X12_says) 47 = .ok (.aload_n 0, 1) := by decide +kernel
theorem d_X12_says_48 : decode (qMc M_X12_says) 48 = .ok (.invokevirtual 275, 3) := by decide +kernel
theorem d_X12_says_51 : decode (qMc M_X12_says) 51 = .ok (.iload 4, 2) := by decide +kernel
theorem d_X12_says_53 : decode (qMc M_X12_says) 53 = .ok (.ifCond .ne 17, 3) := by decide +kernel
theorem d_X12_says_56 : decode (qMc M_X12_says) 56 = .ok (.aload_n 0, 1) := by decide +kernel
theorem d_X12_says_57 : decode (qMc M_X12_says) 57 = .ok (.getfield 86, 3) := by decide +kernel
theorem d_X12_says_60 : decode (qMc M_X12_says) 60 = .ok (.iload_n 1, 1) := by decide +kernel
theorem d_X12_says_61 : decode (qMc M_X12_says) 61 = .ok (.iload_n 2, 1) := by decide +kernel
theorem d_X12_says_62 : decode (qMc M_X12_says) 62 = .ok (.iload_n 3, 1) := by decide +kernel
theorem d_X12_says_63 : decode (qMc M_X12_says) 63 = .ok (.invokestatic 263, 3) := by decide +kernel
theorem d_X12_says_66 : decode (qMc M_X12_says) 66 = .ok (.iaload, 1) := by decide +kernel
theorem d_X12_says_67 : decode (qMc M_X12_says) 67 = .ok (.goto 14, 3) := by decide +kernel
theorem d_X12_says_70 : decode (qMc M_X12_says) 70 = .ok (.aload_n 0, 1) := by decide +kernel
theorem d_X12_says_71 : decode (qMc M_X12_says) 71 = .ok (.getfield 89, 3) := by decide +kernel
theorem d_X12_says_74 : decode (qMc M_X12_says) 74 = .ok (.iload_n 1, 1) := by decide +kernel
theorem d_X12_says_75 : decode (qMc M_X12_says) 75 = .ok (.iload_n 2, 1) := by decide +kernel
theorem d_X12_says_76 : decode (qMc M_X12_says) 76 = .ok (.iload_n 3, 1) := by decide +kernel
theorem d_X12_says_77 : decode (qMc M_X12_says) 77 = .ok (.invokestatic 263, 3) := by decide +kernel
theorem d_X12_says_80 : decode (qMc M_X12_says) 80 = .ok (.iaload, 1) := by decide +kernel
theorem d_X12_says_81 : decode (qMc M_X12_says) 81 = .ok (.ireturn, 1) := by decide +kernel
theorem d_X12_sumOf_0 : decode (qMc M_X12_sumOf) 0 = .ok (.iconst 0, 1) := by decide +kernel
theorem d_X12_sumOf_1 : decode (qMc M_X12_sumOf) 1 = .ok (.istore_n 1, 1) := by decide +kernel
theorem d_X12_sumOf_2 : decode (qMc M_X12_sumOf) 2 = .ok (.iconst 0, 1) := by decide +kernel
theorem d_X12_sumOf_3 : decode (qMc M_X12_sumOf) 3 = .ok (.istore_n 2, 1) := by decide +kernel
theorem d_X12_sumOf_4 : decode (qMc M_X12_sumOf) 4 = .ok (.iload_n 2, 1) := by decide +kernel
theorem d_X12_sumOf_5 : decode (qMc M_X12_sumOf) 5 = .ok (.iconst 4, 1) := by decide +kernel
theorem d_X12_sumOf_6 : decode (qMc M_X12_sumOf) 6 = .ok (.if_icmp .ge 15, 3) := by decide +kernel
theorem d_X12_sumOf_9 : decode (qMc M_X12_sumOf) 9 = .ok (.iload_n 1, 1) := by decide +kernel
theorem d_X12_sumOf_10 : decode (qMc M_X12_sumOf) 10 = .ok (.aload_n 0, 1) := by decide +kernel
theorem d_X12_sumOf_11 : decode (qMc M_X12_sumOf) 11 = .ok (.iload_n 2, 1) := by decide +kernel
theorem d_X12_sumOf_12 : decode (qMc M_X12_sumOf) 12 = .ok (.iaload, 1) := by decide +kernel
theorem d_X12_sumOf_13 : decode (qMc M_X12_sumOf) 13 = .ok (.iadd, 1) := by decide +kernel
theorem d_X12_sumOf_14 : decode (qMc M_X12_sumOf) 14 = .ok (.istore_n 1, 1) := by decide +kernel
theorem d_X12_sumOf_15 : decode (qMc M_X12_sumOf) 15 = .ok (.iinc 2 1, 3) := by decide +kernel
theorem d_X12_sumOf_18 : decode (qMc M_X12_sumOf) 18 = .ok (.goto (-14), 3) := by decide +kernel
theorem d_X12_sumOf_21 : decode (qMc M_X12_sumOf) 21 = .ok (.iload_n 1, 1) := by decide +kernel
theorem d_X12_sumOf_22 : decode (qMc M_X12_sumOf) 22 = .ok (.ireturn, 1) := by decide +kernel
theorem d_X12_keeps_0 : decode (qMc M_X12_keeps) 0 = .ok (.aload_n 0, 1) := by decide +kernel
theorem d_X12_keeps_1 : decode (qMc M_X12_keeps) 1 = .ok (.iconst 0, 1) := by decide +kernel
theorem d_X12_keeps_2 : decode (qMc M_X12_keeps) 2 = .ok (.putfield 127, 3) := by decide +kernel
theorem d_X12_keeps_5 : decode (qMc M_X12_keeps) 5 = .ok (.aload_n 0, 1) := by decide +kernel
theorem d_X12_keeps_6 : decode (qMc M_X12_keeps) 6 = .ok (.getfield 17, 3) := by decide +kernel
theorem d_X12_keeps_9 : decode (qMc M_X12_keeps) 9 = .ok (.aload_n 0, 1) := by decide +kernel
theorem d_X12_keeps_10 : decode (qMc M_X12_keeps) 10 = .ok (.getfield 20, 3) := by decide +kernel
theorem d_X12_keeps_13 : decode (qMc M_X12_keeps) 13 = .ok (.invokestatic 249, 3) := by decide +kernel
theorem d_X12_keeps_16 : decode (qMc M_X12_keeps) 16 = .ok (.aload_n 0, 1) := by decide +kernel
theorem d_X12_keeps_17 : decode (qMc M_X12_keeps) 17 = .ok (.getfield 26, 3) := by decide +kernel
theorem d_X12_keeps_20 : decode (qMc M_X12_keeps) 20 = .ok (.aload_n 0, 1) := by decide +kernel
theorem d_X12_keeps_21 : decode (qMc M_X12_keeps) 21 = .ok (.getfield 29, 3) := by decide +kernel
theorem d_X12_keeps_24 : decode (qMc M_X12_keeps) 24 = .ok (.invokestatic 249, 3) := by decide +kernel
theorem d_X12_keeps_27 : decode (qMc M_X12_keeps) 27 = .ok (.aload_n 0, 1) := by decide +kernel
theorem d_X12_keeps_28 : decode (qMc M_X12_keeps) 28 = .ok (.getfield 29, 3) := by decide +kernel
theorem d_X12_keeps_31 : decode (qMc M_X12_keeps) 31 = .ok (.invokestatic 278, 3) := by decide +kernel
theorem d_X12_keeps_34 : decode (qMc M_X12_keeps) 34 = .ok (.ireturn, 1) := by decide +kernel
theorem d_X12_wall_0 : decode (qMc M_X12_wall) 0 = .ok (.aload_n 0, 1) := by decide +kernel
theorem d_X12_wall_1 : decode (qMc M_X12_wall) 1 = .ok (.iconst 0, 1) := by decide +kernel
theorem d_X12_wall_2 : decode (qMc M_X12_wall) 2 = .ok (.putfield 127, 3) := by decide +kernel
theorem d_X12_wall_5 : decode (qMc M_X12_wall) 5 = .ok (.iload_n 1, 1) := by decide +kernel
theorem d_X12_wall_6 : decode (qMc M_X12_wall) 6 = .ok (.iconst 0, 1) := by decide +kernel
theorem d_X12_wall_7 : decode (qMc M_X12_wall) 7 = .ok (.bipush 32, 2) := by decide +kernel
theorem d_X12_wall_9 : decode (qMc M_X12_wall) 9 = .ok (.invokestatic 137, 3) := by decide +kernel
theorem d_X12_wall_12 : decode (qMc M_X12_wall) 12 = .ok (.ifCond .ne 5, 3) := by decide +kernel
theorem d_X12_wall_15 : decode (qMc M_X12_wall) 15 = .ok (.iconst 0, 1) := by decide +kernel
theorem d_X12_wall_16 : decode (qMc M_X12_wall) 16 = .ok (.ireturn, 1) := by decide +kernel
theorem d_X12_wall_17 : decode (qMc M_X12_wall) 17 = .ok (.aload_n 0, 1) := by decide +kernel
theorem d_X12_wall_18 : decode (qMc M_X12_wall) 18 = .ok (.getfield 44, 3) := by decide +kernel
theorem d_X12_wall_21 : decode (qMc M_X12_wall) 21 = .ok (.sipush 166, 3) := by decide +kernel
theorem d_X12_wall_24 : decode (qMc M_X12_wall) 24 = .ok (.iaload, 1) := by decide +kernel
theorem d_X12_wall_25 : decode (qMc M_X12_wall) 25 = .ok (.istore_n 3, 1) := by decide +kernel
theorem d_X12_wall_26 : decode (qMc M_X12_wall) 26 = .ok (.iconst 0, 1) := by decide +kernel
theorem d_X12_wall_27 : decode (qMc M_X12_wall) 27 = .ok (.istore 4, 2) := by decide +kernel
theorem d_X12_wall_29 : decode (qMc M_X12_wall) 29 = .ok (.iload 4, 2) := by decide +kernel
theorem d_X12_wall_31 : decode (qMc M_X12_wall) 31 = .ok (.sipush 167, 3) := by decide +kernel
theorem d_X12_wall_34 : decode (qMc M_X12_wall) 34 = .ok (.if_icmp .ge 17, 3) := by decide +kernel
theorem d_X12_wall_37 : decode (qMc M_X12_wall) 37 = .ok (.aload_n 0, 1) := by decide +kernel
theorem d_X12_wall_38 : decode (qMc M_X12_wall) 38 = .ok (.getfield 44, 3) := by decide +kernel
theorem d_X12_wall_41 : decode (qMc M_X12_wall) 41 = .ok (.iload 4, 2) := by decide +kernel
theorem d_X12_wall_43 : decode (qMc M_X12_wall) 43 = .ok (.iconst 0, 1) := by decide +kernel
theorem d_X12_wall_44 : decode (qMc M_X12_wall) 44 = .ok (.iastore, 1) := by decide +kernel
theorem d_X12_wall_45 : decode (qMc M_X12_wall) 45 = .ok (.iinc 4 1, 3) := by decide +kernel
theorem d_X12_wall_48 : decode (qMc M_X12_wall) 48 = .ok (.goto (-19), 3) := by decide +kernel
theorem d_X12_wall_51 : decode (qMc M_X12_wall) 51 = .ok (.aload_n 0, 1) := by decide +kernel
theorem d_X12_wall_52 : decode (qMc M_X12_wall) 52 = .ok (.getfield 44, 3) := by decide +kernel
theorem d_X12_wall_55 : decode (qMc M_X12_wall) 55 = .ok (.sipush 160, 3) := by decide +kernel
theorem d_X12_wall_58 : decode (qMc M_X12_wall) 58 = .ok (.iload_n 1, 1) := by decide +kernel
theorem d_X12_wall_59 : decode (qMc M_X12_wall) 59 = .ok (.iastore, 1) := by decide +kernel
theorem d_X12_wall_60 : decode (qMc M_X12_wall) 60 = .ok (.aload_n 0, 1) := by decide +kernel
theorem d_X12_wall_61 : decode (qMc M_X12_wall) 61 = .ok (.getfield 44, 3) := by decide +kernel
theorem d_X12_wall_64 : decode (qMc M_X12_wall) 64 = .ok (.sipush 161, 3) := by decide +kernel
theorem d_X12_wall_67 : decode (qMc M_X12_wall) 67 = .ok (.iload_n 2, 1) := by decide +kernel
theorem d_X12_wall_68 : decode (qMc M_X12_wall) 68 = .ok (.ifCond .eq 7, 3) := by decide +kernel
theorem d_X12_wall_71 : decode (qMc M_X12_wall) 71 = .ok (.iconst 1, 1) := by decide +kernel
theorem d_X12_wall_72 : decode (qMc M_X12_wall) 72 = .ok (.goto 4, 3) := by decide +kernel
theorem d_X12_wall_75 : decode (qMc M_X12_wall) 75 = .ok (.iconst 0, 1) := by decide +kernel
theorem d_X12_wall_76 : decode (qMc M_X12_wall) 76 = .ok (.iastore, 1) := by decide +kernel
theorem d_X12_wall_77 : decode (qMc M_X12_wall) 77 = .ok (.aload_n 0, 1) := by decide +kernel
theorem d_X12_wall_78 : decode (qMc M_X12_wall) 78 = .ok (.getfield 44, 3) := by decide +kernel
theorem d_X12_wall_81 : decode (qMc M_X12_wall) 81 = .ok (.sipush 164, 3) := by decide +kernel
theorem d_X12_wall_84 : decode (qMc M_X12_wall) 84 = .ok (.iconst (-1), 1) := by decide +kernel
theorem d_X12_wall_85 : decode (qMc M_X12_wall) 85 = .ok (.iastore, 1) := by decide +kernel
theorem d_X12_wall_86 : decode (qMc M_X12_wall) 86 = .ok (.aload_n 0, 1) := by decide +kernel
theorem d_X12_wall_87 : decode (qMc M_X12_wall) 87 = .ok (.getfield 44, 3) := by decide +kernel
theorem d_X12_wall_90 : decode (qMc M_X12_wall) 90 = .ok (.sipush 166, 3) := by decide +kernel
theorem d_X12_wall_93 : decode (qMc M_X12_wall) 93 = .ok (.iload_n 3, 1) := by decide +kernel
theorem d_X12_wall_94 : decode (qMc M_X12_wall) 94 = .ok (.iastore, 1) := by decide +kernel
theorem d_X12_wall_95 : decode (qMc M_X12_wall) 95 = .ok (.aload_n 0, 1) := by decide +kernel
theorem d_X12_wall_96 : decode (qMc M_X12_wall) 96 = .ok (.iconst 0, 1) := by decide +kernel
theorem d_X12_wall_97 : decode (qMc M_X12_wall) 97 = .ok (.putfield 256, 3) := by decide +kernel
theorem d_X12_wall_100 : decode (qMc M_X12_wall) 100 = .ok (.iconst 1, 1) := by decide +kernel
theorem d_X12_wall_101 : decode (qMc M_X12_wall) 101 = .ok (.ireturn, 1) := by decide +kernel
theorem d_X12_logs_0 : decode (qMc M_X12_logs) 0 = .ok (.aload_n 0, 1) := by decide +kernel
theorem d_X12_logs_1 : decode (qMc M_X12_logs) 1 = .ok (.getfield 44, 3) := by decide +kernel
theorem d_X12_logs_4 : decode (qMc M_X12_logs) 4 = .ok (.sipush 166, 3) := by decide +kernel
theorem d_X12_logs_7 : decode (qMc M_X12_logs) 7 = .ok (.iaload, 1) := by decide +kernel
theorem d_X12_logs_8 : decode (qMc M_X12_logs) 8 = .ok (.sipush 150, 3) := by decide +kernel
theorem d_X12_logs_11 : decode (qMc M_X12_logs) 11 = .ok (.if_icmp .ne 4, 3) := by decide +kernel
theorem d_X12_logs_14 : decode (qMc M_X12_logs) 14 = .ok (.return_, 1) := by decide +kernel
theorem d_X12_logs_15 : decode (qMc M_X12_logs) 15 = .ok (.iconst 4, 1) := by decide +kernel
theorem d_X12_logs_16 : decode (qMc M_X12_logs) 16 = .ok (.aload_n 0, 1) := by decide +kernel
theorem d_X12_logs_17 : decode (qMc M_X12_logs) 17 = .ok (.getfield 44, 3) := by decide +kernel
theorem d_X12_logs_20 : decode (qMc M_X12_logs) 20 = .ok (.sipush 166, 3) := by decide +kernel
theorem d_X12_logs_23 : decode (qMc M_X12_logs) 23 = .ok (.iaload, 1) := by decide +kernel
theorem d_X12_logs_24 : decode (qMc M_X12_logs) 24 = .ok (.imul, 1) := by decide +kernel
theorem d_X12_logs_25 : decode (qMc M_X12_logs) 25 = .ok (.istore 4, 2) := by decide +kernel
theorem d_X12_logs_27 : decode (qMc M_X12_logs) 27 = .ok (.aload_n 0, 1) := by decide +kernel
theorem d_X12_logs_28 : decode (qMc M_X12_logs) 28 = .ok (.getfield 50, 3) := by decide +kernel
theorem d_X12_logs_31 : decode (qMc M_X12_logs) 31 = .ok (.iload 4, 2) := by decide +kernel
theorem d_X12_logs_33 : decode (qMc M_X12_logs) 33 = .ok (.aload_n 0, 1) := by decide +kernel
theorem d_X12_logs_34 : decode (qMc M_X12_logs) 34 = .ok (.getfield 44, 3) := by decide +kernel
theorem d_X12_logs_37 : decode (qMc M_X12_logs) 37 = .ok (.sipush 162, 3) := by decide +kernel
theorem d_X12_logs_40 : decode (qMc M_X12_logs) 40 = .ok (.iaload, 1) := by decide +kernel
theorem d_X12_logs_41 : decode (qMc M_X12_logs) 41 = .ok (.iastore, 1) := by decide +kernel
theorem d_X12_logs_42 : decode (qMc M_X12_logs) 42 = .ok (.aload_n 0, 1) := by decide +kernel
theorem d_X12_logs_43 : decode (qMc M_X12_logs) 43 = .ok (.getfield 50, 3) := by decide +kernel
theorem d_X12_logs_46 : decode (qMc M_X12_logs) 46 = .ok (.iload 4, 2) := by decide +kernel
theorem d_X12_logs_48 : decode (qMc M_X12_logs) 48 = .ok (.iconst 1, 1) := by decide +kernel
theorem d_X12_logs_49 : decode (qMc M_X12_logs) 49 = .ok (.iadd, 1) := by decide +kernel
theorem d_X12_logs_50 : decode (qMc M_X12_logs) 50 = .ok (.iload_n 1, 1) := by decide +kernel
theorem d_X12_logs_51 : decode (qMc M_X12_logs) 51 = .ok (.iastore, 1) := by decide +kernel
theorem d_X12_logs_52 : decode (qMc M_X12_logs) 52 = .ok (.aload_n 0, 1) := by decide +kernel
theorem d_X12_logs_53 : decode (qMc M_X12_logs) 53 = .ok (.getfield 50, 3) := by decide +kernel
theorem d_X12_logs_56 : decode (qMc M_X12_logs) 56 = .ok (.iload 4, 2) := by decide +kernel
theorem d_X12_logs_58 : decode (qMc M_X12_logs) 58 = .ok (.iconst 2, 1) := by decide +kernel
theorem d_X12_logs_59 : decode (qMc M_X12_logs) 59 = .ok (.iadd, 1) := by decide +kernel
theorem d_X12_logs_60 : decode (qMc M_X12_logs) 60 = .ok (.iload_n 2, 1) := by decide +kernel
theorem d_X12_logs_61 : decode (qMc M_X12_logs) 61 = .ok (.iastore, 1) := by decide +kernel
theorem d_X12_logs_62 : decode (qMc M_X12_logs) 62 = .ok (.aload_n 0, 1) := by decide +kernel
theorem d_X12_logs_63 : decode (qMc M_X12_logs) 63 = .ok (.getfield 50, 3) := by decide +kernel
theorem d_X12_logs_66 : decode (qMc M_X12_logs) 66 = .ok (.iload 4, 2) := by decide +kernel
theorem d_X12_logs_68 : decode (qMc M_X12_logs) 68 = .ok (.iconst 3, 1) := by decide +kernel
theorem d_X12_logs_69 : decode (qMc M_X12_logs) 69 = .ok (.iadd, 1) := by decide +kernel
theorem d_X12_logs_70 : decode (qMc M_X12_logs) 70 = .ok (.iload_n 3, 1) := by decide +kernel
theorem d_X12_logs_71 : decode (qMc M_X12_logs) 71 = .ok (.iastore, 1) := by decide +kernel
theorem d_X12_logs_72 : decode (qMc M_X12_logs) 72 = .ok (.aload_n 0, 1) := by decide +kernel
theorem d_X12_logs_73 : decode (qMc M_X12_logs) 73 = .ok (.getfield 44, 3) := by decide +kernel
theorem d_X12_logs_76 : decode (qMc M_X12_logs) 76 = .ok (.sipush 166, 3) := by decide +kernel
theorem d_X12_logs_79 : decode (qMc M_X12_logs) 79 = .ok (.dup2, 1) := by decide +kernel
theorem d_X12_logs_80 : decode (qMc M_X12_logs) 80 = .ok (.iaload, 1) := by decide +kernel
theorem d_X12_logs_81 : decode (qMc M_X12_logs) 81 = .ok (.iconst 1, 1) := by decide +kernel
theorem d_X12_logs_82 : decode (qMc M_X12_logs) 82 = .ok (.iadd, 1) := by decide +kernel
theorem d_X12_logs_83 : decode (qMc M_X12_logs) 83 = .ok (.iastore, 1) := by decide +kernel
theorem d_X12_logs_84 : decode (qMc M_X12_logs) 84 = .ok (.return_, 1) := by decide +kernel
theorem d_X12_becomes_0 : decode (qMc M_X12_becomes) 0 = .ok (.iload_n 1, 1) := by decide +kernel
theorem d_X12_becomes_1 : decode (qMc M_X12_becomes) 1 = .ok (.ifCond .ne 12, 3) := by decide +kernel
theorem d_X12_becomes_4 : decode (qMc M_X12_becomes) 4 = .ok (.aload_n 0, 1) := by decide +kernel
theorem d_X12_becomes_5 : decode (qMc M_X12_becomes) 5 = .ok (.getfield 44, 3) := by decide +kernel
theorem d_X12_becomes_8 : decode (qMc M_X12_becomes) 8 = .ok (.iconst 0, 1) := by decide +kernel
theorem d_X12_becomes_9 : decode (qMc M_X12_becomes) 9 = .ok (.iload_n 2, 1) := by decide +kernel
theorem d_X12_becomes_10 : decode (qMc M_X12_becomes) 10 = .ok (.iadd, 1) := by decide +kernel
theorem d_X12_becomes_11 : decode (qMc M_X12_becomes) 11 = .ok (.iload_n 3, 1) := by decide +kernel
theorem d_X12_becomes_12 : decode (qMc M_X12_becomes) 12 = .ok (.iastore, 1) := by decide +kernel
theorem d_X12_becomes_13 : decode (qMc M_X12_becomes) 13 = .ok (.iload_n 1, 1) := by decide +kernel
theorem d_X12_becomes_14 : decode (qMc M_X12_becomes) 14 = .ok (.iconst 1, 1) := by decide +kernel
theorem d_X12_becomes_15 : decode (qMc M_X12_becomes) 15 = .ok (.if_icmp .eq 8, 3) := by decide +kernel
theorem d_X12_becomes_18 : decode (qMc M_X12_becomes) 18 = .ok (.iload_n 1, 1) := by decide +kernel
theorem d_X12_becomes_19 : decode (qMc M_X12_becomes) 19 = .ok (.iconst 2, 1) := by decide +kernel
theorem d_X12_becomes_20 : decode (qMc M_X12_becomes) 20 = .ok (.if_icmp .ne 15, 3) := by decide +kernel
theorem d_X12_becomes_23 : decode (qMc M_X12_becomes) 23 = .ok (.aload_n 0, 1) := by decide +kernel
theorem d_X12_becomes_24 : decode (qMc M_X12_becomes) 24 = .ok (.getfield 44, 3) := by decide +kernel
theorem d_X12_becomes_27 : decode (qMc M_X12_becomes) 27 = .ok (.bipush 64, 2) := by decide +kernel
theorem d_X12_becomes_29 : decode (qMc M_X12_becomes) 29 = .ok (.iload_n 2, 1) := by decide +kernel
theorem d_X12_becomes_30 : decode (qMc M_X12_becomes) 30 = .ok (.iadd, 1) := by decide +kernel
theorem d_X12_becomes_31 : decode (qMc M_X12_becomes) 31 = .ok (.iconst 2, 1) := by decide +kernel
theorem d_X12_becomes_32 : decode (qMc M_X12_becomes) 32 = .ok (.iload_n 1, 1) := by decide +kernel
theorem d_X12_becomes_33 : decode (qMc M_X12_becomes) 33 = .ok (.isub, 1) := by decide +kernel
theorem d_X12_becomes_34 : decode (qMc M_X12_becomes) 34 = .ok (.iastore, 1) := by decide +kernel
theorem d_X12_becomes_35 : decode (qMc M_X12_becomes) 35 = .ok (.iload_n 1, 1) := by decide +kernel
theorem d_X12_becomes_36 : decode (qMc M_X12_becomes) 36 = .ok (.iconst 3, 1) := by decide +kernel
theorem d_X12_becomes_37 : decode (qMc M_X12_becomes) 37 = .ok (.if_icmp .eq 8, 3) := by decide +kernel
theorem d_X12_becomes_40 : decode (qMc M_X12_becomes) 40 = .ok (.iload_n 1, 1) := by decide +kernel
theorem d_X12_becomes_41 : decode (qMc M_X12_becomes) 41 = .ok (.iconst 4, 1) := by decide +kernel
theorem d_X12_becomes_42 : decode (qMc M_X12_becomes) 42 = .ok (.if_icmp .ne 15, 3) := by decide +kernel
theorem d_X12_becomes_45 : decode (qMc M_X12_becomes) 45 = .ok (.aload_n 0, 1) := by decide +kernel
theorem d_X12_becomes_46 : decode (qMc M_X12_becomes) 46 = .ok (.getfield 44, 3) := by decide +kernel
theorem d_X12_becomes_49 : decode (qMc M_X12_becomes) 49 = .ok (.bipush 96, 2) := by decide +kernel
theorem d_X12_becomes_51 : decode (qMc M_X12_becomes) 51 = .ok (.iload_n 2, 1) := by decide +kernel
theorem d_X12_becomes_52 : decode (qMc M_X12_becomes) 52 = .ok (.iadd, 1) := by decide +kernel
theorem d_X12_becomes_53 : decode (qMc M_X12_becomes) 53 = .ok (.iconst 4, 1) := by decide +kernel
theorem d_X12_becomes_54 : decode (qMc M_X12_becomes) 54 = .ok (.iload_n 1, 1) := by decide +kernel
theorem d_X12_becomes_55 : decode (qMc M_X12_becomes) 55 = .ok (.isub, 1) := by decide +kernel
theorem d_X12_becomes_56 : decode (qMc M_X12_becomes) 56 = .ok (.iastore, 1) := by decide +kernel
theorem d_X12_becomes_57 : decode (qMc M_X12_becomes) 57 = .ok (.iload_n 1, 1) := by decide +kernel
theorem d_X12_becomes_58 : decode (qMc M_X12_becomes) 58 = .ok (.iconst 5, 1) := by decide +kernel
theorem d_X12_becomes_59 : decode (qMc M_X12_becomes) 59 = .ok (.if_icmp .ne 14, 3) := by decide +kernel
theorem d_X12_becomes_62 : decode (qMc M_X12_becomes) 62 = .ok (.aload_n 0, 1) := by decide +kernel
theorem d_X12_becomes_63 : decode (qMc M_X12_becomes) 63 = .ok (.getfield 44, 3) := by decide +kernel
theorem d_X12_becomes_66 : decode (qMc M_X12_becomes) 66 = .ok (.sipush 128, 3) := by decide +kernel
theorem d_X12_becomes_69 : decode (qMc M_X12_becomes) 69 = .ok (.iload_n 2, 1) := by decide +kernel
theorem d_X12_becomes_70 : decode (qMc M_X12_becomes) 70 = .ok (.iadd, 1) := by decide +kernel
theorem d_X12_becomes_71 : decode (qMc M_X12_becomes) 71 = .ok (.iload_n 3, 1) := by decide +kernel
theorem d_X12_becomes_72 : decode (qMc M_X12_becomes) 72 = .ok (.iastore, 1) := by decide +kernel
theorem d_X12_becomes_73 : decode (qMc M_X12_becomes) 73 = .ok (.aload_n 0, 1) := by decide +kernel
theorem d_X12_becomes_74 : decode (qMc M_X12_becomes) 74 = .ok (.iload_n 1, 1) := by decide +kernel
theorem d_X12_becomes_75 : decode (qMc M_X12_becomes) 75 = .ok (.iload_n 2, 1) := by decide +kernel
theorem d_X12_becomes_76 : decode (qMc M_X12_becomes) 76 = .ok (.iload_n 1, 1) := by decide +kernel
theorem d_X12_becomes_77 : decode (qMc M_X12_becomes) 77 = .ok (.ifCond .eq 8, 3) := by decide +kernel
theorem d_X12_becomes_80 : decode (qMc M_X12_becomes) 80 = .ok (.iload_n 1, 1) := by decide +kernel
theorem d_X12_becomes_81 : decode (qMc M_X12_becomes) 81 = .ok (.iconst 5, 1) := by decide +kernel
theorem d_X12_becomes_82 : decode (qMc M_X12_becomes) 82 = .ok (.if_icmp .ne 7, 3) := by decide +kernel
theorem d_X12_becomes_85 : decode (qMc M_X12_becomes) 85 = .ok (.iload_n 3, 1) := by decide +kernel
theorem d_X12_becomes_86 : decode (qMc M_X12_becomes) 86 = .ok (.goto 4, 3) := by decide +kernel
theorem d_X12_becomes_89 : decode (qMc M_X12_becomes) 89 = .ok (.iconst 0, 1) := by decide +kernel
theorem d_X12_becomes_90 : decode (qMc M_X12_becomes) 90 = .ok (.invokevirtual 282, 3) := by decide +kernel
theorem d_X12_becomes_93 : decode (qMc M_X12_becomes) 93 = .ok (.return_, 1) := by decide +kernel
theorem d_X12_keepsBack_0 : decode (qMc M_X12_keepsBack) 0 = .ok (.aload_n 0, 1) := by decide +kernel
theorem d_X12_keepsBack_1 : decode (qMc M_X12_keepsBack) 1 = .ok (.getfield 256, 3) := by decide +kernel
theorem d_X12_keepsBack_4 : decode (qMc M_X12_keepsBack) 4 = .ok (.bipush 6, 2) := by decide +kernel
theorem d_X12_keepsBack_6 : decode (qMc M_X12_keepsBack) 6 = .ok (.if_icmp .ne 46, 3) := by decide +kernel
theorem d_X12_keepsBack_9 : decode (qMc M_X12_keepsBack) 9 = .ok (.sipush 167, 3) := by decide +kernel
theorem d_X12_keepsBack_12 : decode (qMc M_X12_keepsBack) 12 = .ok (.istore_n 1, 1) := by decide +kernel
theorem d_X12_keepsBack_13 : decode (qMc M_X12_keepsBack) 13 = .ok (.iload_n 1, 1) := by decide +kernel
theorem d_X12_keepsBack_14 : decode (qMc M_X12_keepsBack) 14 = .ok (.sipush 1002, 3) := by decide +kernel
theorem d_X12_keepsBack_17 : decode (qMc M_X12_keepsBack) 17 = .ok (.if_icmp .ge 25, 3) := by decide +kernel
theorem d_X12_keepsBack_20 : decode (qMc M_X12_keepsBack) 20 = .ok (.aload_n 0, 1) := by decide +kernel
theorem d_X12_keepsBack_21 : decode (qMc M_X12_keepsBack) 21 = .ok (.getfield 53, 3) := by decide +kernel
theorem d_X12_keepsBack_24 : decode (qMc M_X12_keepsBack) 24 = .ok (.iload_n 1, 1) := by decide +kernel
theorem d_X12_keepsBack_25 : decode (qMc M_X12_keepsBack) 25 = .ok (.sipush 167, 3) := by decide +kernel
theorem d_X12_keepsBack_28 : decode (qMc M_X12_keepsBack) 28 = .ok (.isub, 1) := by decide +kernel
theorem d_X12_keepsBack_29 : decode (qMc M_X12_keepsBack) 29 = .ok (.aload_n 0, 1) := by decide +kernel
theorem d_X12_keepsBack_30 : decode (qMc M_X12_keepsBack) 30 = .ok (.getfield 53, 3) := by decide +kernel
theorem d_X12_keepsBack_33 : decode (qMc M_X12_keepsBack) 33 = .ok (.iload_n 1, 1) := by decide +kernel
theorem d_X12_keepsBack_34 : decode (qMc M_X12_keepsBack) 34 = .ok (.iaload, 1) := by decide +kernel
theorem d_X12_keepsBack_35 : decode (qMc M_X12_keepsBack) 35 = .ok (.iastore, 1) := by decide +kernel
theorem d_X12_keepsBack_36 : decode (qMc M_X12_keepsBack) 36 = .ok (.iinc 1 1, 3) := by decide +kernel
theorem d_X12_keepsBack_39 : decode (qMc M_X12_keepsBack) 39 = .ok (.goto (-26), 3) := by decide +kernel
theorem d_X12_keepsBack_42 : decode (qMc M_X12_keepsBack) 42 = .ok (.aload_n 0, 1) := by decide +kernel
theorem d_X12_keepsBack_43 : decode (qMc M_X12_keepsBack) 43 = .ok (.dup, 1) := by decide +kernel
theorem d_X12_keepsBack_44 : decode (qMc M_X12_keepsBack) 44 = .ok (.getfield 256, 3) := by decide +kernel
theorem d_X12_keepsBack_47 : decode (qMc M_X12_keepsBack) 47 = .ok (.iconst 1, 1) := by decide +kernel
theorem d_X12_keepsBack_48 : decode (qMc M_X12_keepsBack) 48 = .ok (.isub, 1) := by decide +kernel
theorem d_X12_keepsBack_49 : decode (qMc M_X12_keepsBack) 49 = .ok (.putfield 256, 3) := by decide +kernel
theorem d_X12_keepsBack_52 : decode (qMc M_X12_keepsBack) 52 = .ok (.iconst 0, 1) := by decide +kernel
theorem d_X12_keepsBack_53 : decode (qMc M_X12_keepsBack) 53 = .ok (.istore_n 1, 1) := by decide +kernel
theorem d_X12_keepsBack_54 : decode (qMc M_X12_keepsBack) 54 = .ok (.iload_n 1, 1) := by decide +kernel
theorem d_X12_keepsBack_55 : decode (qMc M_X12_keepsBack) 55 = .ok (.sipush 167, 3) := by decide +kernel
theorem d_X12_keepsBack_58 : decode (qMc M_X12_keepsBack) 58 = .ok (.if_icmp .ge 30, 3) := by decide +kernel
theorem d_X12_keepsBack_61 : decode (qMc M_X12_keepsBack) 61 = .ok (.aload_n 0, 1) := by decide +kernel
theorem d_X12_keepsBack_62 : decode (qMc M_X12_keepsBack) 62 = .ok (.getfield 53, 3) := by decide +kernel
theorem d_X12_keepsBack_65 : decode (qMc M_X12_keepsBack) 65 = .ok (.sipush 167, 3) := by decide +kernel
theorem d_X12_keepsBack_68 : decode (qMc M_X12_keepsBack) 68 = .ok (.aload_n 0, 1) := by decide +kernel
theorem d_X12_keepsBack_69 : decode (qMc M_X12_keepsBack) 69 = .ok (.getfield 256, 3) := by decide +kernel
theorem d_X12_keepsBack_72 : decode (qMc M_X12_keepsBack) 72 = .ok (.imul, 1) := by decide +kernel
theorem d_X12_keepsBack_73 : decode (qMc M_X12_keepsBack) 73 = .ok (.iload_n 1, 1) := by decide +kernel
theorem d_X12_keepsBack_74 : decode (qMc M_X12_keepsBack) 74 = .ok (.iadd, 1) := by decide +kernel
theorem d_X12_keepsBack_75 : decode (qMc M_X12_keepsBack) 75 = .ok (.aload_n 0, 1) := by decide +kernel
theorem d_X12_keepsBack_76 : decode (qMc M_X12_keepsBack) 76 = .ok (.getfield 44, 3) := by decide +kernel
theorem d_X12_keepsBack_79 : decode (qMc M_X12_keepsBack) 79 = .ok (.iload_n 1, 1) := by decide +kernel
theorem d_X12_keepsBack_80 : decode (qMc M_X12_keepsBack) 80 = .ok (.iaload, 1) := by decide +kernel
theorem d_X12_keepsBack_81 : decode (qMc M_X12_keepsBack) 81 = .ok (.iastore, 1) := by decide +kernel
theorem d_X12_keepsBack_82 : decode (qMc M_X12_keepsBack) 82 = .ok (.iinc 1 1, 3) := by decide +kernel
theorem d_X12_keepsBack_85 : decode (qMc M_X12_keepsBack) 85 = .ok (.goto (-31), 3) := by decide +kernel
theorem d_X12_keepsBack_88 : decode (qMc M_X12_keepsBack) 88 = .ok (.aload_n 0, 1) := by decide +kernel
theorem d_X12_keepsBack_89 : decode (qMc M_X12_keepsBack) 89 = .ok (.dup, 1) := by decide +kernel
theorem d_X12_keepsBack_90 : decode (qMc M_X12_keepsBack) 90 = .ok (.getfield 256, 3) := by decide +kernel
theorem d_X12_keepsBack_93 : decode (qMc M_X12_keepsBack) 93 = .ok (.iconst 1, 1) := by decide +kernel
theorem d_X12_keepsBack_94 : decode (qMc M_X12_keepsBack) 94 = .ok (.iadd, 1) := by decide +kernel
theorem d_X12_keepsBack_95 : decode (qMc M_X12_keepsBack) 95 = .ok (.putfield 256, 3) := by decide +kernel
theorem d_X12_keepsBack_98 : decode (qMc M_X12_keepsBack) 98 = .ok (.return_, 1) := by decide +kernel
theorem d_X12_act_0 : decode (qMc M_X12_act) 0 = .ok (.aload_n 0, 1) := by decide +kernel
theorem d_X12_act_1 : decode (qMc M_X12_act) 1 = .ok (.iconst 0, 1) := by decide +kernel
theorem d_X12_act_2 : decode (qMc M_X12_act) 2 = .ok (.putfield 127, 3) := by decide +kernel
theorem d_X12_act_5 : decode (qMc M_X12_act) 5 = .ok (.iload_n 1, 1) := by decide +kernel
theorem d_X12_act_6 : decode (qMc M_X12_act) 6 = .ok (.iconst 0, 1) := by decide +kernel
theorem d_X12_act_7 : decode (qMc M_X12_act) 7 = .ok (.iconst 3, 1) := by decide +kernel
theorem d_X12_act_8 : decode (qMc M_X12_act) 8 = .ok (.invokestatic 137, 3) := by decide +kernel
theorem d_X12_act_11 : decode (qMc M_X12_act) 11 = .ok (.ifCond .eq 48, 3) := by decide +kernel
theorem d_X12_act_14 : decode (qMc M_X12_act) 14 = .ok (.iload_n 2, 1) := by decide +kernel
theorem d_X12_act_15 : decode (qMc M_X12_act) 15 = .ok (.iconst 0, 1) := by decide +kernel
theorem d_X12_act_16 : decode (qMc M_X12_act) 16 = .ok (.aload_n 0, 1) := by decide +kernel
theorem d_X12_act_17 : decode (qMc M_X12_act) 17 = .ok (.getfield 44, 3) := by decide +kernel
theorem d_X12_act_20 : decode (qMc M_X12_act) 20 = .ok (.sipush 160, 3) := by decide +kernel
theorem d_X12_act_23 : decode (qMc M_X12_act) 23 = .ok (.iaload, 1) := by decide +kernel
theorem d_X12_act_24 : decode (qMc M_X12_act) 24 = .ok (.iconst 1, 1) := by decide +kernel
theorem d_X12_act_25 : decode (qMc M_X12_act) 25 = .ok (.isub, 1) := by decide +kernel
theorem d_X12_act_26 : decode (qMc M_X12_act) 26 = .ok (.invokestatic 137, 3) := by decide +kernel
theorem d_X12_act_29 : decode (qMc M_X12_act) 29 = .ok (.ifCond .eq 30, 3) := by decide +kernel
theorem d_X12_act_32 : decode (qMc M_X12_act) 32 = .ok (.iload_n 3, 1) := by decide +kernel
theorem d_X12_act_33 : decode (qMc M_X12_act) 33 = .ok (.iconst 0, 1) := by decide +kernel
theorem d_X12_act_34 : decode (qMc M_X12_act) 34 = .ok (.iload_n 1, 1) := by decide +kernel
theorem d_X12_act_35 : decode (qMc M_X12_act) 35 = .ok (.ifCond .ne 8, 3) := by decide +kernel
theorem d_X12_act_38 : decode (qMc M_X12_act) 38 = .ok (.bipush 7, 2) := by decide +kernel
theorem d_X12_act_40 : decode (qMc M_X12_act) 40 = .ok (.goto 13, 3) := by decide +kernel
theorem d_X12_act_43 : decode (qMc M_X12_act) 43 = .ok (.iload_n 1, 1) := by decide +kernel
theorem d_X12_act_44 : decode (qMc M_X12_act) 44 = .ok (.iconst 3, 1) := by decide +kernel
theorem d_X12_act_45 : decode (qMc M_X12_act) 45 = .ok (.if_icmp .ne 7, 3) := by decide +kernel
theorem d_X12_act_48 : decode (qMc M_X12_act) 48 = .ok (.iconst 3, 1) := by decide +kernel
theorem d_X12_act_49 : decode (qMc M_X12_act) 49 = .ok (.goto 4, 3) := by decide +kernel
theorem d_X12_act_52 : decode (qMc M_X12_act) 52 = .ok (.iconst 1, 1) := by decide +kernel
theorem d_X12_act_53 : decode (qMc M_X12_act) 53 = .ok (.invokestatic 137, 3) := by decide +kernel
theorem d_X12_act_56 : decode (qMc M_X12_act) 56 = .ok (.ifCond .ne 5, 3) := by decide +kernel
theorem d_X12_act_59 : decode (qMc M_X12_act) 59 = .ok (.iconst 0, 1) := by decide +kernel
theorem d_X12_act_60 : decode (qMc M_X12_act) 60 = .ok (.ireturn, 1) := by decide +kernel
theorem d_X12_act_61 : decode (qMc M_X12_act) 61 = .ok (.aload_n 0, 1) := by decide +kernel
theorem d_X12_act_62 : decode (qMc M_X12_act) 62 = .ok (.invokevirtual 286, 3) := by decide +kernel
theorem d_X12_act_65 : decode (qMc M_X12_act) 65 = .ok (.aload_n 0, 1) := by decide +kernel
theorem d_X12_act_66 : decode (qMc M_X12_act) 66 = .ok (.iload_n 1, 1) := by decide +kernel
theorem d_X12_act_67 : decode (qMc M_X12_act) 67 = .ok (.ifCond .ne 7, 3) := by decide +kernel
theorem d_X12_act_70 : decode (qMc M_X12_act) 70 = .ok (.iconst 0, 1) := by decide +kernel
theorem d_X12_act_71 : decode (qMc M_X12_act) 71 = .ok (.goto 26, 3) := by decide +kernel
theorem d_X12_act_74 : decode (qMc M_X12_act) 74 = .ok (.iload_n 1, 1) := by decide +kernel
theorem d_X12_act_75 : decode (qMc M_X12_act) 75 = .ok (.iconst 1, 1) := by decide +kernel
theorem d_X12_act_76 : decode (qMc M_X12_act) 76 = .ok (.if_icmp .ne 9, 3) := by decide +kernel
theorem d_X12_act_79 : decode (qMc M_X12_act) 79 = .ok (.iconst 2, 1) := by decide +kernel
theorem d_X12_act_80 : decode (qMc M_X12_act) 80 = .ok (.iload_n 3, 1) := by decide +kernel
theorem d_X12_act_81 : decode (qMc M_X12_act) 81 = .ok (.isub, 1) := by decide +kernel
theorem d_X12_act_82 : decode (qMc M_X12_act) 82 = .ok (.goto 15, 3) := by decide +kernel
theorem d_X12_act_85 : decode (qMc M_X12_act) 85 = .ok (.iload_n 1, 1) := by decide +kernel
theorem d_X12_act_86 : decode (qMc M_X12_act) 86 = .ok (.iconst 2, 1) := by decide +kernel
theorem d_X12_act_87 : decode (qMc M_X12_act) 87 = .ok (.if_icmp .ne 9, 3) := by decide +kernel
theorem d_X12_act_90 : decode (qMc M_X12_act) 90 = .ok (.iconst 4, 1) := by decide +kernel
theorem d_X12_act_91 : decode (qMc M_X12_act) 91 = .ok (.iload_n 3, 1) := by decide +kernel
theorem d_X12_act_92 : decode (qMc M_X12_act) 92 = .ok (.isub, 1) := by decide +kernel
theorem d_X12_act_93 : decode (qMc M_X12_act) 93 = .ok (.goto 4, 3) := by decide +kernel
theorem d_X12_act_96 : decode (qMc M_X12_act) 96 = .ok (.iconst 5, 1) := by decide +kernel
theorem d_X12_act_97 : decode (qMc M_X12_act) 97 = .ok (.iload_n 2, 1) := by decide +kernel
theorem d_X12_act_98 : decode (qMc M_X12_act) 98 = .ok (.iload_n 3, 1) := by decide +kernel
theorem d_X12_act_99 : decode (qMc M_X12_act) 99 = .ok (.invokevirtual 289, 3) := by decide +kernel
theorem d_X12_act_102 : decode (qMc M_X12_act) 102 = .ok (.iconst 1, 1) := by decide +kernel
theorem d_X12_act_103 : decode (qMc M_X12_act) 103 = .ok (.ireturn, 1) := by decide +kernel
theorem d_X12_beside_0 : decode (qMc M_X12_beside) 0 = .ok (.aload_n 0, 1) := by decide +kernel
theorem d_X12_beside_1 : decode (qMc M_X12_beside) 1 = .ok (.sipush 160, 3) := by decide +kernel
theorem d_X12_beside_4 : decode (qMc M_X12_beside) 4 = .ok (.iaload, 1) := by decide +kernel
theorem d_X12_beside_5 : decode (qMc M_X12_beside) 5 = .ok (.istore_n 3, 1) := by decide +kernel
theorem d_X12_beside_6 : decode (qMc M_X12_beside) 6 = .ok (.iload_n 2, 1) := by decide +kernel
theorem d_X12_beside_7 : decode (qMc M_X12_beside) 7 = .ok (.ifCond .ne 9, 3) := by decide +kernel
theorem d_X12_beside_10 : decode (qMc M_X12_beside) 10 = .ok (.iload_n 1, 1) := by decide +kernel
theorem d_X12_beside_11 : decode (qMc M_X12_beside) 11 = .ok (.iconst 1, 1) := by decide +kernel
theorem d_X12_beside_12 : decode (qMc M_X12_beside) 12 = .ok (.isub, 1) := by decide +kernel
theorem d_X12_beside_13 : decode (qMc M_X12_beside) 13 = .ok (.goto 6, 3) := by decide +kernel
theorem d_X12_beside_16 : decode (qMc M_X12_beside) 16 = .ok (.iload_n 1, 1) := by decide +kernel
theorem d_X12_beside_17 : decode (qMc M_X12_beside) 17 = .ok (.iconst 1, 1) := by decide +kernel
theorem d_X12_beside_18 : decode (qMc M_X12_beside) 18 = .ok (.iadd, 1) := by decide +kernel
theorem d_X12_beside_19 : decode (qMc M_X12_beside) 19 = .ok (.istore 4, 2) := by decide +kernel
theorem d_X12_beside_21 : decode (qMc M_X12_beside) 21 = .ok (.iload 4, 2) := by decide +kernel
theorem d_X12_beside_23 : decode (qMc M_X12_beside) 23 = .ok (.iconst 0, 1) := by decide +kernel
theorem d_X12_beside_24 : decode (qMc M_X12_beside) 24 = .ok (.iload_n 3, 1) := by decide +kernel
theorem d_X12_beside_25 : decode (qMc M_X12_beside) 25 = .ok (.iconst 1, 1) := by decide +kernel
theorem d_X12_beside_26 : decode (qMc M_X12_beside) 26 = .ok (.isub, 1) := by decide +kernel
theorem d_X12_beside_27 : decode (qMc M_X12_beside) 27 = .ok (.invokestatic 137, 3) := by decide +kernel
theorem d_X12_beside_30 : decode (qMc M_X12_beside) 30 = .ok (.ifCond .ne 27, 3) := by decide +kernel
theorem d_X12_beside_33 : decode (qMc M_X12_beside) 33 = .ok (.aload_n 0, 1) := by decide +kernel
theorem d_X12_beside_34 : decode (qMc M_X12_beside) 34 = .ok (.sipush 161, 3) := by decide +kernel
theorem d_X12_beside_37 : decode (qMc M_X12_beside) 37 = .ok (.iaload, 1) := by decide +kernel
theorem d_X12_beside_38 : decode (qMc M_X12_beside) 38 = .ok (.ifCond .ne 5, 3) := by decide +kernel
theorem d_X12_beside_41 : decode (qMc M_X12_beside) 41 = .ok (.iconst (-1), 1) := by decide +kernel
theorem d_X12_beside_42 : decode (qMc M_X12_beside) 42 = .ok (.ireturn, 1) := by decide +kernel
theorem d_X12_beside_43 : decode (qMc M_X12_beside) 43 = .ok (.iload 4, 2) := by decide +kernel
theorem d_X12_beside_45 : decode (qMc M_X12_beside) 45 = .ok (.ifCond .ge 9, 3) := by decide +kernel
theorem d_X12_beside_48 : decode (qMc M_X12_beside) 48 = .ok (.iload_n 3, 1) := by decide +kernel
theorem d_X12_beside_49 : decode (qMc M_X12_beside) 49 = .ok (.iconst 1, 1) := by decide +kernel
theorem d_X12_beside_50 : decode (qMc M_X12_beside) 50 = .ok (.isub, 1) := by decide +kernel
theorem d_X12_beside_51 : decode (qMc M_X12_beside) 51 = .ok (.goto 4, 3) := by decide +kernel
theorem d_X12_beside_54 : decode (qMc M_X12_beside) 54 = .ok (.iconst 0, 1) := by decide +kernel
theorem d_X12_beside_55 : decode (qMc M_X12_beside) 55 = .ok (.istore 4, 2) := by decide +kernel
theorem d_X12_beside_57 : decode (qMc M_X12_beside) 57 = .ok (.aload_n 0, 1) := by decide +kernel
theorem d_X12_beside_58 : decode (qMc M_X12_beside) 58 = .ok (.sipush 128, 3) := by decide +kernel
theorem d_X12_beside_61 : decode (qMc M_X12_beside) 61 = .ok (.iload_n 2, 1) := by decide +kernel
theorem d_X12_beside_62 : decode (qMc M_X12_beside) 62 = .ok (.ifCond .ne 8, 3) := by decide +kernel
theorem d_X12_beside_65 : decode (qMc M_X12_beside) 65 = .ok (.iload 4, 2) := by decide +kernel
theorem d_X12_beside_67 : decode (qMc M_X12_beside) 67 = .ok (.goto 4, 3) := by decide +kernel
theorem d_X12_beside_70 : decode (qMc M_X12_beside) 70 = .ok (.iload_n 1, 1) := by decide +kernel
theorem d_X12_beside_71 : decode (qMc M_X12_beside) 71 = .ok (.iadd, 1) := by decide +kernel
theorem d_X12_beside_72 : decode (qMc M_X12_beside) 72 = .ok (.iaload, 1) := by decide +kernel
theorem d_X12_beside_73 : decode (qMc M_X12_beside) 73 = .ok (.istore 5, 2) := by decide +kernel
theorem d_X12_beside_75 : decode (qMc M_X12_beside) 75 = .ok (.iload 5, 2) := by decide +kernel
theorem d_X12_beside_77 : decode (qMc M_X12_beside) 77 = .ok (.iconst 1, 1) := by decide +kernel
theorem d_X12_beside_78 : decode (qMc M_X12_beside) 78 = .ok (.iload_n 2, 1) := by decide +kernel
theorem d_X12_beside_79 : decode (qMc M_X12_beside) 79 = .ok (.isub, 1) := by decide +kernel
theorem d_X12_beside_80 : decode (qMc M_X12_beside) 80 = .ok (.invokestatic 259, 3) := by decide +kernel
theorem d_X12_beside_83 : decode (qMc M_X12_beside) 83 = .ok (.ifCond .eq 7, 3) := by decide +kernel
theorem d_X12_beside_86 : decode (qMc M_X12_beside) 86 = .ok (.iconst (-1), 1) := by decide +kernel
theorem d_X12_beside_87 : decode (qMc M_X12_beside) 87 = .ok (.goto 5, 3) := by decide +kernel
theorem d_X12_beside_90 : decode (qMc M_X12_beside) 90 = .ok (.iload 4, 2) := by decide +kernel
theorem d_X12_beside_92 : decode (qMc M_X12_beside) 92 = .ok (.ireturn, 1) := by decide +kernel
theorem d_X12_sees_0 : decode (qMc M_X12_sees) 0 = .ok (.aload_n 0, 1) := by decide +kernel
theorem d_X12_sees_1 : decode (qMc M_X12_sees) 1 = .ok (.iload_n 1, 1) := by decide +kernel
theorem d_X12_sees_2 : decode (qMc M_X12_sees) 2 = .ok (.iload_n 2, 1) := by decide +kernel
theorem d_X12_sees_3 : decode (qMc M_X12_sees) 3 = .ok (.invokestatic 292, 3) := by decide +kernel
theorem d_X12_sees_6 : decode (qMc M_X12_sees) 6 = .ok (.istore_n 3, 1) := by decide +kernel
theorem d_X12_sees_7 : decode (qMc M_X12_sees) 7 = .ok (.iload_n 3, 1) := by decide +kernel
theorem d_X12_sees_8 : decode (qMc M_X12_sees) 8 = .ok (.iconst (-1), 1) := by decide +kernel
theorem d_X12_sees_9 : decode (qMc M_X12_sees) 9 = .ok (.if_icmp .ne 8, 3) := by decide +kernel
theorem d_X12_sees_12 : decode (qMc M_X12_sees) 12 = .ok (.bipush 8, 2) := by decide +kernel
theorem d_X12_sees_14 : decode (qMc M_X12_sees) 14 = .ok (.goto 23, 3) := by decide +kernel
theorem d_X12_sees_17 : decode (qMc M_X12_sees) 17 = .ok (.aload_n 0, 1) := by decide +kernel
theorem d_X12_sees_18 : decode (qMc M_X12_sees) 18 = .ok (.aload_n 0, 1) := by decide +kernel
theorem d_X12_sees_19 : decode (qMc M_X12_sees) 19 = .ok (.bipush 96, 2) := by decide +kernel
theorem d_X12_sees_21 : decode (qMc M_X12_sees) 21 = .ok (.iload_n 1, 1) := by decide +kernel
theorem d_X12_sees_22 : decode (qMc M_X12_sees) 22 = .ok (.iadd, 1) := by decide +kernel
theorem d_X12_sees_23 : decode (qMc M_X12_sees) 23 = .ok (.iaload, 1) := by decide +kernel
theorem d_X12_sees_24 : decode (qMc M_X12_sees) 24 = .ok (.iconst 1, 1) := by decide +kernel
theorem d_X12_sees_25 : decode (qMc M_X12_sees) 25 = .ok (.if_icmp .ne 8, 3) := by decide +kernel
theorem d_X12_sees_28 : decode (qMc M_X12_sees) 28 = .ok (.bipush 32, 2) := by decide +kernel
theorem d_X12_sees_30 : decode (qMc M_X12_sees) 30 = .ok (.goto 4, 3) := by decide +kernel
theorem d_X12_sees_33 : decode (qMc M_X12_sees) 33 = .ok (.iconst 0, 1) := by decide +kernel
theorem d_X12_sees_34 : decode (qMc M_X12_sees) 34 = .ok (.iload_n 3, 1) := by decide +kernel
theorem d_X12_sees_35 : decode (qMc M_X12_sees) 35 = .ok (.iadd, 1) := by decide +kernel
theorem d_X12_sees_36 : decode (qMc M_X12_sees) 36 = .ok (.iaload, 1) := by decide +kernel
theorem d_X12_sees_37 : decode (qMc M_X12_sees) 37 = .ok (.ireturn, 1) := by decide +kernel
theorem d_X12_goesOn_0 : decode (qMc M_X12_goesOn) 0 = .ok (.iconst 0, 1) := by decide +kernel
theorem d_X12_goesOn_1 : decode (qMc M_X12_goesOn) 1 = .ok (.istore_n 2, 1) := by decide +kernel
theorem d_X12_goesOn_2 : decode (qMc M_X12_goesOn) 2 = .ok (.iconst 0, 1) := by decide +kernel
theorem d_X12_goesOn_3 : decode (qMc M_X12_goesOn) 3 = .ok (.istore_n 3, 1) := by decide +kernel
theorem d_X12_goesOn_4 : decode (qMc M_X12_goesOn) 4 = .ok (.iload_n 3, 1) := by decide +kernel
theorem d_X12_goesOn_5 : decode (qMc M_X12_goesOn) 5 = .ok (.aload_n 1, 1) := by decide +kernel
theorem d_X12_goesOn_6 : decode (qMc M_X12_goesOn) 6 = .ok (.sipush 160, 3) := by decide +kernel
theorem d_X12_goesOn_9 : decode (qMc M_X12_goesOn) 9 = .ok (.iaload, 1) := by decide +kernel
theorem d_X12_goesOn_10 : decode (qMc M_X12_goesOn) 10 = .ok (.if_icmp .ge 107, 3) := by decide +kernel
theorem d_X12_goesOn_13 : decode (qMc M_X12_goesOn) 13 = .ok (.aload_n 1, 1) := by decide +kernel
theorem d_X12_goesOn_14 : decode (qMc M_X12_goesOn) 14 = .ok (.bipush 64, 2) := by decide +kernel
theorem d_X12_goesOn_16 : decode (qMc M_X12_goesOn) 16 = .ok (.iload_n 3, 1) := by decide +kernel
theorem d_X12_goesOn_17 : decode (qMc M_X12_goesOn) 17 = .ok (.iadd, 1) := by decide +kernel
theorem d_X12_goesOn_18 : decode (qMc M_X12_goesOn) 18 = .ok (.iaload, 1) := by decide +kernel
theorem d_X12_goesOn_19 : decode (qMc M_X12_goesOn) 19 = .ok (.ifCond .ne 17, 3) := by decide +kernel
theorem d_X12_goesOn_22 : decode (qMc M_X12_goesOn) 22 = .ok (.aload_n 1, 1) := by decide +kernel
theorem d_X12_goesOn_23 : decode (qMc M_X12_goesOn) 23 = .ok (.iconst 0, 1) := by decide +kernel
theorem d_X12_goesOn_24 : decode (qMc M_X12_goesOn) 24 = .ok (.iload_n 3, 1) := by decide +kernel
theorem d_X12_goesOn_25 : decode (qMc M_X12_goesOn) 25 = .ok (.iadd, 1) := by decide +kernel
theorem d_X12_goesOn_26 : decode (qMc M_X12_goesOn) 26 = .ok (.iaload, 1) := by decide +kernel
theorem d_X12_goesOn_27 : decode (qMc M_X12_goesOn) 27 = .ok (.bipush 7, 2) := by decide +kernel
theorem d_X12_goesOn_29 : decode (qMc M_X12_goesOn) 29 = .ok (.if_icmp .eq 7, 3) := by decide +kernel
theorem d_X12_goesOn_32 : decode (qMc M_X12_goesOn) 32 = .ok (.iconst 1, 1) := by decide +kernel
theorem d_X12_goesOn_33 : decode (qMc M_X12_goesOn) 33 = .ok (.goto 4, 3) := by decide +kernel
theorem d_X12_goesOn_36 : decode (qMc M_X12_goesOn) 36 = .ok (.iconst 0, 1) := by decide +kernel
theorem d_X12_goesOn_37 : decode (qMc M_X12_goesOn) 37 = .ok (.istore 4, 2) := by decide +kernel
theorem d_X12_goesOn_39 : decode (qMc M_X12_goesOn) 39 = .ok (.aload_n 1, 1) := by decide +kernel
theorem d_X12_goesOn_40 : decode (qMc M_X12_goesOn) 40 = .ok (.iconst 0, 1) := by decide +kernel
theorem d_X12_goesOn_41 : decode (qMc M_X12_goesOn) 41 = .ok (.iload_n 3, 1) := by decide +kernel
theorem d_X12_goesOn_42 : decode (qMc M_X12_goesOn) 42 = .ok (.iadd, 1) := by decide +kernel
theorem d_X12_goesOn_43 : decode (qMc M_X12_goesOn) 43 = .ok (.iaload, 1) := by decide +kernel
theorem d_X12_goesOn_44 : decode (qMc M_X12_goesOn) 44 = .ok (.aload_n 1, 1) := by decide +kernel
theorem d_X12_goesOn_45 : decode (qMc M_X12_goesOn) 45 = .ok (.iload_n 3, 1) := by decide +kernel
theorem d_X12_goesOn_46 : decode (qMc M_X12_goesOn) 46 = .ok (.iconst 0, 1) := by decide +kernel
theorem d_X12_goesOn_47 : decode (qMc M_X12_goesOn) 47 = .ok (.invokestatic 296, 3) := by decide +kernel
theorem d_X12_goesOn_50 : decode (qMc M_X12_goesOn) 50 = .ok (.aload_n 1, 1) := by decide +kernel
theorem d_X12_goesOn_51 : decode (qMc M_X12_goesOn) 51 = .ok (.iload_n 3, 1) := by decide +kernel
theorem d_X12_goesOn_52 : decode (qMc M_X12_goesOn) 52 = .ok (.iconst 1, 1) := by decide +kernel
theorem d_X12_goesOn_53 : decode (qMc M_X12_goesOn) 53 = .ok (.invokestatic 296, 3) := by decide +kernel
theorem d_X12_goesOn_56 : decode (qMc M_X12_goesOn) 56 = .ok (.invokestatic 263, 3) := by decide +kernel
theorem d_X12_goesOn_59 : decode (qMc M_X12_goesOn) 59 = .ok (.istore 5, 2) := by decide +kernel
theorem d_X12_goesOn_61 : decode (qMc M_X12_goesOn) 61 = .ok (.aload_n 0, 1) := by decide +kernel
theorem d_X12_goesOn_62 : decode (qMc M_X12_goesOn) 62 = .ok (.getfield 98, 3) := by decide +kernel
theorem d_X12_goesOn_65 : decode (qMc M_X12_goesOn) 65 = .ok (.iload_n 3, 1) := by decide +kernel
theorem d_X12_goesOn_66 : decode (qMc M_X12_goesOn) 66 = .ok (.iload 4, 2) := by decide +kernel
theorem d_X12_goesOn_68 : decode (qMc M_X12_goesOn) 68 = .ok (.ifCond .eq 13, 3) := by decide +kernel
theorem d_X12_goesOn_71 : decode (qMc M_X12_goesOn) 71 = .ok (.aload_n 0, 1) := by decide +kernel
theorem d_X12_goesOn_72 : decode (qMc M_X12_goesOn) 72 = .ok (.getfield 86, 3) := by decide +kernel
theorem d_X12_goesOn_75 : decode (qMc M_X12_goesOn) 75 = .ok (.iload 5, 2) := by decide +kernel
theorem d_X12_goesOn_77 : decode (qMc M_X12_goesOn) 77 = .ok (.iaload, 1) := by decide +kernel
theorem d_X12_goesOn_78 : decode (qMc M_X12_goesOn) 78 = .ok (.goto 8, 3) := by decide +kernel
theorem d_X12_goesOn_81 : decode (qMc M_X12_goesOn) 81 = .ok (.aload_n 1, 1) := by decide +kernel
theorem d_X12_goesOn_82 : decode (qMc M_X12_goesOn) 82 = .ok (.iconst 0, 1) := by decide +kernel
theorem d_X12_goesOn_83 : decode (qMc M_X12_goesOn) 83 = .ok (.iload_n 3, 1) := by decide +kernel
theorem d_X12_goesOn_84 : decode (qMc M_X12_goesOn) 84 = .ok (.iadd, 1) := by decide +kernel
theorem d_X12_goesOn_85 : decode (qMc M_X12_goesOn) 85 = .ok (.iaload, 1) := by decide +kernel
theorem d_X12_goesOn_86 : decode (qMc M_X12_goesOn) 86 = .ok (.iastore, 1) := by decide +kernel
theorem d_X12_goesOn_87 : decode (qMc M_X12_goesOn) 87 = .ok (.iload_n 2, 1) := by decide +kernel
theorem d_X12_goesOn_88 : decode (qMc M_X12_goesOn) 88 = .ok (.iload 4, 2) := by decide +kernel
theorem d_X12_goesOn_90 : decode (qMc M_X12_goesOn) 90 = .ok (.ifCond .eq 18, 3) := by decide +kernel
theorem d_X12_goesOn_93 : decode (qMc M_X12_goesOn) 93 = .ok (.aload_n 0, 1) := by decide +kernel
theorem d_X12_goesOn_94 : decode (qMc M_X12_goesOn) 94 = .ok (.getfield 89, 3) := by decide +kernel
theorem d_X12_goesOn_97 : decode (qMc M_X12_goesOn) 97 = .ok (.iload 5, 2) := by decide +kernel
theorem d_X12_goesOn_99 : decode (qMc M_X12_goesOn) 99 = .ok (.iaload, 1) := by decide +kernel
theorem d_X12_goesOn_100 : decode (qMc M_X12_goesOn) 100 = .ok (.iconst (-1), 1) := by decide +kernel
theorem d_X12_goesOn_101 : decode (qMc M_X12_goesOn) 101 = .ok (.if_icmp .eq 7, 3) := by decide +kernel
theorem d_X12_goesOn_104 : decode (qMc M_X12_goesOn) 104 = .ok (.iconst 1, 1) := by decide +kernel
theorem d_X12_goesOn_105 : decode (qMc M_X12_goesOn) 105 = .ok (.goto 4, 3) := by decide +kernel
theorem d_X12_goesOn_108 : decode (qMc M_X12_goesOn) 108 = .ok (.iconst 0, 1) := by decide +kernel
theorem d_X12_goesOn_109 : decode (qMc M_X12_goesOn) 109 = .ok (.iadd, 1) := by decide +kernel
theorem d_X12_goesOn_110 : decode (qMc M_X12_goesOn) 110 = .ok (.istore_n 2, 1) := by decide +kernel
theorem d_X12_goesOn_111 : decode (qMc M_X12_goesOn) 111 = .ok (.iinc 3 1, 3) := by decide +kernel
theorem d_X12_goesOn_114 : decode (qMc M_X12_goesOn) 114 = .ok (.goto (-110), 3) := by decide +kernel
theorem d_X12_goesOn_117 : decode (qMc M_X12_goesOn) 117 = .ok (.iconst 0, 1) := by decide +kernel
theorem d_X12_goesOn_118 : decode (qMc M_X12_goesOn) 118 = .ok (.istore_n 3, 1) := by decide +kernel
theorem d_X12_goesOn_119 : decode (qMc M_X12_goesOn) 119 = .ok (.iload_n 3, 1) := by decide +kernel
theorem d_X12_goesOn_120 : decode (qMc M_X12_goesOn) 120 = .ok (.aload_n 1, 1) := by decide +kernel
theorem d_X12_goesOn_121 : decode (qMc M_X12_goesOn) 121 = .ok (.sipush 160, 3) := by decide +kernel
theorem d_X12_goesOn_124 : decode (qMc M_X12_goesOn) 124 = .ok (.iaload, 1) := by decide +kernel
theorem d_X12_goesOn_125 : decode (qMc M_X12_goesOn) 125 = .ok (.if_icmp .ge 31, 3) := by decide +kernel
theorem d_X12_goesOn_128 : decode (qMc M_X12_goesOn) 128 = .ok (.aload_n 1, 1) := by decide +kernel
theorem d_X12_goesOn_129 : decode (qMc M_X12_goesOn) 129 = .ok (.bipush 32, 2) := by decide +kernel
theorem d_X12_goesOn_131 : decode (qMc M_X12_goesOn) 131 = .ok (.iload_n 3, 1) := by decide +kernel
theorem d_X12_goesOn_132 : decode (qMc M_X12_goesOn) 132 = .ok (.iadd, 1) := by decide +kernel
theorem d_X12_goesOn_133 : decode (qMc M_X12_goesOn) 133 = .ok (.aload_n 1, 1) := by decide +kernel
theorem d_X12_goesOn_134 : decode (qMc M_X12_goesOn) 134 = .ok (.iconst 0, 1) := by decide +kernel
theorem d_X12_goesOn_135 : decode (qMc M_X12_goesOn) 135 = .ok (.iload_n 3, 1) := by decide +kernel
theorem d_X12_goesOn_136 : decode (qMc M_X12_goesOn) 136 = .ok (.iadd, 1) := by decide +kernel
theorem d_X12_goesOn_137 : decode (qMc M_X12_goesOn) 137 = .ok (.iaload, 1) := by decide +kernel
theorem d_X12_goesOn_138 : decode (qMc M_X12_goesOn) 138 = .ok (.iastore, 1) := by decide +kernel
theorem d_X12_goesOn_139 : decode (qMc M_X12_goesOn) 139 = .ok (.aload_n 1, 1) := by decide +kernel
theorem d_X12_goesOn_140 : decode (qMc M_X12_goesOn) 140 = .ok (.iconst 0, 1) := by decide +kernel
theorem d_X12_goesOn_141 : decode (qMc M_X12_goesOn) 141 = .ok (.iload_n 3, 1) := by decide +kernel
theorem d_X12_goesOn_142 : decode (qMc M_X12_goesOn) 142 = .ok (.iadd, 1) := by decide +kernel
theorem d_X12_goesOn_143 : decode (qMc M_X12_goesOn) 143 = .ok (.aload_n 0, 1) := by decide +kernel
theorem d_X12_goesOn_144 : decode (qMc M_X12_goesOn) 144 = .ok (.getfield 98, 3) := by decide +kernel
theorem d_X12_goesOn_147 : decode (qMc M_X12_goesOn) 147 = .ok (.iload_n 3, 1) := by decide +kernel
theorem d_X12_goesOn_148 : decode (qMc M_X12_goesOn) 148 = .ok (.iaload, 1) := by decide +kernel
theorem d_X12_goesOn_149 : decode (qMc M_X12_goesOn) 149 = .ok (.iastore, 1) := by decide +kernel
theorem d_X12_goesOn_150 : decode (qMc M_X12_goesOn) 150 = .ok (.iinc 3 1, 3) := by decide +kernel
theorem d_X12_goesOn_153 : decode (qMc M_X12_goesOn) 153 = .ok (.goto (-34), 3) := by decide +kernel
theorem d_X12_goesOn_156 : decode (qMc M_X12_goesOn) 156 = .ok (.iload_n 2, 1) := by decide +kernel
theorem d_X12_goesOn_157 : decode (qMc M_X12_goesOn) 157 = .ok (.ireturn, 1) := by decide +kernel
theorem d_X12_litIn_0 : decode (qMc M_X12_litIn) 0 = .ok (.iconst 0, 1) := by decide +kernel
theorem d_X12_litIn_1 : decode (qMc M_X12_litIn) 1 = .ok (.istore_n 2, 1) := by decide +kernel
theorem d_X12_litIn_2 : decode (qMc M_X12_litIn) 2 = .ok (.iconst 0, 1) := by decide +kernel
theorem d_X12_litIn_3 : decode (qMc M_X12_litIn) 3 = .ok (.istore_n 3, 1) := by decide +kernel
theorem d_X12_litIn_4 : decode (qMc M_X12_litIn) 4 = .ok (.iload_n 3, 1) := by decide +kernel
theorem d_X12_litIn_5 : decode (qMc M_X12_litIn) 5 = .ok (.iload_n 1, 1) := by decide +kernel
theorem d_X12_litIn_6 : decode (qMc M_X12_litIn) 6 = .ok (.if_icmp .ge 25, 3) := by decide +kernel
theorem d_X12_litIn_9 : decode (qMc M_X12_litIn) 9 = .ok (.iload_n 2, 1) := by decide +kernel
theorem d_X12_litIn_10 : decode (qMc M_X12_litIn) 10 = .ok (.aload_n 0, 1) := by decide +kernel
theorem d_X12_litIn_11 : decode (qMc M_X12_litIn) 11 = .ok (.iload_n 3, 1) := by decide +kernel
theorem d_X12_litIn_12 : decode (qMc M_X12_litIn) 12 = .ok (.iaload, 1) := by decide +kernel
theorem d_X12_litIn_13 : decode (qMc M_X12_litIn) 13 = .ok (.bipush 7, 2) := by decide +kernel
theorem d_X12_litIn_15 : decode (qMc M_X12_litIn) 15 = .ok (.if_icmp .ne 7, 3) := by decide +kernel
theorem d_X12_litIn_18 : decode (qMc M_X12_litIn) 18 = .ok (.iconst 1, 1) := by decide +kernel
theorem d_X12_litIn_19 : decode (qMc M_X12_litIn) 19 = .ok (.goto 4, 3) := by decide +kernel
theorem d_X12_litIn_22 : decode (qMc M_X12_litIn) 22 = .ok (.iconst 0, 1) := by decide +kernel
theorem d_X12_litIn_23 : decode (qMc M_X12_litIn) 23 = .ok (.iadd, 1) := by decide +kernel
theorem d_X12_litIn_24 : decode (qMc M_X12_litIn) 24 = .ok (.istore_n 2, 1) := by decide +kernel
theorem d_X12_litIn_25 : decode (qMc M_X12_litIn) 25 = .ok (.iinc 3 1, 3) := by decide +kernel
theorem d_X12_litIn_28 : decode (qMc M_X12_litIn) 28 = .ok (.goto (-24), 3) := by decide +kernel
theorem d_X12_litIn_31 : decode (qMc M_X12_litIn) 31 = .ok (.iload_n 2, 1) := by decide +kernel
theorem d_X12_litIn_32 : decode (qMc M_X12_litIn) 32 = .ok (.ireturn, 1) := by decide +kernel
theorem d_X12_firstOf_0 : decode (qMc M_X12_firstOf) 0 = .ok (.iconst 0, 1) := by decide +kernel
theorem d_X12_firstOf_1 : decode (qMc M_X12_firstOf) 1 = .ok (.istore_n 3, 1) := by decide +kernel
theorem d_X12_firstOf_2 : decode (qMc M_X12_firstOf) 2 = .ok (.iload_n 3, 1) := by decide +kernel
theorem d_X12_firstOf_3 : decode (qMc M_X12_firstOf) 3 = .ok (.iload_n 1, 1) := by decide +kernel
theorem d_X12_firstOf_4 : decode (qMc M_X12_firstOf) 4 = .ok (.if_icmp .ge 28, 3) := by decide +kernel
theorem d_X12_firstOf_7 : decode (qMc M_X12_firstOf) 7 = .ok (.aload_n 0, 1) := by decide +kernel
theorem d_X12_firstOf_8 : decode (qMc M_X12_firstOf) 8 = .ok (.iload_n 3, 1) := by decide +kernel
theorem d_X12_firstOf_9 : decode (qMc M_X12_firstOf) 9 = .ok (.iaload, 1) := by decide +kernel
theorem d_X12_firstOf_10 : decode (qMc M_X12_firstOf) 10 = .ok (.bipush 7, 2) := by decide +kernel
theorem d_X12_firstOf_12 : decode (qMc M_X12_firstOf) 12 = .ok (.if_icmp .ne 7, 3) := by decide +kernel
theorem d_X12_firstOf_15 : decode (qMc M_X12_firstOf) 15 = .ok (.iconst 1, 1) := by decide +kernel
theorem d_X12_firstOf_16 : decode (qMc M_X12_firstOf) 16 = .ok (.goto 4, 3) := by decide +kernel
theorem d_X12_firstOf_19 : decode (qMc M_X12_firstOf) 19 = .ok (.iconst 0, 1) := by decide +kernel
theorem d_X12_firstOf_20 : decode (qMc M_X12_firstOf) 20 = .ok (.iload_n 2, 1) := by decide +kernel
theorem d_X12_firstOf_21 : decode (qMc M_X12_firstOf) 21 = .ok (.if_icmp .ne 5, 3) := by decide +kernel
theorem d_X12_firstOf_24 : decode (qMc M_X12_firstOf) 24 = .ok (.iload_n 3, 1) := by decide +kernel
theorem d_X12_firstOf_25 : decode (qMc M_X12_firstOf) 25 = .ok (.ireturn, 1) := by decide +kernel
theorem d_X12_firstOf_26 : decode (qMc M_X12_firstOf) 26 = .ok (.iinc 3 1, 3) := by decide +kernel
theorem d_X12_firstOf_29 : decode (qMc M_X12_firstOf) 29 = .ok (.goto (-27), 3) := by decide +kernel
theorem d_X12_firstOf_32 : decode (qMc M_X12_firstOf) 32 = .ok (.iconst (-1), 1) := by decide +kernel
theorem d_X12_firstOf_33 : decode (qMc M_X12_firstOf) 33 = .ok (.ireturn, 1) := by decide +kernel
theorem d_X12_breath_0 : decode (qMc M_X12_breath) 0 = .ok (.iconst 0, 1) := by decide +kernel
theorem d_X12_breath_1 : decode (qMc M_X12_breath) 1 = .ok (.istore_n 1, 1) := by decide +kernel
theorem d_X12_breath_2 : decode (qMc M_X12_breath) 2 = .ok (.iload_n 1, 1) := by decide +kernel
theorem d_X12_breath_3 : decode (qMc M_X12_breath) 3 = .ok (.aload_n 0, 1) := by decide +kernel
theorem d_X12_breath_4 : decode (qMc M_X12_breath) 4 = .ok (.getfield 246, 3) := by decide +kernel
theorem d_X12_breath_7 : decode (qMc M_X12_breath) 7 = .ok (.if_icmp .ge 83, 3) := by decide +kernel
theorem d_X12_breath_10 : decode (qMc M_X12_breath) 10 = .ok (.aload_n 0, 1) := by decide +kernel
theorem d_X12_breath_11 : decode (qMc M_X12_breath) 11 = .ok (.getfield 32, 3) := by decide +kernel
theorem d_X12_breath_14 : decode (qMc M_X12_breath) 14 = .ok (.iconst 4, 1) := by decide +kernel
theorem d_X12_breath_15 : decode (qMc M_X12_breath) 15 = .ok (.iload_n 1, 1) := by decide +kernel
theorem d_X12_breath_16 : decode (qMc M_X12_breath) 16 = .ok (.imul, 1) := by decide +kernel
theorem d_X12_breath_17 : decode (qMc M_X12_breath) 17 = .ok (.iaload, 1) := by decide +kernel
theorem d_X12_breath_18 : decode (qMc M_X12_breath) 18 = .ok (.aload_n 0, 1) := by decide +kernel
theorem d_X12_breath_19 : decode (qMc M_X12_breath) 19 = .ok (.getfield 44, 3) := by decide +kernel
theorem d_X12_breath_22 : decode (qMc M_X12_breath) 22 = .ok (.sipush 162, 3) := by decide +kernel
theorem d_X12_breath_25 : decode (qMc M_X12_breath) 25 = .ok (.iaload, 1) := by decide +kernel
theorem d_X12_breath_26 : decode (qMc M_X12_breath) 26 = .ok (.if_icmp .ne 58, 3) := by decide +kernel
theorem d_X12_breath_29 : decode (qMc M_X12_breath) 29 = .ok (.aload_n 0, 1) := by decide +kernel
theorem d_X12_breath_30 : decode (qMc M_X12_breath) 30 = .ok (.getfield 32, 3) := by decide +kernel
theorem d_X12_breath_33 : decode (qMc M_X12_breath) 33 = .ok (.iconst 4, 1) := by decide +kernel
theorem d_X12_breath_34 : decode (qMc M_X12_breath) 34 = .ok (.iload_n 1, 1) := by decide +kernel
theorem d_X12_breath_35 : decode (qMc M_X12_breath) 35 = .ok (.imul, 1) := by decide +kernel
theorem d_X12_breath_36 : decode (qMc M_X12_breath) 36 = .ok (.iconst 2, 1) := by decide +kernel
theorem d_X12_breath_37 : decode (qMc M_X12_breath) 37 = .ok (.iadd, 1) := by decide +kernel
theorem d_X12_breath_38 : decode (qMc M_X12_breath) 38 = .ok (.iaload, 1) := by decide +kernel
theorem d_X12_breath_39 : decode (qMc M_X12_breath) 39 = .ok (.aload_n 0, 1) := by decide +kernel
theorem d_X12_breath_40 : decode (qMc M_X12_breath) 40 = .ok (.getfield 44, 3) := by decide +kernel
theorem d_X12_breath_43 : decode (qMc M_X12_breath) 43 = .ok (.sipush 160, 3) := by decide +kernel
theorem d_X12_breath_46 : decode (qMc M_X12_breath) 46 = .ok (.iaload, 1) := by decide +kernel
theorem d_X12_breath_47 : decode (qMc M_X12_breath) 47 = .ok (.if_icmp .ge 37, 3) := by decide +kernel
theorem d_X12_breath_50 : decode (qMc M_X12_breath) 50 = .ok (.aload_n 0, 1) := by decide +kernel
theorem d_X12_breath_51 : decode (qMc M_X12_breath) 51 = .ok (.aload_n 0, 1) := by decide +kernel
theorem d_X12_breath_52 : decode (qMc M_X12_breath) 52 = .ok (.getfield 32, 3) := by decide +kernel
theorem d_X12_breath_55 : decode (qMc M_X12_breath) 55 = .ok (.iconst 4, 1) := by decide +kernel
theorem d_X12_breath_56 : decode (qMc M_X12_breath) 56 = .ok (.iload_n 1, 1) := by decide +kernel
theorem d_X12_breath_57 : decode (qMc M_X12_breath) 57 = .ok (.imul, 1) := by decide +kernel
theorem d_X12_breath_58 : decode (qMc M_X12_breath) 58 = .ok (.iconst 1, 1) := by decide +kernel
theorem d_X12_breath_59 : decode (qMc M_X12_breath) 59 = .ok (.iadd, 1) := by decide +kernel
theorem d_X12_breath_60 : decode (qMc M_X12_breath) 60 = .ok (.iaload, 1) := by decide +kernel
theorem d_X12_breath_61 : decode (qMc M_X12_breath) 61 = .ok (.aload_n 0, 1) := by decide +kernel
theorem d_X12_breath_62 : decode (qMc M_X12_breath) 62 = .ok (.getfield 32, 3) := by decide +kernel
theorem d_X12_breath_65 : decode (qMc M_X12_breath) 65 = .ok (.iconst 4, 1) := by decide +kernel
theorem d_X12_breath_66 : decode (qMc M_X12_breath) 66 = .ok (.iload_n 1, 1) := by decide +kernel
theorem d_X12_breath_67 : decode (qMc M_X12_breath) 67 = .ok (.imul, 1) := by decide +kernel
theorem d_X12_breath_68 : decode (qMc M_X12_breath) 68 = .ok (.iconst 2, 1) := by decide +kernel
theorem d_X12_breath_69 : decode (qMc M_X12_breath) 69 = .ok (.iadd, 1) := by decide +kernel
theorem d_X12_breath_70 : decode (qMc M_X12_breath) 70 = .ok (.iaload, 1) := by decide +kernel
theorem d_X12_breath_71 : decode (qMc M_X12_breath) 71 = .ok (.aload_n 0, 1) := by decide +kernel
theorem d_X12_breath_72 : decode (qMc M_X12_breath) 72 = .ok (.getfield 32, 3) := by decide +kernel
theorem d_X12_breath_75 : decode (qMc M_X12_breath) 75 = .ok (.iconst 4, 1) := by decide +kernel
theorem d_X12_breath_76 : decode (qMc M_X12_breath) 76 = .ok (.iload_n 1, 1) := by decide +kernel
theorem d_X12_breath_77 : decode (qMc M_X12_breath) 77 = .ok (.imul, 1) := by decide +kernel
theorem d_X12_breath_78 : decode (qMc M_X12_breath) 78 = .ok (.iconst 3, 1) := by decide +kernel
theorem d_X12_breath_79 : decode (qMc M_X12_breath) 79 = .ok (.iadd, 1) := by decide +kernel
theorem d_X12_breath_80 : decode (qMc M_X12_breath) 80 = .ok (.iaload, 1) := by decide +kernel
theorem d_X12_breath_81 : decode (qMc M_X12_breath) 81 = .ok (.invokevirtual 289, 3) := by decide +kernel
theorem d_X12_breath_84 : decode (qMc M_X12_breath) 84 = .ok (.iinc 1 1, 3) := by decide +kernel
theorem d_X12_breath_87 : decode (qMc M_X12_breath) 87 = .ok (.goto (-85), 3) := by decide +kernel
theorem d_X12_breath_90 : decode (qMc M_X12_breath) 90 = .ok (.aload_n 0, 1) := by decide +kernel
theorem d_X12_breath_91 : decode (qMc M_X12_breath) 91 = .ok (.getfield 44, 3) := by decide +kernel
theorem d_X12_breath_94 : decode (qMc M_X12_breath) 94 = .ok (.sipush 163, 3) := by decide +kernel
theorem d_X12_breath_97 : decode (qMc M_X12_breath) 97 = .ok (.dup2, 1) := by decide +kernel
theorem d_X12_breath_98 : decode (qMc M_X12_breath) 98 = .ok (.iaload, 1) := by decide +kernel
theorem d_X12_breath_99 : decode (qMc M_X12_breath) 99 = .ok (.aload_n 0, 1) := by decide +kernel
theorem d_X12_breath_100 : decode (qMc M_X12_breath) 100 = .ok (.aload_n 0, 1) := by decide +kernel
theorem d_X12_breath_101 : decode (qMc M_X12_breath) 101 = .ok (.getfield 44, 3) := by decide +kernel
theorem d_X12_breath_104 : decode (qMc M_X12_breath) 104 = .ok (.invokevirtual 299, 3) := by decide +kernel
theorem d_X12_breath_107 : decode (qMc M_X12_breath) 107 = .ok (.iadd, 1) := by decide +kernel
theorem d_X12_breath_108 : decode (qMc M_X12_breath) 108 = .ok (.iastore, 1) := by decide +kernel
theorem d_X12_breath_109 : decode (qMc M_X12_breath) 109 = .ok (.aload_n 0, 1) := by decide +kernel
theorem d_X12_breath_110 : decode (qMc M_X12_breath) 110 = .ok (.getfield 44, 3) := by decide +kernel
theorem d_X12_breath_113 : decode (qMc M_X12_breath) 113 = .ok (.aload_n 0, 1) := by decide +kernel
theorem d_X12_breath_114 : decode (qMc M_X12_breath) 114 = .ok (.getfield 44, 3) := by decide +kernel
theorem d_X12_breath_117 : decode (qMc M_X12_breath) 117 = .ok (.sipush 160, 3) := by decide +kernel
theorem d_X12_breath_120 : decode (qMc M_X12_breath) 120 = .ok (.iaload, 1) := by decide +kernel
theorem d_X12_breath_121 : decode (qMc M_X12_breath) 121 = .ok (.invokestatic 302, 3) := by decide +kernel
theorem d_X12_breath_124 : decode (qMc M_X12_breath) 124 = .ok (.istore_n 1, 1) := by decide +kernel
theorem d_X12_breath_125 : decode (qMc M_X12_breath) 125 = .ok (.aload_n 0, 1) := by decide +kernel
theorem d_X12_breath_126 : decode (qMc M_X12_breath) 126 = .ok (.getfield 44, 3) := by decide +kernel
theorem d_X12_breath_129 : decode (qMc M_X12_breath) 129 = .ok (.sipush 164, 3) := by decide +kernel
theorem d_X12_breath_132 : decode (qMc M_X12_breath) 132 = .ok (.iaload, 1) := by decide +kernel
theorem d_X12_breath_133 : decode (qMc M_X12_breath) 133 = .ok (.iconst (-1), 1) := by decide +kernel
theorem d_X12_breath_134 : decode (qMc M_X12_breath) 134 = .ok (.if_icmp .ne 55, 3) := by decide +kernel
theorem d_X12_breath_137 : decode (qMc M_X12_breath) 137 = .ok (.iload_n 1, 1) := by decide +kernel
theorem d_X12_breath_138 : decode (qMc M_X12_breath) 138 = .ok (.ifCond .le 51, 3) := by decide +kernel
theorem d_X12_breath_141 : decode (qMc M_X12_breath) 141 = .ok (.aload_n 0, 1) := by decide +kernel
theorem d_X12_breath_142 : decode (qMc M_X12_breath) 142 = .ok (.getfield 44, 3) := by decide +kernel
theorem d_X12_breath_145 : decode (qMc M_X12_breath) 145 = .ok (.sipush 164, 3) := by decide +kernel
theorem d_X12_breath_148 : decode (qMc M_X12_breath) 148 = .ok (.aload_n 0, 1) := by decide +kernel
theorem d_X12_breath_149 : decode (qMc M_X12_breath) 149 = .ok (.getfield 44, 3) := by decide +kernel
theorem d_X12_breath_152 : decode (qMc M_X12_breath) 152 = .ok (.sipush 162, 3) := by decide +kernel
theorem d_X12_breath_155 : decode (qMc M_X12_breath) 155 = .ok (.iaload, 1) := by decide +kernel
theorem d_X12_breath_156 : decode (qMc M_X12_breath) 156 = .ok (.iastore, 1) := by decide +kernel
theorem d_X12_breath_157 : decode (qMc M_X12_breath) 157 = .ok (.aload_n 0, 1) := by decide +kernel
theorem d_X12_breath_158 : decode (qMc M_X12_breath) 158 = .ok (.getfield 44, 3) := by decide +kernel
theorem d_X12_breath_161 : decode (qMc M_X12_breath) 161 = .ok (.sipush 165, 3) := by decide +kernel
theorem d_X12_breath_164 : decode (qMc M_X12_breath) 164 = .ok (.iload_n 1, 1) := by decide +kernel
theorem d_X12_breath_165 : decode (qMc M_X12_breath) 165 = .ok (.iastore, 1) := by decide +kernel
theorem d_X12_breath_166 : decode (qMc M_X12_breath) 166 = .ok (.aload_n 0, 1) := by decide +kernel
theorem d_X12_breath_167 : decode (qMc M_X12_breath) 167 = .ok (.bipush 6, 2) := by decide +kernel
theorem d_X12_breath_169 : decode (qMc M_X12_breath) 169 = .ok (.aload_n 0, 1) := by decide +kernel
theorem d_X12_breath_170 : decode (qMc M_X12_breath) 170 = .ok (.getfield 44, 3) := by decide +kernel
theorem d_X12_breath_173 : decode (qMc M_X12_breath) 173 = .ok (.aload_n 0, 1) := by decide +kernel
theorem d_X12_breath_174 : decode (qMc M_X12_breath) 174 = .ok (.getfield 44, 3) := by decide +kernel
theorem d_X12_breath_177 : decode (qMc M_X12_breath) 177 = .ok (.sipush 160, 3) := by decide +kernel
theorem d_X12_breath_180 : decode (qMc M_X12_breath) 180 = .ok (.iaload, 1) := by decide +kernel
theorem d_X12_breath_181 : decode (qMc M_X12_breath) 181 = .ok (.iconst 1, 1) := by decide +kernel
theorem d_X12_breath_182 : decode (qMc M_X12_breath) 182 = .ok (.invokestatic 306, 3) := by decide +kernel
theorem d_X12_breath_185 : decode (qMc M_X12_breath) 185 = .ok (.iload_n 1, 1) := by decide +kernel
theorem d_X12_breath_186 : decode (qMc M_X12_breath) 186 = .ok (.invokevirtual 282, 3) := by decide +kernel
theorem d_X12_breath_189 : decode (qMc M_X12_breath) 189 = .ok (.aload_n 0, 1) := by decide +kernel
theorem d_X12_breath_190 : decode (qMc M_X12_breath) 190 = .ok (.getfield 44, 3) := by decide +kernel
theorem d_X12_breath_193 : decode (qMc M_X12_breath) 193 = .ok (.sipush 162, 3) := by decide +kernel
theorem d_X12_breath_196 : decode (qMc M_X12_breath) 196 = .ok (.dup2, 1) := by decide +kernel
theorem d_X12_breath_197 : decode (qMc M_X12_breath) 197 = .ok (.iaload, 1) := by decide +kernel
theorem d_X12_breath_198 : decode (qMc M_X12_breath) 198 = .ok (.iconst 1, 1) := by decide +kernel
theorem d_X12_breath_199 : decode (qMc M_X12_breath) 199 = .ok (.iadd, 1) := by decide +kernel
theorem d_X12_breath_200 : decode (qMc M_X12_breath) 200 = .ok (.iastore, 1) := by decide +kernel
theorem d_X12_breath_201 : decode (qMc M_X12_breath) 201 = .ok (.return_, 1) := by decide +kernel
theorem d_X12_breaths_0 : decode (qMc M_X12_breaths) 0 = .ok (.aload_n 0, 1) := by decide +kernel
theorem d_X12_breaths_1 : decode (qMc M_X12_breaths) 1 = .ok (.iconst 0, 1) := by decide +kernel
theorem d_X12_breaths_2 : decode (qMc M_X12_breaths) 2 = .ok (.putfield 127, 3) := by decide +kernel
theorem d_X12_breaths_5 : decode (qMc M_X12_breaths) 5 = .ok (.iload_n 1, 1) := by decide +kernel
theorem d_X12_breaths_6 : decode (qMc M_X12_breaths) 6 = .ok (.iconst 1, 1) := by decide +kernel
theorem d_X12_breaths_7 : decode (qMc M_X12_breaths) 7 = .ok (.bipush 60, 2) := by decide +kernel
theorem d_X12_breaths_9 : decode (qMc M_X12_breaths) 9 = .ok (.invokestatic 137, 3) := by decide +kernel
theorem d_X12_breaths_12 : decode (qMc M_X12_breaths) 12 = .ok (.ifCond .eq 19, 3) := by decide +kernel
theorem d_X12_breaths_15 : decode (qMc M_X12_breaths) 15 = .ok (.aload_n 0, 1) := by decide +kernel
theorem d_X12_breaths_16 : decode (qMc M_X12_breaths) 16 = .ok (.getfield 44, 3) := by decide +kernel
theorem d_X12_breaths_19 : decode (qMc M_X12_breaths) 19 = .ok (.sipush 162, 3) := by decide +kernel
theorem d_X12_breaths_22 : decode (qMc M_X12_breaths) 22 = .ok (.iaload, 1) := by decide +kernel
theorem d_X12_breaths_23 : decode (qMc M_X12_breaths) 23 = .ok (.iload_n 1, 1) := by decide +kernel
theorem d_X12_breaths_24 : decode (qMc M_X12_breaths) 24 = .ok (.iadd, 1) := by decide +kernel
theorem d_X12_breaths_25 : decode (qMc M_X12_breaths) 25 = .ok (.sipush 9999, 3) := by decide +kernel
theorem d_X12_breaths_28 : decode (qMc M_X12_breaths) 28 = .ok (.if_icmp .le 5, 3) := by decide +kernel
theorem d_X12_breaths_31 : decode (qMc M_X12_breaths) 31 = .ok (.iconst (-1), 1) := by decide +kernel
theorem d_X12_breaths_32 : decode (qMc M_X12_breaths) 32 = .ok (.ireturn, 1) := by decide +kernel
theorem d_X12_breaths_33 : decode (qMc M_X12_breaths) 33 = .ok (.aload_n 0, 1) := by decide +kernel
theorem d_X12_breaths_34 : decode (qMc M_X12_breaths) 34 = .ok (.invokevirtual 275, 3) := by decide +kernel
theorem d_X12_breaths_37 : decode (qMc M_X12_breaths) 37 = .ok (.iconst 0, 1) := by decide +kernel
theorem d_X12_breaths_38 : decode (qMc M_X12_breaths) 38 = .ok (.istore_n 2, 1) := by decide +kernel
theorem d_X12_breaths_39 : decode (qMc M_X12_breaths) 39 = .ok (.iload_n 2, 1) := by decide +kernel
theorem d_X12_breaths_40 : decode (qMc M_X12_breaths) 40 = .ok (.iload_n 1, 1) := by decide +kernel
theorem d_X12_breaths_41 : decode (qMc M_X12_breaths) 41 = .ok (.if_icmp .ge 17, 3) := by decide +kernel
theorem d_X12_breaths_44 : decode (qMc M_X12_breaths) 44 = .ok (.aload_n 0, 1) := by decide +kernel
theorem d_X12_breaths_45 : decode (qMc M_X12_breaths) 45 = .ok (.invokevirtual 286, 3) := by decide +kernel
theorem d_X12_breaths_48 : decode (qMc M_X12_breaths) 48 = .ok (.aload_n 0, 1) := by decide +kernel
theorem d_X12_breaths_49 : decode (qMc M_X12_breaths) 49 = .ok (.invokevirtual 310, 3) := by decide +kernel
theorem d_X12_breaths_52 : decode (qMc M_X12_breaths) 52 = .ok (.iinc 2 1, 3) := by decide +kernel
theorem d_X12_breaths_55 : decode (qMc M_X12_breaths) 55 = .ok (.goto (-16), 3) := by decide +kernel
theorem d_X12_breaths_58 : decode (qMc M_X12_breaths) 58 = .ok (.aload_n 0, 1) := by decide +kernel
theorem d_X12_breaths_59 : decode (qMc M_X12_breaths) 59 = .ok (.getfield 44, 3) := by decide +kernel
theorem d_X12_breaths_62 : decode (qMc M_X12_breaths) 62 = .ok (.aload_n 0, 1) := by decide +kernel
theorem d_X12_breaths_63 : decode (qMc M_X12_breaths) 63 = .ok (.getfield 44, 3) := by decide +kernel
theorem d_X12_breaths_66 : decode (qMc M_X12_breaths) 66 = .ok (.sipush 160, 3) := by decide +kernel
theorem d_X12_breaths_69 : decode (qMc M_X12_breaths) 69 = .ok (.iaload, 1) := by decide +kernel
theorem d_X12_breaths_70 : decode (qMc M_X12_breaths) 70 = .ok (.invokestatic 302, 3) := by decide +kernel
theorem d_X12_breaths_73 : decode (qMc M_X12_breaths) 73 = .ok (.ireturn, 1) := by decide +kernel
theorem d_X12_of_0 : decode (qMc M_X12_of) 0 = .ok (.aload_n 0, 1) := by decide +kernel
theorem d_X12_of_1 : decode (qMc M_X12_of) 1 = .ok (.iconst 0, 1) := by decide +kernel
theorem d_X12_of_2 : decode (qMc M_X12_of) 2 = .ok (.putfield 127, 3) := by decide +kernel
theorem d_X12_of_5 : decode (qMc M_X12_of) 5 = .ok (.iload_n 1, 1) := by decide +kernel
theorem d_X12_of_6 : decode (qMc M_X12_of) 6 = .ok (.iconst 0, 1) := by decide +kernel
theorem d_X12_of_7 : decode (qMc M_X12_of) 7 = .ok (.aload_n 0, 1) := by decide +kernel
theorem d_X12_of_8 : decode (qMc M_X12_of) 8 = .ok (.getfield 44, 3) := by decide +kernel
theorem d_X12_of_11 : decode (qMc M_X12_of) 11 = .ok (.sipush 160, 3) := by decide +kernel
theorem d_X12_of_14 : decode (qMc M_X12_of) 14 = .ok (.iaload, 1) := by decide +kernel
theorem d_X12_of_15 : decode (qMc M_X12_of) 15 = .ok (.iconst 1, 1) := by decide +kernel
theorem d_X12_of_16 : decode (qMc M_X12_of) 16 = .ok (.isub, 1) := by decide +kernel
theorem d_X12_of_17 : decode (qMc M_X12_of) 17 = .ok (.invokestatic 137, 3) := by decide +kernel
theorem d_X12_of_20 : decode (qMc M_X12_of) 20 = .ok (.ifCond .eq 13, 3) := by decide +kernel
theorem d_X12_of_23 : decode (qMc M_X12_of) 23 = .ok (.iload_n 2, 1) := by decide +kernel
theorem d_X12_of_24 : decode (qMc M_X12_of) 24 = .ok (.iconst 0, 1) := by decide +kernel
theorem d_X12_of_25 : decode (qMc M_X12_of) 25 = .ok (.bipush 6, 2) := by decide +kernel
theorem d_X12_of_27 : decode (qMc M_X12_of) 27 = .ok (.invokestatic 137, 3) := by decide +kernel
theorem d_X12_of_30 : decode (qMc M_X12_of) 30 = .ok (.ifCond .ne 5, 3) := by decide +kernel
theorem d_X12_of_33 : decode (qMc M_X12_of) 33 = .ok (.iconst (-1), 1) := by decide +kernel
theorem d_X12_of_34 : decode (qMc M_X12_of) 34 = .ok (.ireturn, 1) := by decide +kernel
theorem d_X12_of_35 : decode (qMc M_X12_of) 35 = .ok (.iload_n 2, 1) := by decide +kernel
theorem d_X12_of_36 : decode (qMc M_X12_of) 36 = .ok (.tableswitch 86 0 4 #[36, 45, 55, 65, 75], 36) := by decide +kernel
theorem d_X12_of_72 : decode (qMc M_X12_of) 72 = .ok (.aload_n 0, 1) := by decide +kernel
theorem d_X12_of_73 : decode (qMc M_X12_of) 73 = .ok (.getfield 44, 3) := by decide +kernel
theorem d_X12_of_76 : decode (qMc M_X12_of) 76 = .ok (.iconst 0, 1) := by decide +kernel
theorem d_X12_of_77 : decode (qMc M_X12_of) 77 = .ok (.iload_n 1, 1) := by decide +kernel
theorem d_X12_of_78 : decode (qMc M_X12_of) 78 = .ok (.iadd, 1) := by decide +kernel
theorem d_X12_of_79 : decode (qMc M_X12_of) 79 = .ok (.iaload, 1) := by decide +kernel
theorem d_X12_of_80 : decode (qMc M_X12_of) 80 = .ok (.ireturn, 1) := by decide +kernel
theorem d_X12_of_81 : decode (qMc M_X12_of) 81 = .ok (.aload_n 0, 1) := by decide +kernel
theorem d_X12_of_82 : decode (qMc M_X12_of) 82 = .ok (.getfield 44, 3) := by decide +kernel
theorem d_X12_of_85 : decode (qMc M_X12_of) 85 = .ok (.bipush 32, 2) := by decide +kernel
theorem d_X12_of_87 : decode (qMc M_X12_of) 87 = .ok (.iload_n 1, 1) := by decide +kernel
theorem d_X12_of_88 : decode (qMc M_X12_of) 88 = .ok (.iadd, 1) := by decide +kernel
theorem d_X12_of_89 : decode (qMc M_X12_of) 89 = .ok (.iaload, 1) := by decide +kernel
theorem d_X12_of_90 : decode (qMc M_X12_of) 90 = .ok (.ireturn, 1) := by decide +kernel
theorem d_X12_of_91 : decode (qMc M_X12_of) 91 = .ok (.aload_n 0, 1) := by decide +kernel
theorem d_X12_of_92 : decode (qMc M_X12_of) 92 = .ok (.getfield 44, 3) := by decide +kernel
theorem d_X12_of_95 : decode (qMc M_X12_of) 95 = .ok (.bipush 64, 2) := by decide +kernel
theorem d_X12_of_97 : decode (qMc M_X12_of) 97 = .ok (.iload_n 1, 1) := by decide +kernel
theorem d_X12_of_98 : decode (qMc M_X12_of) 98 = .ok (.iadd, 1) := by decide +kernel
theorem d_X12_of_99 : decode (qMc M_X12_of) 99 = .ok (.iaload, 1) := by decide +kernel
theorem d_X12_of_100 : decode (qMc M_X12_of) 100 = .ok (.ireturn, 1) := by decide +kernel
theorem d_X12_of_101 : decode (qMc M_X12_of) 101 = .ok (.aload_n 0, 1) := by decide +kernel
theorem d_X12_of_102 : decode (qMc M_X12_of) 102 = .ok (.getfield 44, 3) := by decide +kernel
theorem d_X12_of_105 : decode (qMc M_X12_of) 105 = .ok (.bipush 96, 2) := by decide +kernel
theorem d_X12_of_107 : decode (qMc M_X12_of) 107 = .ok (.iload_n 1, 1) := by decide +kernel
theorem d_X12_of_108 : decode (qMc M_X12_of) 108 = .ok (.iadd, 1) := by decide +kernel
theorem d_X12_of_109 : decode (qMc M_X12_of) 109 = .ok (.iaload, 1) := by decide +kernel
theorem d_X12_of_110 : decode (qMc M_X12_of) 110 = .ok (.ireturn, 1) := by decide +kernel
theorem d_X12_of_111 : decode (qMc M_X12_of) 111 = .ok (.aload_n 0, 1) := by decide +kernel
theorem d_X12_of_112 : decode (qMc M_X12_of) 112 = .ok (.getfield 44, 3) := by decide +kernel
theorem d_X12_of_115 : decode (qMc M_X12_of) 115 = .ok (.sipush 128, 3) := by decide +kernel
theorem d_X12_of_118 : decode (qMc M_X12_of) 118 = .ok (.iload_n 1, 1) := by decide +kernel
theorem d_X12_of_119 : decode (qMc M_X12_of) 119 = .ok (.iadd, 1) := by decide +kernel
theorem d_X12_of_120 : decode (qMc M_X12_of) 120 = .ok (.iaload, 1) := by decide +kernel
theorem d_X12_of_121 : decode (qMc M_X12_of) 121 = .ok (.ireturn, 1) := by decide +kernel
theorem d_X12_of_122 : decode (qMc M_X12_of) 122 = .ok (.aload_n 0, 1) := by decide +kernel
theorem d_X12_of_123 : decode (qMc M_X12_of) 123 = .ok (.getfield 44, 3) := by decide +kernel
theorem d_X12_of_126 : decode (qMc M_X12_of) 126 = .ok (.iload_n 1, 1) := by decide +kernel
theorem d_X12_of_127 : decode (qMc M_X12_of) 127 = .ok (.iload_n 2, 1) := by decide +kernel
theorem d_X12_of_128 : decode (qMc M_X12_of) 128 = .ok (.iconst 5, 1) := by decide +kernel
theorem d_X12_of_129 : decode (qMc M_X12_of) 129 = .ok (.isub, 1) := by decide +kernel
theorem d_X12_of_130 : decode (qMc M_X12_of) 130 = .ok (.invokestatic 296, 3) := by decide +kernel
theorem d_X12_of_133 : decode (qMc M_X12_of) 133 = .ok (.ireturn, 1) := by decide +kernel
theorem d_X12_log_0 : decode (qMc M_X12_log) 0 = .ok (.aload_n 0, 1) := by decide +kernel
theorem d_X12_log_1 : decode (qMc M_X12_log) 1 = .ok (.iconst 0, 1) := by decide +kernel
theorem d_X12_log_2 : decode (qMc M_X12_log) 2 = .ok (.putfield 127, 3) := by decide +kernel
theorem d_X12_log_5 : decode (qMc M_X12_log) 5 = .ok (.iload_n 1, 1) := by decide +kernel
theorem d_X12_log_6 : decode (qMc M_X12_log) 6 = .ok (.iconst 0, 1) := by decide +kernel
theorem d_X12_log_7 : decode (qMc M_X12_log) 7 = .ok (.aload_n 0, 1) := by decide +kernel
theorem d_X12_log_8 : decode (qMc M_X12_log) 8 = .ok (.getfield 44, 3) := by decide +kernel
theorem d_X12_log_11 : decode (qMc M_X12_log) 11 = .ok (.sipush 166, 3) := by decide +kernel
theorem d_X12_log_14 : decode (qMc M_X12_log) 14 = .ok (.iaload, 1) := by decide +kernel
theorem d_X12_log_15 : decode (qMc M_X12_log) 15 = .ok (.iconst 1, 1) := by decide +kernel
theorem d_X12_log_16 : decode (qMc M_X12_log) 16 = .ok (.isub, 1) := by decide +kernel
theorem d_X12_log_17 : decode (qMc M_X12_log) 17 = .ok (.invokestatic 137, 3) := by decide +kernel
theorem d_X12_log_20 : decode (qMc M_X12_log) 20 = .ok (.ifCond .eq 25, 3) := by decide +kernel
theorem d_X12_log_23 : decode (qMc M_X12_log) 23 = .ok (.iload_n 2, 1) := by decide +kernel
theorem d_X12_log_24 : decode (qMc M_X12_log) 24 = .ok (.iconst 0, 1) := by decide +kernel
theorem d_X12_log_25 : decode (qMc M_X12_log) 25 = .ok (.iconst 3, 1) := by decide +kernel
theorem d_X12_log_26 : decode (qMc M_X12_log) 26 = .ok (.invokestatic 137, 3) := by decide +kernel
theorem d_X12_log_29 : decode (qMc M_X12_log) 29 = .ok (.ifCond .eq 16, 3) := by decide +kernel
theorem d_X12_log_32 : decode (qMc M_X12_log) 32 = .ok (.aload_n 0, 1) := by decide +kernel
theorem d_X12_log_33 : decode (qMc M_X12_log) 33 = .ok (.getfield 50, 3) := by decide +kernel
theorem d_X12_log_36 : decode (qMc M_X12_log) 36 = .ok (.iconst 4, 1) := by decide +kernel
theorem d_X12_log_37 : decode (qMc M_X12_log) 37 = .ok (.iload_n 1, 1) := by decide +kernel
theorem d_X12_log_38 : decode (qMc M_X12_log) 38 = .ok (.imul, 1) := by decide +kernel
theorem d_X12_log_39 : decode (qMc M_X12_log) 39 = .ok (.iload_n 2, 1) := by decide +kernel
theorem d_X12_log_40 : decode (qMc M_X12_log) 40 = .ok (.iadd, 1) := by decide +kernel
theorem d_X12_log_41 : decode (qMc M_X12_log) 41 = .ok (.iaload, 1) := by decide +kernel
theorem d_X12_log_42 : decode (qMc M_X12_log) 42 = .ok (.goto 4, 3) := by decide +kernel
theorem d_X12_log_45 : decode (qMc M_X12_log) 45 = .ok (.iconst (-1), 1) := by decide +kernel
theorem d_X12_log_46 : decode (qMc M_X12_log) 46 = .ok (.ireturn, 1) := by decide +kernel
theorem d_X12_look_0 : decode (qMc M_X12_look) 0 = .ok (.aload_n 0, 1) := by decide +kernel
theorem d_X12_look_1 : decode (qMc M_X12_look) 1 = .ok (.iconst 0, 1) := by decide +kernel
theorem d_X12_look_2 : decode (qMc M_X12_look) 2 = .ok (.putfield 127, 3) := by decide +kernel
theorem d_X12_look_5 : decode (qMc M_X12_look) 5 = .ok (.iload_n 1, 1) := by decide +kernel
theorem d_X12_look_6 : decode (qMc M_X12_look) 6 = .ok (.tableswitch 190 0 15 #[78, 87, 96, 105, 114, 123, 132, 148, 157, 157, 157, 157, 167, 172, 177, 185], 78) := by decide +kernel
theorem d_X12_look_84 : decode (qMc M_X12_look) 84 = .ok (.aload_n 0, 1) := by decide +kernel
theorem d_X12_look_85 : decode (qMc M_X12_look) 85 = .ok (.getfield 44, 3) := by decide +kernel
theorem d_X12_look_88 : decode (qMc M_X12_look) 88 = .ok (.sipush 160, 3) := by decide +kernel
theorem d_X12_look_91 : decode (qMc M_X12_look) 91 = .ok (.iaload, 1) := by decide +kernel
theorem d_X12_look_92 : decode (qMc M_X12_look) 92 = .ok (.ireturn, 1) := by decide +kernel
theorem d_X12_look_93 : decode (qMc M_X12_look) 93 = .ok (.aload_n 0, 1) := by decide +kernel
theorem d_X12_look_94 : decode (qMc M_X12_look) 94 = .ok (.getfield 44, 3) := by decide +kernel
theorem d_X12_look_97 : decode (qMc M_X12_look) 97 = .ok (.sipush 161, 3) := by decide +kernel
theorem d_X12_look_100 : decode (qMc M_X12_look) 100 = .ok (.iaload, 1) := by decide +kernel
theorem d_X12_look_101 : decode (qMc M_X12_look) 101 = .ok (.ireturn, 1) := by decide +kernel
theorem d_X12_look_102 : decode (qMc M_X12_look) 102 = .ok (.aload_n 0, 1) := by decide +kernel
theorem d_X12_look_103 : decode (qMc M_X12_look) 103 = .ok (.getfield 44, 3) := by decide +kernel
theorem d_X12_look_106 : decode (qMc M_X12_look) 106 = .ok (.sipush 162, 3) := by decide +kernel
theorem d_X12_look_109 : decode (qMc M_X12_look) 109 = .ok (.iaload, 1) := by decide +kernel
theorem d_X12_look_110 : decode (qMc M_X12_look) 110 = .ok (.ireturn, 1) := by decide +kernel
theorem d_X12_look_111 : decode (qMc M_X12_look) 111 = .ok (.aload_n 0, 1) := by decide +kernel
theorem d_X12_look_112 : decode (qMc M_X12_look) 112 = .ok (.getfield 44, 3) := by decide +kernel
theorem d_X12_look_115 : decode (qMc M_X12_look) 115 = .ok (.sipush 163, 3) := by decide +kernel
theorem d_X12_look_118 : decode (qMc M_X12_look) 118 = .ok (.iaload, 1) := by decide +kernel
theorem d_X12_look_119 : decode (qMc M_X12_look) 119 = .ok (.ireturn, 1) := by decide +kernel
theorem d_X12_look_120 : decode (qMc M_X12_look) 120 = .ok (.aload_n 0, 1) := by decide +kernel
theorem d_X12_look_121 : decode (qMc M_X12_look) 121 = .ok (.getfield 44, 3) := by decide +kernel
theorem d_X12_look_124 : decode (qMc M_X12_look) 124 = .ok (.sipush 164, 3) := by decide +kernel
theorem d_X12_look_127 : decode (qMc M_X12_look) 127 = .ok (.iaload, 1) := by decide +kernel
theorem d_X12_look_128 : decode (qMc M_X12_look) 128 = .ok (.ireturn, 1) := by decide +kernel
theorem d_X12_look_129 : decode (qMc M_X12_look) 129 = .ok (.aload_n 0, 1) := by decide +kernel
theorem d_X12_look_130 : decode (qMc M_X12_look) 130 = .ok (.getfield 44, 3) := by decide +kernel
theorem d_X12_look_133 : decode (qMc M_X12_look) 133 = .ok (.sipush 165, 3) := by decide +kernel
theorem d_X12_look_136 : decode (qMc M_X12_look) 136 = .ok (.iaload, 1) := by decide +kernel
theorem d_X12_look_137 : decode (qMc M_X12_look) 137 = .ok (.ireturn, 1) := by decide +kernel
theorem d_X12_look_138 : decode (qMc M_X12_look) 138 = .ok (.aload_n 0, 1) := by decide +kernel
theorem d_X12_look_139 : decode (qMc M_X12_look) 139 = .ok (.getfield 44, 3) := by decide +kernel
theorem d_X12_look_142 : decode (qMc M_X12_look) 142 = .ok (.aload_n 0, 1) := by decide +kernel
theorem d_X12_look_143 : decode (qMc M_X12_look) 143 = .ok (.getfield 44, 3) := by decide +kernel
theorem d_X12_look_146 : decode (qMc M_X12_look) 146 = .ok (.sipush 160, 3) := by decide +kernel
theorem d_X12_look_149 : decode (qMc M_X12_look) 149 = .ok (.iaload, 1) := by decide +kernel
theorem d_X12_look_150 : decode (qMc M_X12_look) 150 = .ok (.invokestatic 302, 3) := by decide +kernel
theorem d_X12_look_153 : decode (qMc M_X12_look) 153 = .ok (.ireturn, 1) := by decide +kernel
theorem d_X12_look_154 : decode (qMc M_X12_look) 154 = .ok (.aload_n 0, 1) := by decide +kernel
theorem d_X12_look_155 : decode (qMc M_X12_look) 155 = .ok (.getfield 44, 3) := by decide +kernel
theorem d_X12_look_158 : decode (qMc M_X12_look) 158 = .ok (.sipush 166, 3) := by decide +kernel
theorem d_X12_look_161 : decode (qMc M_X12_look) 161 = .ok (.iaload, 1) := by decide +kernel
theorem d_X12_look_162 : decode (qMc M_X12_look) 162 = .ok (.ireturn, 1) := by decide +kernel
theorem d_X12_look_163 : decode (qMc M_X12_look) 163 = .ok (.aload_n 0, 1) := by decide +kernel
theorem d_X12_look_164 : decode (qMc M_X12_look) 164 = .ok (.getfield 26, 3) := by decide +kernel
theorem d_X12_look_167 : decode (qMc M_X12_look) 167 = .ok (.iload_n 1, 1) := by decide +kernel
theorem d_X12_look_168 : decode (qMc M_X12_look) 168 = .ok (.bipush 8, 2) := by decide +kernel
theorem d_X12_look_170 : decode (qMc M_X12_look) 170 = .ok (.isub, 1) := by decide +kernel
theorem d_X12_look_171 : decode (qMc M_X12_look) 171 = .ok (.iaload, 1) := by decide +kernel
theorem d_X12_look_172 : decode (qMc M_X12_look) 172 = .ok (.ireturn, 1) := by decide +kernel
theorem d_X12_look_173 : decode (qMc M_X12_look) 173 = .ok (.aload_n 0, 1) := by decide +kernel
theorem d_X12_look_174 : decode (qMc M_X12_look) 174 = .ok (.getfield 246, 3) := by decide +kernel
theorem d_X12_look_177 : decode (qMc M_X12_look) 177 = .ok (.ireturn, 1) := by decide +kernel
theorem d_X12_look_178 : decode (qMc M_X12_look) 178 = .ok (.aload_n 0, 1) := by decide +kernel
theorem d_X12_look_179 : decode (qMc M_X12_look) 179 = .ok (.getfield 253, 3) := by decide +kernel
theorem d_X12_look_182 : decode (qMc M_X12_look) 182 = .ok (.ireturn, 1) := by decide +kernel
theorem d_X12_look_183 : decode (qMc M_X12_look) 183 = .ok (.aload_n 0, 1) := by decide +kernel
theorem d_X12_look_184 : decode (qMc M_X12_look) 184 = .ok (.getfield 29, 3) := by decide +kernel
theorem d_X12_look_187 : decode (qMc M_X12_look) 187 = .ok (.invokestatic 278, 3) := by decide +kernel
theorem d_X12_look_190 : decode (qMc M_X12_look) 190 = .ok (.ireturn, 1) := by decide +kernel
theorem d_X12_look_191 : decode (qMc M_X12_look) 191 = .ok (.aload_n 0, 1) := by decide +kernel
theorem d_X12_look_192 : decode (qMc M_X12_look) 192 = .ok (.getfield 256, 3) := by decide +kernel
theorem d_X12_look_195 : decode (qMc M_X12_look) 195 = .ok (.ireturn, 1) := by decide +kernel
theorem d_X12_look_196 : decode (qMc M_X12_look) 196 = .ok (.iconst (-1), 1) := by decide +kernel
theorem d_X12_look_197 : decode (qMc M_X12_look) 197 = .ok (.ireturn, 1) := by decide +kernel
theorem d_X12_undo_0 : decode (qMc M_X12_undo) 0 = .ok (.aload_n 0, 1) := by decide +kernel
theorem d_X12_undo_1 : decode (qMc M_X12_undo) 1 = .ok (.iconst 0, 1) := by decide +kernel
theorem d_X12_undo_2 : decode (qMc M_X12_undo) 2 = .ok (.putfield 127, 3) := by decide +kernel
theorem d_X12_undo_5 : decode (qMc M_X12_undo) 5 = .ok (.aload_n 0, 1) := by decide +kernel
theorem d_X12_undo_6 : decode (qMc M_X12_undo) 6 = .ok (.getfield 256, 3) := by decide +kernel
theorem d_X12_undo_9 : decode (qMc M_X12_undo) 9 = .ok (.ifCond .ne 5, 3) := by decide +kernel
theorem d_X12_undo_12 : decode (qMc M_X12_undo) 12 = .ok (.iconst 0, 1) := by decide +kernel
theorem d_X12_undo_13 : decode (qMc M_X12_undo) 13 = .ok (.ireturn, 1) := by decide +kernel
theorem d_X12_undo_14 : decode (qMc M_X12_undo) 14 = .ok (.aload_n 0, 1) := by decide +kernel
theorem d_X12_undo_15 : decode (qMc M_X12_undo) 15 = .ok (.dup, 1) := by decide +kernel
theorem d_X12_undo_16 : decode (qMc M_X12_undo) 16 = .ok (.getfield 256, 3) := by decide +kernel
theorem d_X12_undo_19 : decode (qMc M_X12_undo) 19 = .ok (.iconst 1, 1) := by decide +kernel
theorem d_X12_undo_20 : decode (qMc M_X12_undo) 20 = .ok (.isub, 1) := by decide +kernel
theorem d_X12_undo_21 : decode (qMc M_X12_undo) 21 = .ok (.putfield 256, 3) := by decide +kernel
theorem d_X12_undo_24 : decode (qMc M_X12_undo) 24 = .ok (.iconst 0, 1) := by decide +kernel
theorem d_X12_undo_25 : decode (qMc M_X12_undo) 25 = .ok (.istore_n 1, 1) := by decide +kernel
theorem d_X12_undo_26 : decode (qMc M_X12_undo) 26 = .ok (.iload_n 1, 1) := by decide +kernel
theorem d_X12_undo_27 : decode (qMc M_X12_undo) 27 = .ok (.sipush 167, 3) := by decide +kernel
theorem d_X12_undo_30 : decode (qMc M_X12_undo) 30 = .ok (.if_icmp .ge 30, 3) := by decide +kernel
theorem d_X12_undo_33 : decode (qMc M_X12_undo) 33 = .ok (.aload_n 0, 1) := by decide +kernel
theorem d_X12_undo_34 : decode (qMc M_X12_undo) 34 = .ok (.getfield 44, 3) := by decide +kernel
theorem d_X12_undo_37 : decode (qMc M_X12_undo) 37 = .ok (.iload_n 1, 1) := by decide +kernel
theorem d_X12_undo_38 : decode (qMc M_X12_undo) 38 = .ok (.aload_n 0, 1) := by decide +kernel
theorem d_X12_undo_39 : decode (qMc M_X12_undo) 39 = .ok (.getfield 53, 3) := by decide +kernel
theorem d_X12_undo_42 : decode (qMc M_X12_undo) 42 = .ok (.sipush 167, 3) := by decide +kernel
theorem d_X12_undo_45 : decode (qMc M_X12_undo) 45 = .ok (.aload_n 0, 1) := by decide +kernel
theorem d_X12_undo_46 : decode (qMc M_X12_undo) 46 = .ok (.getfield 256, 3) := by decide +kernel
theorem d_X12_undo_49 : decode (qMc M_X12_undo) 49 = .ok (.imul, 1) := by decide +kernel
theorem d_X12_undo_50 : decode (qMc M_X12_undo) 50 = .ok (.iload_n 1, 1) := by decide +kernel
theorem d_X12_undo_51 : decode (qMc M_X12_undo) 51 = .ok (.iadd, 1) := by decide +kernel
theorem d_X12_undo_52 : decode (qMc M_X12_undo) 52 = .ok (.iaload, 1) := by decide +kernel
theorem d_X12_undo_53 : decode (qMc M_X12_undo) 53 = .ok (.iastore, 1) := by decide +kernel
theorem d_X12_undo_54 : decode (qMc M_X12_undo) 54 = .ok (.iinc 1 1, 3) := by decide +kernel
theorem d_X12_undo_57 : decode (qMc M_X12_undo) 57 = .ok (.goto (-31), 3) := by decide +kernel
theorem d_X12_undo_60 : decode (qMc M_X12_undo) 60 = .ok (.iconst 1, 1) := by decide +kernel
theorem d_X12_undo_61 : decode (qMc M_X12_undo) 61 = .ok (.ireturn, 1) := by decide +kernel
theorem d_X12_image_0 : decode (qMc M_X12_image) 0 = .ok (.aload_n 0, 1) := by decide +kernel
theorem d_X12_image_1 : decode (qMc M_X12_image) 1 = .ok (.iconst 0, 1) := by decide +kernel
theorem d_X12_image_2 : decode (qMc M_X12_image) 2 = .ok (.putfield 127, 3) := by decide +kernel
theorem d_X12_image_5 : decode (qMc M_X12_image) 5 = .ok (.iload_n 1, 1) := by decide +kernel
theorem d_X12_image_6 : decode (qMc M_X12_image) 6 = .ok (.ifCond .eq 133, 3) := by decide +kernel
theorem d_X12_image_9 : decode (qMc M_X12_image) 9 = .ok (.aload_n 0, 1) := by decide +kernel
theorem d_X12_image_10 : decode (qMc M_X12_image) 10 = .ok (.iconst 1, 1) := by decide +kernel
theorem d_X12_image_11 : decode (qMc M_X12_image) 11 = .ok (.putfield 313, 3) := by decide +kernel
theorem d_X12_image_14 : decode (qMc M_X12_image) 14 = .ok (.aload_n 0, 1) := by decide +kernel
theorem d_X12_image_15 : decode (qMc M_X12_image) 15 = .ok (.getfield 44, 3) := by decide +kernel
theorem d_X12_image_18 : decode (qMc M_X12_image) 18 = .ok (.aload_n 0, 1) := by decide +kernel
theorem d_X12_image_19 : decode (qMc M_X12_image) 19 = .ok (.getfield 59, 3) := by decide +kernel
theorem d_X12_image_22 : decode (qMc M_X12_image) 22 = .ok (.invokestatic 249, 3) := by decide +kernel
theorem d_X12_image_25 : decode (qMc M_X12_image) 25 = .ok (.aload_n 0, 1) := by decide +kernel
theorem d_X12_image_26 : decode (qMc M_X12_image) 26 = .ok (.getfield 26, 3) := by decide +kernel
theorem d_X12_image_29 : decode (qMc M_X12_image) 29 = .ok (.aload_n 0, 1) := by decide +kernel
theorem d_X12_image_30 : decode (qMc M_X12_image) 30 = .ok (.getfield 62, 3) := by decide +kernel
theorem d_X12_image_33 : decode (qMc M_X12_image) 33 = .ok (.invokestatic 249, 3) := by decide +kernel
theorem d_X12_image_36 : decode (qMc M_X12_image) 36 = .ok (.aload_n 0, 1) := by decide +kernel
theorem d_X12_image_37 : decode (qMc M_X12_image) 37 = .ok (.getfield 29, 3) := by decide +kernel
theorem d_X12_image_40 : decode (qMc M_X12_image) 40 = .ok (.aload_n 0, 1) := by decide +kernel
theorem d_X12_image_41 : decode (qMc M_X12_image) 41 = .ok (.getfield 65, 3) := by decide +kernel
theorem d_X12_image_44 : decode (qMc M_X12_image) 44 = .ok (.invokestatic 249, 3) := by decide +kernel
theorem d_X12_image_47 : decode (qMc M_X12_image) 47 = .ok (.aload_n 0, 1) := by decide +kernel
theorem d_X12_image_48 : decode (qMc M_X12_image) 48 = .ok (.getfield 38, 3) := by decide +kernel
theorem d_X12_image_51 : decode (qMc M_X12_image) 51 = .ok (.aload_n 0, 1) := by decide +kernel
theorem d_X12_image_52 : decode (qMc M_X12_image) 52 = .ok (.getfield 68, 3) := by decide +kernel
theorem d_X12_image_55 : decode (qMc M_X12_image) 55 = .ok (.invokestatic 249, 3) := by decide +kernel
theorem d_X12_image_58 : decode (qMc M_X12_image) 58 = .ok (.aload_n 0, 1) := by decide +kernel
theorem d_X12_image_59 : decode (qMc M_X12_image) 59 = .ok (.getfield 50, 3) := by decide +kernel
theorem d_X12_image_62 : decode (qMc M_X12_image) 62 = .ok (.aload_n 0, 1) := by decide +kernel
theorem d_X12_image_63 : decode (qMc M_X12_image) 63 = .ok (.getfield 71, 3) := by decide +kernel
theorem d_X12_image_66 : decode (qMc M_X12_image) 66 = .ok (.invokestatic 249, 3) := by decide +kernel
theorem d_X12_image_69 : decode (qMc M_X12_image) 69 = .ok (.aload_n 0, 1) := by decide +kernel
theorem d_X12_image_70 : decode (qMc M_X12_image) 70 = .ok (.getfield 17, 3) := by decide +kernel
theorem d_X12_image_73 : decode (qMc M_X12_image) 73 = .ok (.aload_n 0, 1) := by decide +kernel
theorem d_X12_image_74 : decode (qMc M_X12_image) 74 = .ok (.getfield 74, 3) := by decide +kernel
theorem d_X12_image_77 : decode (qMc M_X12_image) 77 = .ok (.invokestatic 249, 3) := by decide +kernel
theorem d_X12_image_80 : decode (qMc M_X12_image) 80 = .ok (.aload_n 0, 1) := by decide +kernel
theorem d_X12_image_81 : decode (qMc M_X12_image) 81 = .ok (.getfield 20, 3) := by decide +kernel
theorem d_X12_image_84 : decode (qMc M_X12_image) 84 = .ok (.aload_n 0, 1) := by decide +kernel
theorem d_X12_image_85 : decode (qMc M_X12_image) 85 = .ok (.getfield 77, 3) := by decide +kernel
theorem d_X12_image_88 : decode (qMc M_X12_image) 88 = .ok (.invokestatic 249, 3) := by decide +kernel
theorem d_X12_image_91 : decode (qMc M_X12_image) 91 = .ok (.aload_n 0, 1) := by decide +kernel
theorem d_X12_image_92 : decode (qMc M_X12_image) 92 = .ok (.getfield 32, 3) := by decide +kernel
theorem d_X12_image_95 : decode (qMc M_X12_image) 95 = .ok (.aload_n 0, 1) := by decide +kernel
theorem d_X12_image_96 : decode (qMc M_X12_image) 96 = .ok (.getfield 80, 3) := by decide +kernel
theorem d_X12_image_99 : decode (qMc M_X12_image) 99 = .ok (.invokestatic 249, 3) := by decide +kernel
theorem d_X12_image_102 : decode (qMc M_X12_image) 102 = .ok (.aload_n 0, 1) := by decide +kernel
theorem d_X12_image_103 : decode (qMc M_X12_image) 103 = .ok (.getfield 56, 3) := by decide +kernel
theorem d_X12_image_106 : decode (qMc M_X12_image) 106 = .ok (.aload_n 0, 1) := by decide +kernel
theorem d_X12_image_107 : decode (qMc M_X12_image) 107 = .ok (.getfield 83, 3) := by decide +kernel
theorem d_X12_image_110 : decode (qMc M_X12_image) 110 = .ok (.invokestatic 249, 3) := by decide +kernel
theorem d_X12_image_113 : decode (qMc M_X12_image) 113 = .ok (.aload_n 0, 1) := by decide +kernel
theorem d_X12_image_114 : decode (qMc M_X12_image) 114 = .ok (.aload_n 0, 1) := by decide +kernel
theorem d_X12_image_115 : decode (qMc M_X12_image) 115 = .ok (.getfield 246, 3) := by decide +kernel
theorem d_X12_image_118 : decode (qMc M_X12_image) 118 = .ok (.putfield 317, 3) := by decide +kernel
theorem d_X12_image_121 : decode (qMc M_X12_image) 121 = .ok (.aload_n 0, 1) := by decide +kernel
theorem d_X12_image_122 : decode (qMc M_X12_image) 122 = .ok (.aload_n 0, 1) := by decide +kernel
theorem d_X12_image_123 : decode (qMc M_X12_image) 123 = .ok (.getfield 253, 3) := by decide +kernel
theorem d_X12_image_126 : decode (qMc M_X12_image) 126 = .ok (.putfield 320, 3) := by decide +kernel
theorem d_X12_image_129 : decode (qMc M_X12_image) 129 = .ok (.aload_n 0, 1) := by decide +kernel
theorem d_X12_image_130 : decode (qMc M_X12_image) 130 = .ok (.aload_n 0, 1) := by decide +kernel
theorem d_X12_image_131 : decode (qMc M_X12_image) 131 = .ok (.getfield 323, 3) := by decide +kernel
theorem d_X12_image_134 : decode (qMc M_X12_image) 134 = .ok (.putfield 326, 3) := by decide +kernel
theorem d_X12_image_137 : decode (qMc M_X12_image) 137 = .ok (.iconst 1, 1) := by decide +kernel
theorem d_X12_image_138 : decode (qMc M_X12_image) 138 = .ok (.ireturn, 1) := by decide +kernel
theorem d_X12_image_139 : decode (qMc M_X12_image) 139 = .ok (.aload_n 0, 1) := by decide +kernel
theorem d_X12_image_140 : decode (qMc M_X12_image) 140 = .ok (.getfield 313, 3) := by decide +kernel
theorem d_X12_image_143 : decode (qMc M_X12_image) 143 = .ok (.ifCond .ne 5, 3) := by decide +kernel
theorem d_X12_image_146 : decode (qMc M_X12_image) 146 = .ok (.iconst 0, 1) := by decide +kernel
theorem d_X12_image_147 : decode (qMc M_X12_image) 147 = .ok (.ireturn, 1) := by decide +kernel
theorem d_X12_image_148 : decode (qMc M_X12_image) 148 = .ok (.aload_n 0, 1) := by decide +kernel
theorem d_X12_image_149 : decode (qMc M_X12_image) 149 = .ok (.getfield 59, 3) := by decide +kernel
theorem d_X12_image_152 : decode (qMc M_X12_image) 152 = .ok (.aload_n 0, 1) := by decide +kernel
theorem d_X12_image_153 : decode (qMc M_X12_image) 153 = .ok (.getfield 44, 3) := by decide +kernel
theorem d_X12_image_156 : decode (qMc M_X12_image) 156 = .ok (.invokestatic 249, 3) := by decide +kernel
theorem d_X12_image_159 : decode (qMc M_X12_image) 159 = .ok (.aload_n 0, 1) := by decide +kernel
theorem d_X12_image_160 : decode (qMc M_X12_image) 160 = .ok (.getfield 62, 3) := by decide +kernel
theorem d_X12_image_163 : decode (qMc M_X12_image) 163 = .ok (.aload_n 0, 1) := by decide +kernel
theorem d_X12_image_164 : decode (qMc M_X12_image) 164 = .ok (.getfield 26, 3) := by decide +kernel
theorem d_X12_image_167 : decode (qMc M_X12_image) 167 = .ok (.invokestatic 249, 3) := by decide +kernel
theorem d_X12_image_170 : decode (qMc M_X12_image) 170 = .ok (.aload_n 0, 1) := by decide +kernel
theorem d_X12_image_171 : decode (qMc M_X12_image) 171 = .ok (.getfield 65, 3) := by decide +kernel
theorem d_X12_image_174 : decode (qMc M_X12_image) 174 = .ok (.aload_n 0, 1) := by decide +kernel
theorem d_X12_image_175 : decode (qMc M_X12_image) 175 = .ok (.getfield 29, 3) := by decide +kernel
theorem d_X12_image_178 : decode (qMc M_X12_image) 178 = .ok (.invokestatic 249, 3) := by decide +kernel
theorem d_X12_image_181 : decode (qMc M_X12_image) 181 = .ok (.aload_n 0, 1) := by decide +kernel
theorem d_X12_image_182 : decode (qMc M_X12_image) 182 = .ok (.getfield 68, 3) := by decide +kernel
theorem d_X12_image_185 : decode (qMc M_X12_image) 185 = .ok (.aload_n 0, 1) := by decide +kernel
theorem d_X12_image_186 : decode (qMc M_X12_image) 186 = .ok (.getfield 38, 3) := by decide +kernel
theorem d_X12_image_189 : decode (qMc M_X12_image) 189 = .ok (.invokestatic 249, 3) := by decide +kernel
theorem d_X12_image_192 : decode (qMc M_X12_image) 192 = .ok (.aload_n 0, 1) := by decide +kernel
theorem d_X12_image_193 : decode (qMc M_X12_image) 193 = .ok (.getfield 71, 3) := by decide +kernel
theorem d_X12_image_196 : decode (qMc M_X12_image) 196 = .ok (.aload_n 0, 1) := by decide +kernel
theorem d_X12_image_197 : decode (qMc M_X12_image) 197 = .ok (.getfield 50, 3) := by decide +kernel
theorem d_X12_image_200 : decode (qMc M_X12_image) 200 = .ok (.invokestatic 249, 3) := by decide +kernel
theorem d_X12_image_203 : decode (qMc M_X12_image) 203 = .ok (.aload_n 0, 1) := by decide +kernel
theorem d_X12_image_204 : decode (qMc M_X12_image) 204 = .ok (.getfield 74, 3) := by decide +kernel
theorem d_X12_image_207 : decode (qMc M_X12_image) 207 = .ok (.aload_n 0, 1) := by decide +kernel
theorem d_X12_image_208 : decode (qMc M_X12_image) 208 = .ok (.getfield 17, 3) := by decide +kernel
theorem d_X12_image_211 : decode (qMc M_X12_image) 211 = .ok (.invokestatic 249, 3) := by decide +kernel
theorem d_X12_image_214 : decode (qMc M_X12_image) 214 = .ok (.aload_n 0, 1) := by decide +kernel
theorem d_X12_image_215 : decode (qMc M_X12_image) 215 = .ok (.getfield 77, 3) := by decide +kernel
theorem d_X12_image_218 : decode (qMc M_X12_image) 218 = .ok (.aload_n 0, 1) := by decide +kernel
theorem d_X12_image_219 : decode (qMc M_X12_image) 219 = .ok (.getfield 20, 3) := by decide +kernel
theorem d_X12_image_222 : decode (qMc M_X12_image) 222 = .ok (.invokestatic 249, 3) := by decide +kernel
theorem d_X12_image_225 : decode (qMc M_X12_image) 225 = .ok (.aload_n 0, 1) := by decide +kernel
theorem d_X12_image_226 : decode (qMc M_X12_image) 226 = .ok (.getfield 80, 3) := by decide +kernel
theorem d_X12_image_229 : decode (qMc M_X12_image) 229 = .ok (.aload_n 0, 1) := by decide +kernel
theorem d_X12_image_230 : decode (qMc M_X12_image) 230 = .ok (.getfield 32, 3) := by decide +kernel
theorem d_X12_image_233 : decode (qMc M_X12_image) 233 = .ok (.invokestatic 249, 3) := by decide +kernel
theorem d_X12_image_236 : decode (qMc M_X12_image) 236 = .ok (.aload_n 0, 1) := by decide +kernel
theorem d_X12_image_237 : decode (qMc M_X12_image) 237 = .ok (.getfield 83, 3) := by decide +kernel
theorem d_X12_image_240 : decode (qMc M_X12_image) 240 = .ok (.aload_n 0, 1) := by decide +kernel
theorem d_X12_image_241 : decode (qMc M_X12_image) 241 = .ok (.getfield 56, 3) := by decide +kernel
theorem d_X12_image_244 : decode (qMc M_X12_image) 244 = .ok (.invokestatic 249, 3) := by decide +kernel
theorem d_X12_image_247 : decode (qMc M_X12_image) 247 = .ok (.aload_n 0, 1) := by decide +kernel
theorem d_X12_image_248 : decode (qMc M_X12_image) 248 = .ok (.aload_n 0, 1) := by decide +kernel
theorem d_X12_image_249 : decode (qMc M_X12_image) 249 = .ok (.getfield 317, 3) := by decide +kernel
theorem d_X12_image_252 : decode (qMc M_X12_image) 252 = .ok (.putfield 246, 3) := by decide +kernel
theorem d_X12_image_255 : decode (qMc M_X12_image) 255 = .ok (.aload_n 0, 1) := by decide +kernel
theorem d_X12_image_256 : decode (qMc M_X12_image) 256 = .ok (.aload_n 0, 1) := by decide +kernel
theorem d_X12_image_257 : decode (qMc M_X12_image) 257 = .ok (.getfield 320, 3) := by decide +kernel
theorem d_X12_image_260 : decode (qMc M_X12_image) 260 = .ok (.putfield 253, 3) := by decide +kernel
theorem d_X12_image_263 : decode (qMc M_X12_image) 263 = .ok (.aload_n 0, 1) := by decide +kernel
theorem d_X12_image_264 : decode (qMc M_X12_image) 264 = .ok (.aload_n 0, 1) := by decide +kernel
theorem d_X12_image_265 : decode (qMc M_X12_image) 265 = .ok (.getfield 326, 3) := by decide +kernel
theorem d_X12_image_268 : decode (qMc M_X12_image) 268 = .ok (.putfield 323, 3) := by decide +kernel
theorem d_X12_image_271 : decode (qMc M_X12_image) 271 = .ok (.aload_n 0, 1) := by decide +kernel
theorem d_X12_image_272 : decode (qMc M_X12_image) 272 = .ok (.iconst 0, 1) := by decide +kernel
theorem d_X12_image_273 : decode (qMc M_X12_image) 273 = .ok (.putfield 256, 3) := by decide +kernel
theorem d_X12_image_276 : decode (qMc M_X12_image) 276 = .ok (.iconst 1, 1) := by decide +kernel
theorem d_X12_image_277 : decode (qMc M_X12_image) 277 = .ok (.ireturn, 1) := by decide +kernel
theorem d_X12_longest_0 : decode (qMc M_X12_longest) 0 = .ok (.iconst 3, 1) := by decide +kernel
theorem d_X12_longest_1 : decode (qMc M_X12_longest) 1 = .ok (.iload_n 0, 1) := by decide +kernel
theorem d_X12_longest_2 : decode (qMc M_X12_longest) 2 = .ok (.imul, 1) := by decide +kernel
theorem d_X12_longest_3 : decode (qMc M_X12_longest) 3 = .ok (.bipush 20, 2) := by decide +kernel
theorem d_X12_longest_5 : decode (qMc M_X12_longest) 5 = .ok (.iadd, 1) := by decide +kernel
theorem d_X12_longest_6 : decode (qMc M_X12_longest) 6 = .ok (.ireturn, 1) := by decide +kernel
theorem d_X12_begins_0 : decode (qMc M_X12_begins) 0 = .ok (.iconst 0, 1) := by decide +kernel
theorem d_X12_begins_1 : decode (qMc M_X12_begins) 1 = .ok (.istore_n 3, 1) := by decide +kernel
theorem d_X12_begins_2 : decode (qMc M_X12_begins) 2 = .ok (.iload_n 3, 1) := by decide +kernel
theorem d_X12_begins_3 : decode (qMc M_X12_begins) 3 = .ok (.iload_n 1, 1) := by decide +kernel
theorem d_X12_begins_4 : decode (qMc M_X12_begins) 4 = .ok (.if_icmp .ge 22, 3) := by decide +kernel
theorem d_X12_begins_7 : decode (qMc M_X12_begins) 7 = .ok (.aload_n 0, 1) := by decide +kernel
theorem d_X12_begins_8 : decode (qMc M_X12_begins) 8 = .ok (.iload_n 3, 1) := by decide +kernel
theorem d_X12_begins_9 : decode (qMc M_X12_begins) 9 = .ok (.iload_n 3, 1) := by decide +kernel
theorem d_X12_begins_10 : decode (qMc M_X12_begins) 10 = .ok (.iload_n 2, 1) := by decide +kernel
theorem d_X12_begins_11 : decode (qMc M_X12_begins) 11 = .ok (.if_icmp .ne 7, 3) := by decide +kernel
theorem d_X12_begins_14 : decode (qMc M_X12_begins) 14 = .ok (.iconst 1, 1) := by decide +kernel
theorem d_X12_begins_15 : decode (qMc M_X12_begins) 15 = .ok (.goto 4, 3) := by decide +kernel
theorem d_X12_begins_18 : decode (qMc M_X12_begins) 18 = .ok (.iconst 0, 1) := by decide +kernel
theorem d_X12_begins_19 : decode (qMc M_X12_begins) 19 = .ok (.iastore, 1) := by decide +kernel
theorem d_X12_begins_20 : decode (qMc M_X12_begins) 20 = .ok (.iinc 3 1, 3) := by decide +kernel
theorem d_X12_begins_23 : decode (qMc M_X12_begins) 23 = .ok (.goto (-21), 3) := by decide +kernel
theorem d_X12_begins_26 : decode (qMc M_X12_begins) 26 = .ok (.return_, 1) := by decide +kernel
theorem d_X12_steps_0 : decode (qMc M_X12_steps) 0 = .ok (.iconst 0, 1) := by decide +kernel
theorem d_X12_steps_1 : decode (qMc M_X12_steps) 1 = .ok (.istore 6, 2) := by decide +kernel
theorem d_X12_steps_3 : decode (qMc M_X12_steps) 3 = .ok (.iload 6, 2) := by decide +kernel
theorem d_X12_steps_5 : decode (qMc M_X12_steps) 5 = .ok (.iload_n 2, 1) := by decide +kernel
theorem d_X12_steps_6 : decode (qMc M_X12_steps) 6 = .ok (.if_icmp .ge 105, 3) := by decide +kernel
theorem d_X12_steps_9 : decode (qMc M_X12_steps) 9 = .ok (.iload 6, 2) := by decide +kernel
theorem d_X12_steps_11 : decode (qMc M_X12_steps) 11 = .ok (.ifCond .le 12, 3) := by decide +kernel
theorem d_X12_steps_14 : decode (qMc M_X12_steps) 14 = .ok (.aload_n 1, 1) := by decide +kernel
theorem d_X12_steps_15 : decode (qMc M_X12_steps) 15 = .ok (.iload 6, 2) := by decide +kernel
theorem d_X12_steps_17 : decode (qMc M_X12_steps) 17 = .ok (.iconst 1, 1) := by decide +kernel
theorem d_X12_steps_18 : decode (qMc M_X12_steps) 18 = .ok (.isub, 1) := by decide +kernel
theorem d_X12_steps_19 : decode (qMc M_X12_steps) 19 = .ok (.iaload, 1) := by decide +kernel
theorem d_X12_steps_20 : decode (qMc M_X12_steps) 20 = .ok (.goto 17, 3) := by decide +kernel
theorem d_X12_steps_23 : decode (qMc M_X12_steps) 23 = .ok (.iload_n 3, 1) := by decide +kernel
theorem d_X12_steps_24 : decode (qMc M_X12_steps) 24 = .ok (.ifCond .eq 11, 3) := by decide +kernel
theorem d_X12_steps_27 : decode (qMc M_X12_steps) 27 = .ok (.aload_n 1, 1) := by decide +kernel
theorem d_X12_steps_28 : decode (qMc M_X12_steps) 28 = .ok (.iload_n 2, 1) := by decide +kernel
theorem d_X12_steps_29 : decode (qMc M_X12_steps) 29 = .ok (.iconst 1, 1) := by decide +kernel
theorem d_X12_steps_30 : decode (qMc M_X12_steps) 30 = .ok (.isub, 1) := by decide +kernel
theorem d_X12_steps_31 : decode (qMc M_X12_steps) 31 = .ok (.iaload, 1) := by decide +kernel
theorem d_X12_steps_32 : decode (qMc M_X12_steps) 32 = .ok (.goto 5, 3) := by decide +kernel
theorem d_X12_steps_35 : decode (qMc M_X12_steps) 35 = .ok (.bipush 8, 2) := by decide +kernel
theorem d_X12_steps_37 : decode (qMc M_X12_steps) 37 = .ok (.istore 7, 2) := by decide +kernel
theorem d_X12_steps_39 : decode (qMc M_X12_steps) 39 = .ok (.iload 6, 2) := by decide +kernel
theorem d_X12_steps_41 : decode (qMc M_X12_steps) 41 = .ok (.iconst 1, 1) := by decide +kernel
theorem d_X12_steps_42 : decode (qMc M_X12_steps) 42 = .ok (.iadd, 1) := by decide +kernel
theorem d_X12_steps_43 : decode (qMc M_X12_steps) 43 = .ok (.iload_n 2, 1) := by decide +kernel
theorem d_X12_steps_44 : decode (qMc M_X12_steps) 44 = .ok (.if_icmp .ge 12, 3) := by decide +kernel
theorem d_X12_steps_47 : decode (qMc M_X12_steps) 47 = .ok (.aload_n 1, 1) := by decide +kernel
theorem d_X12_steps_48 : decode (qMc M_X12_steps) 48 = .ok (.iload 6, 2) := by decide +kernel
theorem d_X12_steps_50 : decode (qMc M_X12_steps) 50 = .ok (.iconst 1, 1) := by decide +kernel
theorem d_X12_steps_51 : decode (qMc M_X12_steps) 51 = .ok (.iadd, 1) := by decide +kernel
theorem d_X12_steps_52 : decode (qMc M_X12_steps) 52 = .ok (.iaload, 1) := by decide +kernel
theorem d_X12_steps_53 : decode (qMc M_X12_steps) 53 = .ok (.goto 15, 3) := by decide +kernel
theorem d_X12_steps_56 : decode (qMc M_X12_steps) 56 = .ok (.iload_n 3, 1) := by decide +kernel
theorem d_X12_steps_57 : decode (qMc M_X12_steps) 57 = .ok (.ifCond .eq 9, 3) := by decide +kernel
theorem d_X12_steps_60 : decode (qMc M_X12_steps) 60 = .ok (.aload_n 1, 1) := by decide +kernel
theorem d_X12_steps_61 : decode (qMc M_X12_steps) 61 = .ok (.iconst 0, 1) := by decide +kernel
theorem d_X12_steps_62 : decode (qMc M_X12_steps) 62 = .ok (.iaload, 1) := by decide +kernel
theorem d_X12_steps_63 : decode (qMc M_X12_steps) 63 = .ok (.goto 5, 3) := by decide +kernel
theorem d_X12_steps_66 : decode (qMc M_X12_steps) 66 = .ok (.bipush 8, 2) := by decide +kernel
theorem d_X12_steps_68 : decode (qMc M_X12_steps) 68 = .ok (.istore 8, 2) := by decide +kernel
theorem d_X12_steps_70 : decode (qMc M_X12_steps) 70 = .ok (.aload_n 0, 1) := by decide +kernel
theorem d_X12_steps_71 : decode (qMc M_X12_steps) 71 = .ok (.getfield 98, 3) := by decide +kernel
theorem d_X12_steps_74 : decode (qMc M_X12_steps) 74 = .ok (.iload 6, 2) := by decide +kernel
theorem d_X12_steps_76 : decode (qMc M_X12_steps) 76 = .ok (.iload 6, 2) := by decide +kernel
theorem d_X12_steps_78 : decode (qMc M_X12_steps) 78 = .ok (.iload 4, 2) := by decide +kernel
theorem d_X12_steps_80 : decode (qMc M_X12_steps) 80 = .ok (.if_icmp .ne 10, 3) := by decide +kernel
theorem d_X12_steps_83 : decode (qMc M_X12_steps) 83 = .ok (.aload_n 1, 1) := by decide +kernel
theorem d_X12_steps_84 : decode (qMc M_X12_steps) 84 = .ok (.iload 6, 2) := by decide +kernel
theorem d_X12_steps_86 : decode (qMc M_X12_steps) 86 = .ok (.iaload, 1) := by decide +kernel
theorem d_X12_steps_87 : decode (qMc M_X12_steps) 87 = .ok (.goto 17, 3) := by decide +kernel
theorem d_X12_steps_90 : decode (qMc M_X12_steps) 90 = .ok (.aload 5, 2) := by decide +kernel
theorem d_X12_steps_92 : decode (qMc M_X12_steps) 92 = .ok (.aload_n 1, 1) := by decide +kernel
theorem d_X12_steps_93 : decode (qMc M_X12_steps) 93 = .ok (.iload 6, 2) := by decide +kernel
theorem d_X12_steps_95 : decode (qMc M_X12_steps) 95 = .ok (.iaload, 1) := by decide +kernel
theorem d_X12_steps_96 : decode (qMc M_X12_steps) 96 = .ok (.iload 7, 2) := by decide +kernel
theorem d_X12_steps_98 : decode (qMc M_X12_steps) 98 = .ok (.iload 8, 2) := by decide +kernel
theorem d_X12_steps_100 : decode (qMc M_X12_steps) 100 = .ok (.invokestatic 263, 3) := by decide +kernel
theorem d_X12_steps_103 : decode (qMc M_X12_steps) 103 = .ok (.iaload, 1) := by decide +kernel
theorem d_X12_steps_104 : decode (qMc M_X12_steps) 104 = .ok (.iastore, 1) := by decide +kernel
theorem d_X12_steps_105 : decode (qMc M_X12_steps) 105 = .ok (.iinc 6 1, 3) := by decide +kernel
theorem d_X12_steps_108 : decode (qMc M_X12_steps) 108 = .ok (.goto (-105), 3) := by decide +kernel
theorem d_X12_steps_111 : decode (qMc M_X12_steps) 111 = .ok (.iconst 0, 1) := by decide +kernel
theorem d_X12_steps_112 : decode (qMc M_X12_steps) 112 = .ok (.istore 6, 2) := by decide +kernel
theorem d_X12_steps_114 : decode (qMc M_X12_steps) 114 = .ok (.iload 6, 2) := by decide +kernel
theorem d_X12_steps_116 : decode (qMc M_X12_steps) 116 = .ok (.iload_n 2, 1) := by decide +kernel
theorem d_X12_steps_117 : decode (qMc M_X12_steps) 117 = .ok (.if_icmp .ge 20, 3) := by decide +kernel
theorem d_X12_steps_120 : decode (qMc M_X12_steps) 120 = .ok (.aload_n 1, 1) := by decide +kernel
theorem d_X12_steps_121 : decode (qMc M_X12_steps) 121 = .ok (.iload 6, 2) := by decide +kernel
theorem d_X12_steps_123 : decode (qMc M_X12_steps) 123 = .ok (.aload_n 0, 1) := by decide +kernel
theorem d_X12_steps_124 : decode (qMc M_X12_steps) 124 = .ok (.getfield 98, 3) := by decide +kernel
theorem d_X12_steps_127 : decode (qMc M_X12_steps) 127 = .ok (.iload 6, 2) := by decide +kernel
theorem d_X12_steps_129 : decode (qMc M_X12_steps) 129 = .ok (.iaload, 1) := by decide +kernel
theorem d_X12_steps_130 : decode (qMc M_X12_steps) 130 = .ok (.iastore, 1) := by decide +kernel
theorem d_X12_steps_131 : decode (qMc M_X12_steps) 131 = .ok (.iinc 6 1, 3) := by decide +kernel
theorem d_X12_steps_134 : decode (qMc M_X12_steps) 134 = .ok (.goto (-20), 3) := by decide +kernel
theorem d_X12_steps_137 : decode (qMc M_X12_steps) 137 = .ok (.return_, 1) := by decide +kernel
theorem d_X12_runs_0 : decode (qMc M_X12_runs) 0 = .ok (.aload_n 0, 1) := by decide +kernel
theorem d_X12_runs_1 : decode (qMc M_X12_runs) 1 = .ok (.getfield 95, 3) := by decide +kernel
theorem d_X12_runs_4 : decode (qMc M_X12_runs) 4 = .ok (.iload_n 1, 1) := by decide +kernel
theorem d_X12_runs_5 : decode (qMc M_X12_runs) 5 = .ok (.iload_n 2, 1) := by decide +kernel
theorem d_X12_runs_6 : decode (qMc M_X12_runs) 6 = .ok (.invokestatic 329, 3) := by decide +kernel
theorem d_X12_runs_9 : decode (qMc M_X12_runs) 9 = .ok (.iconst 1, 1) := by decide +kernel
theorem d_X12_runs_10 : decode (qMc M_X12_runs) 10 = .ok (.istore 4, 2) := by decide +kernel
theorem d_X12_runs_12 : decode (qMc M_X12_runs) 12 = .ok (.iload 4, 2) := by decide +kernel
theorem d_X12_runs_14 : decode (qMc M_X12_runs) 14 = .ok (.iload_n 1, 1) := by decide +kernel
theorem d_X12_runs_15 : decode (qMc M_X12_runs) 15 = .ok (.invokestatic 333, 3) := by decide +kernel
theorem d_X12_runs_18 : decode (qMc M_X12_runs) 18 = .ok (.if_icmp .gt 38, 3) := by decide +kernel
theorem d_X12_runs_21 : decode (qMc M_X12_runs) 21 = .ok (.aload_n 0, 1) := by decide +kernel
theorem d_X12_runs_22 : decode (qMc M_X12_runs) 22 = .ok (.aload_n 0, 1) := by decide +kernel
theorem d_X12_runs_23 : decode (qMc M_X12_runs) 23 = .ok (.getfield 95, 3) := by decide +kernel
theorem d_X12_runs_26 : decode (qMc M_X12_runs) 26 = .ok (.iload_n 1, 1) := by decide +kernel
theorem d_X12_runs_27 : decode (qMc M_X12_runs) 27 = .ok (.iload_n 3, 1) := by decide +kernel
theorem d_X12_runs_28 : decode (qMc M_X12_runs) 28 = .ok (.iconst (-1), 1) := by decide +kernel
theorem d_X12_runs_29 : decode (qMc M_X12_runs) 29 = .ok (.aload_n 0, 1) := by decide +kernel
theorem d_X12_runs_30 : decode (qMc M_X12_runs) 30 = .ok (.getfield 86, 3) := by decide +kernel
theorem d_X12_runs_33 : decode (qMc M_X12_runs) 33 = .ok (.invokevirtual 336, 3) := by decide +kernel
theorem d_X12_runs_36 : decode (qMc M_X12_runs) 36 = .ok (.aload_n 0, 1) := by decide +kernel
theorem d_X12_runs_37 : decode (qMc M_X12_runs) 37 = .ok (.getfield 95, 3) := by decide +kernel
theorem d_X12_runs_40 : decode (qMc M_X12_runs) 40 = .ok (.iload_n 1, 1) := by decide +kernel
theorem d_X12_runs_41 : decode (qMc M_X12_runs) 41 = .ok (.invokestatic 302, 3) := by decide +kernel
theorem d_X12_runs_44 : decode (qMc M_X12_runs) 44 = .ok (.ifCond .le 6, 3) := by decide +kernel
theorem d_X12_runs_47 : decode (qMc M_X12_runs) 47 = .ok (.iload 4, 2) := by decide +kernel
theorem d_X12_runs_49 : decode (qMc M_X12_runs) 49 = .ok (.ireturn, 1) := by decide +kernel
theorem d_X12_runs_50 : decode (qMc M_X12_runs) 50 = .ok (.iinc 4 1, 3) := by decide +kernel
theorem d_X12_runs_53 : decode (qMc M_X12_runs) 53 = .ok (.goto (-41), 3) := by decide +kernel
theorem d_X12_runs_56 : decode (qMc M_X12_runs) 56 = .ok (.iconst (-1), 1) := by decide +kernel
theorem d_X12_runs_57 : decode (qMc M_X12_runs) 57 = .ok (.ireturn, 1) := by decide +kernel
theorem d_X12_isGood_0 : decode (qMc M_X12_isGood) 0 = .ok (.aload_n 0, 1) := by decide +kernel
theorem d_X12_isGood_1 : decode (qMc M_X12_isGood) 1 = .ok (.iload_n 1, 1) := by decide +kernel
theorem d_X12_isGood_2 : decode (qMc M_X12_isGood) 2 = .ok (.iconst 0, 1) := by decide +kernel
theorem d_X12_isGood_3 : decode (qMc M_X12_isGood) 3 = .ok (.iconst 0, 1) := by decide +kernel
theorem d_X12_isGood_4 : decode (qMc M_X12_isGood) 4 = .ok (.invokevirtual 340, 3) := by decide +kernel
theorem d_X12_isGood_7 : decode (qMc M_X12_isGood) 7 = .ok (.iconst (-1), 1) := by decide +kernel
theorem d_X12_isGood_8 : decode (qMc M_X12_isGood) 8 = .ok (.if_icmp .eq 19, 3) := by decide +kernel
theorem d_X12_isGood_11 : decode (qMc M_X12_isGood) 11 = .ok (.aload_n 0, 1) := by decide +kernel
theorem d_X12_isGood_12 : decode (qMc M_X12_isGood) 12 = .ok (.getfield 95, 3) := by decide +kernel
theorem d_X12_isGood_15 : decode (qMc M_X12_isGood) 15 = .ok (.iload_n 1, 1) := by decide +kernel
theorem d_X12_isGood_16 : decode (qMc M_X12_isGood) 16 = .ok (.invokestatic 302, 3) := by decide +kernel
theorem d_X12_isGood_19 : decode (qMc M_X12_isGood) 19 = .ok (.iload_n 1, 1) := by decide +kernel
theorem d_X12_isGood_20 : decode (qMc M_X12_isGood) 20 = .ok (.if_icmp .ne 7, 3) := by decide +kernel
theorem d_X12_isGood_23 : decode (qMc M_X12_isGood) 23 = .ok (.iconst 1, 1) := by decide +kernel
theorem d_X12_isGood_24 : decode (qMc M_X12_isGood) 24 = .ok (.goto 4, 3) := by decide +kernel
theorem d_X12_isGood_27 : decode (qMc M_X12_isGood) 27 = .ok (.iconst 0, 1) := by decide +kernel
theorem d_X12_isGood_28 : decode (qMc M_X12_isGood) 28 = .ok (.ireturn, 1) := by decide +kernel
theorem d_X12_firstBad_0 : decode (qMc M_X12_firstBad) 0 = .ok (.iconst 1, 1) := by decide +kernel
theorem d_X12_firstBad_1 : decode (qMc M_X12_firstBad) 1 = .ok (.istore_n 2, 1) := by decide +kernel
theorem d_X12_firstBad_2 : decode (qMc M_X12_firstBad) 2 = .ok (.iload_n 2, 1) := by decide +kernel
theorem d_X12_firstBad_3 : decode (qMc M_X12_firstBad) 3 = .ok (.iload_n 1, 1) := by decide +kernel
theorem d_X12_firstBad_4 : decode (qMc M_X12_firstBad) 4 = .ok (.if_icmp .gt 19, 3) := by decide +kernel
theorem d_X12_firstBad_7 : decode (qMc M_X12_firstBad) 7 = .ok (.aload_n 0, 1) := by decide +kernel
theorem d_X12_firstBad_8 : decode (qMc M_X12_firstBad) 8 = .ok (.iload_n 2, 1) := by decide +kernel
theorem d_X12_firstBad_9 : decode (qMc M_X12_firstBad) 9 = .ok (.invokevirtual 344, 3) := by decide +kernel
theorem d_X12_firstBad_12 : decode (qMc M_X12_firstBad) 12 = .ok (.ifCond .ne 5, 3) := by decide +kernel
theorem d_X12_firstBad_15 : decode (qMc M_X12_firstBad) 15 = .ok (.iload_n 2, 1) := by decide +kernel
theorem d_X12_firstBad_16 : decode (qMc M_X12_firstBad) 16 = .ok (.ireturn, 1) := by decide +kernel
theorem d_X12_firstBad_17 : decode (qMc M_X12_firstBad) 17 = .ok (.iinc 2 1, 3) := by decide +kernel
theorem d_X12_firstBad_20 : decode (qMc M_X12_firstBad) 20 = .ok (.goto (-18), 3) := by decide +kernel
theorem d_X12_firstBad_23 : decode (qMc M_X12_firstBad) 23 = .ok (.iconst (-1), 1) := by decide +kernel
theorem d_X12_firstBad_24 : decode (qMc M_X12_firstBad) 24 = .ok (.ireturn, 1) := by decide +kernel
theorem d_X12_fireOf_0 : decode (qMc M_X12_fireOf) 0 = .ok (.aload_n 0, 1) := by decide +kernel
theorem d_X12_fireOf_1 : decode (qMc M_X12_fireOf) 1 = .ok (.invokevirtual 275, 3) := by decide +kernel
theorem d_X12_fireOf_4 : decode (qMc M_X12_fireOf) 4 = .ok (.aload_n 0, 1) := by decide +kernel
theorem d_X12_fireOf_5 : decode (qMc M_X12_fireOf) 5 = .ok (.iload_n 1, 1) := by decide +kernel
theorem d_X12_fireOf_6 : decode (qMc M_X12_fireOf) 6 = .ok (.iload_n 2, 1) := by decide +kernel
theorem d_X12_fireOf_7 : decode (qMc M_X12_fireOf) 7 = .ok (.iload_n 3, 1) := by decide +kernel
theorem d_X12_fireOf_8 : decode (qMc M_X12_fireOf) 8 = .ok (.invokevirtual 340, 3) := by decide +kernel
theorem d_X12_fireOf_11 : decode (qMc M_X12_fireOf) 11 = .ok (.istore 5, 2) := by decide +kernel
theorem d_X12_fireOf_13 : decode (qMc M_X12_fireOf) 13 = .ok (.iload 4, 2) := by decide +kernel
theorem d_X12_fireOf_15 : decode (qMc M_X12_fireOf) 15 = .ok (.ifCond .ne 8, 3) := by decide +kernel
theorem d_X12_fireOf_18 : decode (qMc M_X12_fireOf) 18 = .ok (.iload 5, 2) := by decide +kernel
theorem d_X12_fireOf_20 : decode (qMc M_X12_fireOf) 20 = .ok (.goto 29, 3) := by decide +kernel
theorem d_X12_fireOf_23 : decode (qMc M_X12_fireOf) 23 = .ok (.iload 4, 2) := by decide +kernel
theorem d_X12_fireOf_25 : decode (qMc M_X12_fireOf) 25 = .ok (.iconst 1, 1) := by decide +kernel
theorem d_X12_fireOf_26 : decode (qMc M_X12_fireOf) 26 = .ok (.if_icmp .ne 14, 3) := by decide +kernel
theorem d_X12_fireOf_29 : decode (qMc M_X12_fireOf) 29 = .ok (.aload_n 0, 1) := by decide +kernel
theorem d_X12_fireOf_30 : decode (qMc M_X12_fireOf) 30 = .ok (.getfield 95, 3) := by decide +kernel
theorem d_X12_fireOf_33 : decode (qMc M_X12_fireOf) 33 = .ok (.iload_n 1, 1) := by decide +kernel
theorem d_X12_fireOf_34 : decode (qMc M_X12_fireOf) 34 = .ok (.invokestatic 302, 3) := by decide +kernel
theorem d_X12_fireOf_37 : decode (qMc M_X12_fireOf) 37 = .ok (.goto 12, 3) := by decide +kernel
theorem d_X12_fireOf_40 : decode (qMc M_X12_fireOf) 40 = .ok (.aload_n 0, 1) := by decide +kernel
theorem d_X12_fireOf_41 : decode (qMc M_X12_fireOf) 41 = .ok (.getfield 95, 3) := by decide +kernel
theorem d_X12_fireOf_44 : decode (qMc M_X12_fireOf) 44 = .ok (.iload_n 1, 1) := by decide +kernel
theorem d_X12_fireOf_45 : decode (qMc M_X12_fireOf) 45 = .ok (.iconst 0, 1) := by decide +kernel
theorem d_X12_fireOf_46 : decode (qMc M_X12_fireOf) 46 = .ok (.invokestatic 306, 3) := by decide +kernel
theorem d_X12_fireOf_49 : decode (qMc M_X12_fireOf) 49 = .ok (.ireturn, 1) := by decide +kernel
theorem d_X12_isRun_0 : decode (qMc M_X12_isRun) 0 = .ok (.iload_n 0, 1) := by decide +kernel
theorem d_X12_isRun_1 : decode (qMc M_X12_isRun) 1 = .ok (.iconst 1, 1) := by decide +kernel
theorem d_X12_isRun_2 : decode (qMc M_X12_isRun) 2 = .ok (.bipush 32, 2) := by decide +kernel
theorem d_X12_isRun_4 : decode (qMc M_X12_isRun) 4 = .ok (.invokestatic 137, 3) := by decide +kernel
theorem d_X12_isRun_7 : decode (qMc M_X12_isRun) 7 = .ok (.ifCond .eq 18, 3) := by decide +kernel
theorem d_X12_isRun_10 : decode (qMc M_X12_isRun) 10 = .ok (.iload_n 1, 1) := by decide +kernel
theorem d_X12_isRun_11 : decode (qMc M_X12_isRun) 11 = .ok (.iconst 0, 1) := by decide +kernel
theorem d_X12_isRun_12 : decode (qMc M_X12_isRun) 12 = .ok (.iload_n 0, 1) := by decide +kernel
theorem d_X12_isRun_13 : decode (qMc M_X12_isRun) 13 = .ok (.iconst 1, 1) := by decide +kernel
theorem d_X12_isRun_14 : decode (qMc M_X12_isRun) 14 = .ok (.isub, 1) := by decide +kernel
theorem d_X12_isRun_15 : decode (qMc M_X12_isRun) 15 = .ok (.invokestatic 137, 3) := by decide +kernel
theorem d_X12_isRun_18 : decode (qMc M_X12_isRun) 18 = .ok (.ifCond .eq 7, 3) := by decide +kernel
theorem d_X12_isRun_21 : decode (qMc M_X12_isRun) 21 = .ok (.iconst 1, 1) := by decide +kernel
theorem d_X12_isRun_22 : decode (qMc M_X12_isRun) 22 = .ok (.goto 4, 3) := by decide +kernel
theorem d_X12_isRun_25 : decode (qMc M_X12_isRun) 25 = .ok (.iconst 0, 1) := by decide +kernel
theorem d_X12_isRun_26 : decode (qMc M_X12_isRun) 26 = .ok (.ireturn, 1) := by decide +kernel
theorem d_X12_fires_0 : decode (qMc M_X12_fires) 0 = .ok (.aload_n 0, 1) := by decide +kernel
theorem d_X12_fires_1 : decode (qMc M_X12_fires) 1 = .ok (.iconst 0, 1) := by decide +kernel
theorem d_X12_fires_2 : decode (qMc M_X12_fires) 2 = .ok (.putfield 127, 3) := by decide +kernel
theorem d_X12_fires_5 : decode (qMc M_X12_fires) 5 = .ok (.iload_n 1, 1) := by decide +kernel
theorem d_X12_fires_6 : decode (qMc M_X12_fires) 6 = .ok (.iload_n 2, 1) := by decide +kernel
theorem d_X12_fires_7 : decode (qMc M_X12_fires) 7 = .ok (.invokestatic 347, 3) := by decide +kernel
theorem d_X12_fires_10 : decode (qMc M_X12_fires) 10 = .ok (.ifCond .eq 23, 3) := by decide +kernel
theorem d_X12_fires_13 : decode (qMc M_X12_fires) 13 = .ok (.iload_n 3, 1) := by decide +kernel
theorem d_X12_fires_14 : decode (qMc M_X12_fires) 14 = .ok (.iconst 0, 1) := by decide +kernel
theorem d_X12_fires_15 : decode (qMc M_X12_fires) 15 = .ok (.iconst 2, 1) := by decide +kernel
theorem d_X12_fires_16 : decode (qMc M_X12_fires) 16 = .ok (.invokestatic 137, 3) := by decide +kernel
theorem d_X12_fires_19 : decode (qMc M_X12_fires) 19 = .ok (.ifCond .eq 14, 3) := by decide +kernel
theorem d_X12_fires_22 : decode (qMc M_X12_fires) 22 = .ok (.aload_n 0, 1) := by decide +kernel
theorem d_X12_fires_23 : decode (qMc M_X12_fires) 23 = .ok (.iload_n 1, 1) := by decide +kernel
theorem d_X12_fires_24 : decode (qMc M_X12_fires) 24 = .ok (.iload_n 2, 1) := by decide +kernel
theorem d_X12_fires_25 : decode (qMc M_X12_fires) 25 = .ok (.iconst 0, 1) := by decide +kernel
theorem d_X12_fires_26 : decode (qMc M_X12_fires) 26 = .ok (.iload_n 3, 1) := by decide +kernel
theorem d_X12_fires_27 : decode (qMc M_X12_fires) 27 = .ok (.invokevirtual 350, 3) := by decide +kernel
theorem d_X12_fires_30 : decode (qMc M_X12_fires) 30 = .ok (.goto 4, 3) := by decide +kernel
theorem d_X12_fires_33 : decode (qMc M_X12_fires) 33 = .ok (.iconst (-1), 1) := by decide +kernel
theorem d_X12_fires_34 : decode (qMc M_X12_fires) 34 = .ok (.ireturn, 1) := by decide +kernel
theorem d_X12_ring_0 : decode (qMc M_X12_ring) 0 = .ok (.aload_n 0, 1) := by decide +kernel
theorem d_X12_ring_1 : decode (qMc M_X12_ring) 1 = .ok (.iconst 0, 1) := by decide +kernel
theorem d_X12_ring_2 : decode (qMc M_X12_ring) 2 = .ok (.putfield 127, 3) := by decide +kernel
theorem d_X12_ring_5 : decode (qMc M_X12_ring) 5 = .ok (.iload_n 1, 1) := by decide +kernel
theorem d_X12_ring_6 : decode (qMc M_X12_ring) 6 = .ok (.iload_n 2, 1) := by decide +kernel
theorem d_X12_ring_7 : decode (qMc M_X12_ring) 7 = .ok (.invokestatic 347, 3) := by decide +kernel
theorem d_X12_ring_10 : decode (qMc M_X12_ring) 10 = .ok (.ifCond .eq 23, 3) := by decide +kernel
theorem d_X12_ring_13 : decode (qMc M_X12_ring) 13 = .ok (.iload_n 3, 1) := by decide +kernel
theorem d_X12_ring_14 : decode (qMc M_X12_ring) 14 = .ok (.iconst 0, 1) := by decide +kernel
theorem d_X12_ring_15 : decode (qMc M_X12_ring) 15 = .ok (.iconst 2, 1) := by decide +kernel
theorem d_X12_ring_16 : decode (qMc M_X12_ring) 16 = .ok (.invokestatic 137, 3) := by decide +kernel
theorem d_X12_ring_19 : decode (qMc M_X12_ring) 19 = .ok (.ifCond .eq 14, 3) := by decide +kernel
theorem d_X12_ring_22 : decode (qMc M_X12_ring) 22 = .ok (.aload_n 0, 1) := by decide +kernel
theorem d_X12_ring_23 : decode (qMc M_X12_ring) 23 = .ok (.iload_n 1, 1) := by decide +kernel
theorem d_X12_ring_24 : decode (qMc M_X12_ring) 24 = .ok (.iload_n 2, 1) := by decide +kernel
theorem d_X12_ring_25 : decode (qMc M_X12_ring) 25 = .ok (.iconst 1, 1) := by decide +kernel
theorem d_X12_ring_26 : decode (qMc M_X12_ring) 26 = .ok (.iload_n 3, 1) := by decide +kernel
theorem d_X12_ring_27 : decode (qMc M_X12_ring) 27 = .ok (.invokevirtual 350, 3) := by decide +kernel
theorem d_X12_ring_30 : decode (qMc M_X12_ring) 30 = .ok (.goto 4, 3) := by decide +kernel
theorem d_X12_ring_33 : decode (qMc M_X12_ring) 33 = .ok (.iconst (-1), 1) := by decide +kernel
theorem d_X12_ring_34 : decode (qMc M_X12_ring) 34 = .ok (.ireturn, 1) := by decide +kernel
theorem d_X12_works_0 : decode (qMc M_X12_works) 0 = .ok (.aload_n 0, 1) := by decide +kernel
theorem d_X12_works_1 : decode (qMc M_X12_works) 1 = .ok (.iconst 0, 1) := by decide +kernel
theorem d_X12_works_2 : decode (qMc M_X12_works) 2 = .ok (.putfield 127, 3) := by decide +kernel
theorem d_X12_works_5 : decode (qMc M_X12_works) 5 = .ok (.iload_n 1, 1) := by decide +kernel
theorem d_X12_works_6 : decode (qMc M_X12_works) 6 = .ok (.iconst 1, 1) := by decide +kernel
theorem d_X12_works_7 : decode (qMc M_X12_works) 7 = .ok (.bipush 24, 2) := by decide +kernel
theorem d_X12_works_9 : decode (qMc M_X12_works) 9 = .ok (.invokestatic 137, 3) := by decide +kernel
theorem d_X12_works_12 : decode (qMc M_X12_works) 12 = .ok (.ifCond .eq 12, 3) := by decide +kernel
theorem d_X12_works_15 : decode (qMc M_X12_works) 15 = .ok (.iload_n 2, 1) := by decide +kernel
theorem d_X12_works_16 : decode (qMc M_X12_works) 16 = .ok (.iconst 0, 1) := by decide +kernel
theorem d_X12_works_17 : decode (qMc M_X12_works) 17 = .ok (.iconst 2, 1) := by decide +kernel
theorem d_X12_works_18 : decode (qMc M_X12_works) 18 = .ok (.invokestatic 137, 3) := by decide +kernel
theorem d_X12_works_21 : decode (qMc M_X12_works) 21 = .ok (.ifCond .ne 5, 3) := by decide +kernel
theorem d_X12_works_24 : decode (qMc M_X12_works) 24 = .ok (.iconst (-1), 1) := by decide +kernel
theorem d_X12_works_25 : decode (qMc M_X12_works) 25 = .ok (.ireturn, 1) := by decide +kernel
theorem d_X12_works_26 : decode (qMc M_X12_works) 26 = .ok (.aload_n 0, 1) := by decide +kernel
theorem d_X12_works_27 : decode (qMc M_X12_works) 27 = .ok (.invokevirtual 275, 3) := by decide +kernel
theorem d_X12_works_30 : decode (qMc M_X12_works) 30 = .ok (.aload_n 0, 1) := by decide +kernel
theorem d_X12_works_31 : decode (qMc M_X12_works) 31 = .ok (.iload_n 1, 1) := by decide +kernel
theorem d_X12_works_32 : decode (qMc M_X12_works) 32 = .ok (.invokevirtual 354, 3) := by decide +kernel
theorem d_X12_works_35 : decode (qMc M_X12_works) 35 = .ok (.istore_n 3, 1) := by decide +kernel
theorem d_X12_works_36 : decode (qMc M_X12_works) 36 = .ok (.iload_n 3, 1) := by decide +kernel
theorem d_X12_works_37 : decode (qMc M_X12_works) 37 = .ok (.iconst (-1), 1) := by decide +kernel
theorem d_X12_works_38 : decode (qMc M_X12_works) 38 = .ok (.if_icmp .eq 7, 3) := by decide +kernel
theorem d_X12_works_41 : decode (qMc M_X12_works) 41 = .ok (.iload_n 2, 1) := by decide +kernel
theorem d_X12_works_42 : decode (qMc M_X12_works) 42 = .ok (.ifCond .ne 7, 3) := by decide +kernel
theorem d_X12_works_45 : decode (qMc M_X12_works) 45 = .ok (.iload_n 3, 1) := by decide +kernel
theorem d_X12_works_46 : decode (qMc M_X12_works) 46 = .ok (.goto 20, 3) := by decide +kernel
theorem d_X12_works_49 : decode (qMc M_X12_works) 49 = .ok (.aload_n 0, 1) := by decide +kernel
theorem d_X12_works_50 : decode (qMc M_X12_works) 50 = .ok (.iload_n 3, 1) := by decide +kernel
theorem d_X12_works_51 : decode (qMc M_X12_works) 51 = .ok (.iconst 0, 1) := by decide +kernel
theorem d_X12_works_52 : decode (qMc M_X12_works) 52 = .ok (.iconst 0, 1) := by decide +kernel
theorem d_X12_works_53 : decode (qMc M_X12_works) 53 = .ok (.iload_n 2, 1) := by decide +kernel
theorem d_X12_works_54 : decode (qMc M_X12_works) 54 = .ok (.iconst 1, 1) := by decide +kernel
theorem d_X12_works_55 : decode (qMc M_X12_works) 55 = .ok (.if_icmp .ne 7, 3) := by decide +kernel
theorem d_X12_works_58 : decode (qMc M_X12_works) 58 = .ok (.iconst 0, 1) := by decide +kernel
theorem d_X12_works_59 : decode (qMc M_X12_works) 59 = .ok (.goto 4, 3) := by decide +kernel
theorem d_X12_works_62 : decode (qMc M_X12_works) 62 = .ok (.iconst 2, 1) := by decide +kernel
theorem d_X12_works_63 : decode (qMc M_X12_works) 63 = .ok (.invokevirtual 350, 3) := by decide +kernel
theorem d_X12_works_66 : decode (qMc M_X12_works) 66 = .ok (.ireturn, 1) := by decide +kernel
theorem d_X12_soon_0 : decode (qMc M_X12_soon) 0 = .ok (.aload_n 0, 1) := by decide +kernel
theorem d_X12_soon_1 : decode (qMc M_X12_soon) 1 = .ok (.iconst 0, 1) := by decide +kernel
theorem d_X12_soon_2 : decode (qMc M_X12_soon) 2 = .ok (.putfield 127, 3) := by decide +kernel
theorem d_X12_soon_5 : decode (qMc M_X12_soon) 5 = .ok (.iload_n 1, 1) := by decide +kernel
theorem d_X12_soon_6 : decode (qMc M_X12_soon) 6 = .ok (.iload_n 2, 1) := by decide +kernel
theorem d_X12_soon_7 : decode (qMc M_X12_soon) 7 = .ok (.invokestatic 347, 3) := by decide +kernel
theorem d_X12_soon_10 : decode (qMc M_X12_soon) 10 = .ok (.ifCond .eq 12, 3) := by decide +kernel
theorem d_X12_soon_13 : decode (qMc M_X12_soon) 13 = .ok (.iload_n 3, 1) := by decide +kernel
theorem d_X12_soon_14 : decode (qMc M_X12_soon) 14 = .ok (.iconst 0, 1) := by decide +kernel
theorem d_X12_soon_15 : decode (qMc M_X12_soon) 15 = .ok (.iconst 1, 1) := by decide +kernel
theorem d_X12_soon_16 : decode (qMc M_X12_soon) 16 = .ok (.invokestatic 137, 3) := by decide +kernel
theorem d_X12_soon_19 : decode (qMc M_X12_soon) 19 = .ok (.ifCond .ne 6, 3) := by decide +kernel
theorem d_X12_soon_22 : decode (qMc M_X12_soon) 22 = .ok (.bipush (-100), 2) := by decide +kernel
theorem d_X12_soon_24 : decode (qMc M_X12_soon) 24 = .ok (.ireturn, 1) := by decide +kernel
theorem d_X12_soon_25 : decode (qMc M_X12_soon) 25 = .ok (.iconst 2, 1) := by decide +kernel
theorem d_X12_soon_26 : decode (qMc M_X12_soon) 26 = .ok (.iload_n 1, 1) := by decide +kernel
theorem d_X12_soon_27 : decode (qMc M_X12_soon) 27 = .ok (.imul, 1) := by decide +kernel
theorem d_X12_soon_28 : decode (qMc M_X12_soon) 28 = .ok (.iconst 2, 1) := by decide +kernel
theorem d_X12_soon_29 : decode (qMc M_X12_soon) 29 = .ok (.isub, 1) := by decide +kernel
theorem d_X12_soon_30 : decode (qMc M_X12_soon) 30 = .ok (.iload_n 2, 1) := by decide +kernel
theorem d_X12_soon_31 : decode (qMc M_X12_soon) 31 = .ok (.iload_n 1, 1) := by decide +kernel
theorem d_X12_soon_32 : decode (qMc M_X12_soon) 32 = .ok (.iconst 1, 1) := by decide +kernel
theorem d_X12_soon_33 : decode (qMc M_X12_soon) 33 = .ok (.isub, 1) := by decide +kernel
theorem d_X12_soon_34 : decode (qMc M_X12_soon) 34 = .ok (.iload_n 2, 1) := by decide +kernel
theorem d_X12_soon_35 : decode (qMc M_X12_soon) 35 = .ok (.isub, 1) := by decide +kernel
theorem d_X12_soon_36 : decode (qMc M_X12_soon) 36 = .ok (.invokestatic 357, 3) := by decide +kernel
theorem d_X12_soon_39 : decode (qMc M_X12_soon) 39 = .ok (.isub, 1) := by decide +kernel
theorem d_X12_soon_40 : decode (qMc M_X12_soon) 40 = .ok (.istore 4, 2) := by decide +kernel
theorem d_X12_soon_42 : decode (qMc M_X12_soon) 42 = .ok (.iload_n 3, 1) := by decide +kernel
theorem d_X12_soon_43 : decode (qMc M_X12_soon) 43 = .ok (.ifCond .ne 6, 3) := by decide +kernel
theorem d_X12_soon_46 : decode (qMc M_X12_soon) 46 = .ok (.iload 4, 2) := by decide +kernel
theorem d_X12_soon_48 : decode (qMc M_X12_soon) 48 = .ok (.ireturn, 1) := by decide +kernel
theorem d_X12_soon_49 : decode (qMc M_X12_soon) 49 = .ok (.aload_n 0, 1) := by decide +kernel
theorem d_X12_soon_50 : decode (qMc M_X12_soon) 50 = .ok (.iload_n 1, 1) := by decide +kernel
theorem d_X12_soon_51 : decode (qMc M_X12_soon) 51 = .ok (.iload_n 2, 1) := by decide +kernel
theorem d_X12_soon_52 : decode (qMc M_X12_soon) 52 = .ok (.iconst 0, 1) := by decide +kernel
theorem d_X12_soon_53 : decode (qMc M_X12_soon) 53 = .ok (.iconst 0, 1) := by decide +kernel
theorem d_X12_soon_54 : decode (qMc M_X12_soon) 54 = .ok (.invokevirtual 350, 3) := by decide +kernel
theorem d_X12_soon_57 : decode (qMc M_X12_soon) 57 = .ok (.istore 5, 2) := by decide +kernel
theorem d_X12_soon_59 : decode (qMc M_X12_soon) 59 = .ok (.iload 5, 2) := by decide +kernel
theorem d_X12_soon_61 : decode (qMc M_X12_soon) 61 = .ok (.iconst (-1), 1) := by decide +kernel
theorem d_X12_soon_62 : decode (qMc M_X12_soon) 62 = .ok (.if_icmp .ne 8, 3) := by decide +kernel
theorem d_X12_soon_65 : decode (qMc M_X12_soon) 65 = .ok (.bipush (-100), 2) := by decide +kernel
theorem d_X12_soon_67 : decode (qMc M_X12_soon) 67 = .ok (.goto 8, 3) := by decide +kernel
theorem d_X12_soon_70 : decode (qMc M_X12_soon) 70 = .ok (.iload 5, 2) := by decide +kernel
theorem d_X12_soon_72 : decode (qMc M_X12_soon) 72 = .ok (.iload 4, 2) := by decide +kernel
theorem d_X12_soon_74 : decode (qMc M_X12_soon) 74 = .ok (.isub, 1) := by decide +kernel
theorem d_X12_soon_75 : decode (qMc M_X12_soon) 75 = .ok (.ireturn, 1) := by decide +kernel
theorem d_X12_usesOf_0 : decode (qMc M_X12_usesOf) 0 = .ok (.aload_n 0, 1) := by decide +kernel
theorem d_X12_usesOf_1 : decode (qMc M_X12_usesOf) 1 = .ok (.getfield 95, 3) := by decide +kernel
theorem d_X12_usesOf_4 : decode (qMc M_X12_usesOf) 4 = .ok (.iload_n 1, 1) := by decide +kernel
theorem d_X12_usesOf_5 : decode (qMc M_X12_usesOf) 5 = .ok (.iconst 0, 1) := by decide +kernel
theorem d_X12_usesOf_6 : decode (qMc M_X12_usesOf) 6 = .ok (.invokestatic 329, 3) := by decide +kernel
theorem d_X12_usesOf_9 : decode (qMc M_X12_usesOf) 9 = .ok (.iconst 0, 1) := by decide +kernel
theorem d_X12_usesOf_10 : decode (qMc M_X12_usesOf) 10 = .ok (.istore_n 2, 1) := by decide +kernel
theorem d_X12_usesOf_11 : decode (qMc M_X12_usesOf) 11 = .ok (.iload_n 2, 1) := by decide +kernel
theorem d_X12_usesOf_12 : decode (qMc M_X12_usesOf) 12 = .ok (.iload_n 1, 1) := by decide +kernel
theorem d_X12_usesOf_13 : decode (qMc M_X12_usesOf) 13 = .ok (.invokestatic 333, 3) := by decide +kernel
theorem d_X12_usesOf_16 : decode (qMc M_X12_usesOf) 16 = .ok (.if_icmp .gt 154, 3) := by decide +kernel
theorem d_X12_usesOf_19 : decode (qMc M_X12_usesOf) 19 = .ok (.iconst 0, 1) := by decide +kernel
theorem d_X12_usesOf_20 : decode (qMc M_X12_usesOf) 20 = .ok (.istore_n 3, 1) := by decide +kernel
theorem d_X12_usesOf_21 : decode (qMc M_X12_usesOf) 21 = .ok (.iload_n 3, 1) := by decide +kernel
theorem d_X12_usesOf_22 : decode (qMc M_X12_usesOf) 22 = .ok (.iload_n 1, 1) := by decide +kernel
theorem d_X12_usesOf_23 : decode (qMc M_X12_usesOf) 23 = .ok (.if_icmp .ge 26, 3) := by decide +kernel
theorem d_X12_usesOf_26 : decode (qMc M_X12_usesOf) 26 = .ok (.aload_n 0, 1) := by decide +kernel
theorem d_X12_usesOf_27 : decode (qMc M_X12_usesOf) 27 = .ok (.dup, 1) := by decide +kernel
theorem d_X12_usesOf_28 : decode (qMc M_X12_usesOf) 28 = .ok (.getfield 360, 3) := by decide +kernel
theorem d_X12_usesOf_31 : decode (qMc M_X12_usesOf) 31 = .ok (.iconst 1, 1) := by decide +kernel
theorem d_X12_usesOf_32 : decode (qMc M_X12_usesOf) 32 = .ok (.aload_n 0, 1) := by decide +kernel
theorem d_X12_usesOf_33 : decode (qMc M_X12_usesOf) 33 = .ok (.getfield 95, 3) := by decide +kernel
theorem d_X12_usesOf_36 : decode (qMc M_X12_usesOf) 36 = .ok (.iload_n 3, 1) := by decide +kernel
theorem d_X12_usesOf_37 : decode (qMc M_X12_usesOf) 37 = .ok (.iaload, 1) := by decide +kernel
theorem d_X12_usesOf_38 : decode (qMc M_X12_usesOf) 38 = .ok (.ishl, 1) := by decide +kernel
theorem d_X12_usesOf_39 : decode (qMc M_X12_usesOf) 39 = .ok (.ior, 1) := by decide +kernel
theorem d_X12_usesOf_40 : decode (qMc M_X12_usesOf) 40 = .ok (.putfield 360, 3) := by decide +kernel
theorem d_X12_usesOf_43 : decode (qMc M_X12_usesOf) 43 = .ok (.iinc 3 1, 3) := by decide +kernel
theorem d_X12_usesOf_46 : decode (qMc M_X12_usesOf) 46 = .ok (.goto (-25), 3) := by decide +kernel
theorem d_X12_usesOf_49 : decode (qMc M_X12_usesOf) 49 = .ok (.aload_n 0, 1) := by decide +kernel
theorem d_X12_usesOf_50 : decode (qMc M_X12_usesOf) 50 = .ok (.getfield 95, 3) := by decide +kernel
theorem d_X12_usesOf_53 : decode (qMc M_X12_usesOf) 53 = .ok (.iload_n 1, 1) := by decide +kernel
theorem d_X12_usesOf_54 : decode (qMc M_X12_usesOf) 54 = .ok (.invokestatic 302, 3) := by decide +kernel
theorem d_X12_usesOf_57 : decode (qMc M_X12_usesOf) 57 = .ok (.ifCond .gt 11, 3) := by decide +kernel
theorem d_X12_usesOf_60 : decode (qMc M_X12_usesOf) 60 = .ok (.iload_n 2, 1) := by decide +kernel
theorem d_X12_usesOf_61 : decode (qMc M_X12_usesOf) 61 = .ok (.iload_n 1, 1) := by decide +kernel
theorem d_X12_usesOf_62 : decode (qMc M_X12_usesOf) 62 = .ok (.invokestatic 333, 3) := by decide +kernel
theorem d_X12_usesOf_65 : decode (qMc M_X12_usesOf) 65 = .ok (.if_icmp .ne 4, 3) := by decide +kernel
theorem d_X12_usesOf_68 : decode (qMc M_X12_usesOf) 68 = .ok (.return_, 1) := by decide +kernel
theorem d_X12_usesOf_69 : decode (qMc M_X12_usesOf) 69 = .ok (.iconst 0, 1) := by decide +kernel
theorem d_X12_usesOf_70 : decode (qMc M_X12_usesOf) 70 = .ok (.istore_n 3, 1) := by decide +kernel
theorem d_X12_usesOf_71 : decode (qMc M_X12_usesOf) 71 = .ok (.iload_n 3, 1) := by decide +kernel
theorem d_X12_usesOf_72 : decode (qMc M_X12_usesOf) 72 = .ok (.iload_n 1, 1) := by decide +kernel
theorem d_X12_usesOf_73 : decode (qMc M_X12_usesOf) 73 = .ok (.if_icmp .ge 76, 3) := by decide +kernel
theorem d_X12_usesOf_76 : decode (qMc M_X12_usesOf) 76 = .ok (.aload_n 0, 1) := by decide +kernel
theorem d_X12_usesOf_77 : decode (qMc M_X12_usesOf) 77 = .ok (.getfield 89, 3) := by decide +kernel
theorem d_X12_usesOf_80 : decode (qMc M_X12_usesOf) 80 = .ok (.aload_n 0, 1) := by decide +kernel
theorem d_X12_usesOf_81 : decode (qMc M_X12_usesOf) 81 = .ok (.getfield 95, 3) := by decide +kernel
theorem d_X12_usesOf_84 : decode (qMc M_X12_usesOf) 84 = .ok (.iload_n 3, 1) := by decide +kernel
theorem d_X12_usesOf_85 : decode (qMc M_X12_usesOf) 85 = .ok (.iaload, 1) := by decide +kernel
theorem d_X12_usesOf_86 : decode (qMc M_X12_usesOf) 86 = .ok (.iload_n 3, 1) := by decide +kernel
theorem d_X12_usesOf_87 : decode (qMc M_X12_usesOf) 87 = .ok (.ifCond .le 14, 3) := by decide +kernel
theorem d_X12_usesOf_90 : decode (qMc M_X12_usesOf) 90 = .ok (.aload_n 0, 1) := by decide +kernel
theorem d_X12_usesOf_91 : decode (qMc M_X12_usesOf) 91 = .ok (.getfield 95, 3) := by decide +kernel
theorem d_X12_usesOf_94 : decode (qMc M_X12_usesOf) 94 = .ok (.iload_n 3, 1) := by decide +kernel
theorem d_X12_usesOf_95 : decode (qMc M_X12_usesOf) 95 = .ok (.iconst 1, 1) := by decide +kernel
theorem d_X12_usesOf_96 : decode (qMc M_X12_usesOf) 96 = .ok (.isub, 1) := by decide +kernel
theorem d_X12_usesOf_97 : decode (qMc M_X12_usesOf) 97 = .ok (.iaload, 1) := by decide +kernel
theorem d_X12_usesOf_98 : decode (qMc M_X12_usesOf) 98 = .ok (.goto 5, 3) := by decide +kernel
theorem d_X12_usesOf_101 : decode (qMc M_X12_usesOf) 101 = .ok (.bipush 8, 2) := by decide +kernel
theorem d_X12_usesOf_103 : decode (qMc M_X12_usesOf) 103 = .ok (.iload_n 3, 1) := by decide +kernel
theorem d_X12_usesOf_104 : decode (qMc M_X12_usesOf) 104 = .ok (.iconst 1, 1) := by decide +kernel
theorem d_X12_usesOf_105 : decode (qMc M_X12_usesOf) 105 = .ok (.iadd, 1) := by decide +kernel
theorem d_X12_usesOf_106 : decode (qMc M_X12_usesOf) 106 = .ok (.iload_n 1, 1) := by decide +kernel
theorem d_X12_usesOf_107 : decode (qMc M_X12_usesOf) 107 = .ok (.if_icmp .ge 14, 3) := by decide +kernel
theorem d_X12_usesOf_110 : decode (qMc M_X12_usesOf) 110 = .ok (.aload_n 0, 1) := by decide +kernel
theorem d_X12_usesOf_111 : decode (qMc M_X12_usesOf) 111 = .ok (.getfield 95, 3) := by decide +kernel
theorem d_X12_usesOf_114 : decode (qMc M_X12_usesOf) 114 = .ok (.iload_n 3, 1) := by decide +kernel
theorem d_X12_usesOf_115 : decode (qMc M_X12_usesOf) 115 = .ok (.iconst 1, 1) := by decide +kernel
theorem d_X12_usesOf_116 : decode (qMc M_X12_usesOf) 116 = .ok (.iadd, 1) := by decide +kernel
theorem d_X12_usesOf_117 : decode (qMc M_X12_usesOf) 117 = .ok (.iaload, 1) := by decide +kernel
theorem d_X12_usesOf_118 : decode (qMc M_X12_usesOf) 118 = .ok (.goto 5, 3) := by decide +kernel
theorem d_X12_usesOf_121 : decode (qMc M_X12_usesOf) 121 = .ok (.bipush 8, 2) := by decide +kernel
theorem d_X12_usesOf_123 : decode (qMc M_X12_usesOf) 123 = .ok (.invokestatic 263, 3) := by decide +kernel
theorem d_X12_usesOf_126 : decode (qMc M_X12_usesOf) 126 = .ok (.iaload, 1) := by decide +kernel
theorem d_X12_usesOf_127 : decode (qMc M_X12_usesOf) 127 = .ok (.istore 4, 2) := by decide +kernel
theorem d_X12_usesOf_129 : decode (qMc M_X12_usesOf) 129 = .ok (.iload 4, 2) := by decide +kernel
theorem d_X12_usesOf_131 : decode (qMc M_X12_usesOf) 131 = .ok (.iconst (-1), 1) := by decide +kernel
theorem d_X12_usesOf_132 : decode (qMc M_X12_usesOf) 132 = .ok (.if_icmp .eq 11, 3) := by decide +kernel
theorem d_X12_usesOf_135 : decode (qMc M_X12_usesOf) 135 = .ok (.aload_n 0, 1) := by decide +kernel
theorem d_X12_usesOf_136 : decode (qMc M_X12_usesOf) 136 = .ok (.getfield 104, 3) := by decide +kernel
theorem d_X12_usesOf_139 : decode (qMc M_X12_usesOf) 139 = .ok (.iload 4, 2) := by decide +kernel
theorem d_X12_usesOf_141 : decode (qMc M_X12_usesOf) 141 = .ok (.iconst 1, 1) := by decide +kernel
theorem d_X12_usesOf_142 : decode (qMc M_X12_usesOf) 142 = .ok (.bastore, 1) := by decide +kernel
theorem d_X12_usesOf_143 : decode (qMc M_X12_usesOf) 143 = .ok (.iinc 3 1, 3) := by decide +kernel
theorem d_X12_usesOf_146 : decode (qMc M_X12_usesOf) 146 = .ok (.goto (-75), 3) := by decide +kernel
theorem d_X12_usesOf_149 : decode (qMc M_X12_usesOf) 149 = .ok (.aload_n 0, 1) := by decide +kernel
theorem d_X12_usesOf_150 : decode (qMc M_X12_usesOf) 150 = .ok (.aload_n 0, 1) := by decide +kernel
theorem d_X12_usesOf_151 : decode (qMc M_X12_usesOf) 151 = .ok (.getfield 95, 3) := by decide +kernel
theorem d_X12_usesOf_154 : decode (qMc M_X12_usesOf) 154 = .ok (.iload_n 1, 1) := by decide +kernel
theorem d_X12_usesOf_155 : decode (qMc M_X12_usesOf) 155 = .ok (.iconst 0, 1) := by decide +kernel
theorem d_X12_usesOf_156 : decode (qMc M_X12_usesOf) 156 = .ok (.iconst (-1), 1) := by decide +kernel
theorem d_X12_usesOf_157 : decode (qMc M_X12_usesOf) 157 = .ok (.aload_n 0, 1) := by decide +kernel
theorem d_X12_usesOf_158 : decode (qMc M_X12_usesOf) 158 = .ok (.getfield 86, 3) := by decide +kernel
theorem d_X12_usesOf_161 : decode (qMc M_X12_usesOf) 161 = .ok (.invokevirtual 336, 3) := by decide +kernel
theorem d_X12_usesOf_164 : decode (qMc M_X12_usesOf) 164 = .ok (.iinc 2 1, 3) := by decide +kernel
theorem d_X12_usesOf_167 : decode (qMc M_X12_usesOf) 167 = .ok (.goto (-156), 3) := by decide +kernel
theorem d_X12_usesOf_170 : decode (qMc M_X12_usesOf) 170 = .ok (.return_, 1) := by decide +kernel
