theorem d_X12_saysBy_0 : decode (qMc M_X12_saysBy) 0 = .ok (.aload_n 0, 1) := by decide +kernel
theorem d_X12_saysBy_1 : decode (qMc M_X12_saysBy) 1 = .ok (.getfield 17, 3) := by decide +kernel
theorem d_X12_saysBy_4 : decode (qMc M_X12_saysBy) 4 = .ok (.iconst 4, 1) := by decide +kernel
theorem d_X12_saysBy_5 : decode (qMc M_X12_saysBy) 5 = .ok (.iload_n 1, 1) := by decide +kernel
theorem d_X12_saysBy_6 : decode (qMc M_X12_saysBy) 6 = .ok (.imul, 1) := by decide +kernel
theorem d_X12_saysBy_7 : decode (qMc M_X12_saysBy) 7 = .ok (.iconst 3, 1) := by decide +kernel
theorem d_X12_saysBy_8 : decode (qMc M_X12_saysBy) 8 = .ok (.iadd, 1) := by decide +kernel
theorem d_X12_saysBy_9 : decode (qMc M_X12_saysBy) 9 = .ok (.iaload, 1) := by decide +kernel
theorem d_X12_saysBy_10 : decode (qMc M_X12_saysBy) 10 = .ok (.bipush 8, 2) := by decide +kernel
theorem d_X12_saysBy_12 : decode (qMc M_X12_saysBy) 12 = .ok (.if_icmp .ne 7, 3) := by decide +kernel
theorem d_X12_saysBy_15 : decode (qMc M_X12_saysBy) 15 = .ok (.iload_n 2, 1) := by decide +kernel
theorem d_X12_saysBy_16 : decode (qMc M_X12_saysBy) 16 = .ok (.goto 13, 3) := by decide +kernel
theorem d_X12_saysBy_19 : decode (qMc M_X12_saysBy) 19 = .ok (.aload_n 0, 1) := by decide +kernel
theorem d_X12_saysBy_20 : decode (qMc M_X12_saysBy) 20 = .ok (.getfield 17, 3) := by decide +kernel
theorem d_X12_saysBy_23 : decode (qMc M_X12_saysBy) 23 = .ok (.iconst 4, 1) := by decide +kernel
theorem d_X12_saysBy_24 : decode (qMc M_X12_saysBy) 24 = .ok (.iload_n 1, 1) := by decide +kernel
theorem d_X12_saysBy_25 : decode (qMc M_X12_saysBy) 25 = .ok (.imul, 1) := by decide +kernel
theorem d_X12_saysBy_26 : decode (qMc M_X12_saysBy) 26 = .ok (.iconst 3, 1) := by decide +kernel
theorem d_X12_saysBy_27 : decode (qMc M_X12_saysBy) 27 = .ok (.iadd, 1) := by decide +kernel
theorem d_X12_saysBy_28 : decode (qMc M_X12_saysBy) 28 = .ok (.iaload, 1) := by decide +kernel
theorem d_X12_saysBy_29 : decode (qMc M_X12_saysBy) 29 = .ok (.ireturn, 1) := by decide +kernel
theorem d_X12_isClash_0 : decode (qMc M_X12_isClash) 0 = .ok (.aload_n 0, 1) := by decide +kernel
theorem d_X12_isClash_1 : decode (qMc M_X12_isClash) 1 = .ok (.getfield 17, 3) := by decide +kernel
theorem d_X12_isClash_4 : decode (qMc M_X12_isClash) 4 = .ok (.iconst 4, 1) := by decide +kernel
theorem d_X12_isClash_5 : decode (qMc M_X12_isClash) 5 = .ok (.iload_n 1, 1) := by decide +kernel
theorem d_X12_isClash_6 : decode (qMc M_X12_isClash) 6 = .ok (.imul, 1) := by decide +kernel
theorem d_X12_isClash_7 : decode (qMc M_X12_isClash) 7 = .ok (.iconst 1, 1) := by decide +kernel
theorem d_X12_isClash_8 : decode (qMc M_X12_isClash) 8 = .ok (.iadd, 1) := by decide +kernel
theorem d_X12_isClash_9 : decode (qMc M_X12_isClash) 9 = .ok (.iaload, 1) := by decide +kernel
theorem d_X12_isClash_10 : decode (qMc M_X12_isClash) 10 = .ok (.aload_n 0, 1) := by decide +kernel
theorem d_X12_isClash_11 : decode (qMc M_X12_isClash) 11 = .ok (.getfield 17, 3) := by decide +kernel
theorem d_X12_isClash_14 : decode (qMc M_X12_isClash) 14 = .ok (.iconst 4, 1) := by decide +kernel
theorem d_X12_isClash_15 : decode (qMc M_X12_isClash) 15 = .ok (.iload_n 2, 1) := by decide +kernel
theorem d_X12_isClash_16 : decode (qMc M_X12_isClash) 16 = .ok (.imul, 1) := by decide +kernel
theorem d_X12_isClash_17 : decode (qMc M_X12_isClash) 17 = .ok (.iconst 1, 1) := by decide +kernel
theorem d_X12_isClash_18 : decode (qMc M_X12_isClash) 18 = .ok (.iadd, 1) := by decide +kernel
theorem d_X12_isClash_19 : decode (qMc M_X12_isClash) 19 = .ok (.iaload, 1) := by decide +kernel
theorem d_X12_isClash_20 : decode (qMc M_X12_isClash) 20 = .ok (.iand, 1) := by decide +kernel
theorem d_X12_isClash_21 : decode (qMc M_X12_isClash) 21 = .ok (.ifCond .eq 27, 3) := by decide +kernel
theorem d_X12_isClash_24 : decode (qMc M_X12_isClash) 24 = .ok (.aload_n 0, 1) := by decide +kernel
theorem d_X12_isClash_25 : decode (qMc M_X12_isClash) 25 = .ok (.getfield 17, 3) := by decide +kernel
theorem d_X12_isClash_28 : decode (qMc M_X12_isClash) 28 = .ok (.iconst 4, 1) := by decide +kernel
theorem d_X12_isClash_29 : decode (qMc M_X12_isClash) 29 = .ok (.iload_n 1, 1) := by decide +kernel
theorem d_X12_isClash_30 : decode (qMc M_X12_isClash) 30 = .ok (.imul, 1) := by decide +kernel
theorem d_X12_isClash_31 : decode (qMc M_X12_isClash) 31 = .ok (.iconst 2, 1) := by decide +kernel
theorem d_X12_isClash_32 : decode (qMc M_X12_isClash) 32 = .ok (.iadd, 1) := by decide +kernel
theorem d_X12_isClash_33 : decode (qMc M_X12_isClash) 33 = .ok (.iaload, 1) := by decide +kernel
theorem d_X12_isClash_34 : decode (qMc M_X12_isClash) 34 = .ok (.aload_n 0, 1) := by decide +kernel
theorem d_X12_isClash_35 : decode (qMc M_X12_isClash) 35 = .ok (.getfield 17, 3) := by decide +kernel
theorem d_X12_isClash_38 : decode (qMc M_X12_isClash) 38 = .ok (.iconst 4, 1) := by decide +kernel
theorem d_X12_isClash_39 : decode (qMc M_X12_isClash) 39 = .ok (.iload_n 2, 1) := by decide +kernel
theorem d_X12_isClash_40 : decode (qMc M_X12_isClash) 40 = .ok (.imul, 1) := by decide +kernel
theorem d_X12_isClash_41 : decode (qMc M_X12_isClash) 41 = .ok (.iconst 2, 1) := by decide +kernel
theorem d_X12_isClash_42 : decode (qMc M_X12_isClash) 42 = .ok (.iadd, 1) := by decide +kernel
theorem d_X12_isClash_43 : decode (qMc M_X12_isClash) 43 = .ok (.iaload, 1) := by decide +kernel
theorem d_X12_isClash_44 : decode (qMc M_X12_isClash) 44 = .ok (.iand, 1) := by decide +kernel
theorem d_X12_isClash_45 : decode (qMc M_X12_isClash) 45 = .ok (.ifCond .ne 5, 3) := by decide +kernel
theorem d_X12_isClash_48 : decode (qMc M_X12_isClash) 48 = .ok (.iconst 0, 1) := by decide +kernel
theorem d_X12_isClash_49 : decode (qMc M_X12_isClash) 49 = .ok (.ireturn, 1) := by decide +kernel
theorem d_X12_isClash_50 : decode (qMc M_X12_isClash) 50 = .ok (.iconst 0, 1) := by decide +kernel
theorem d_X12_isClash_51 : decode (qMc M_X12_isClash) 51 = .ok (.istore_n 3, 1) := by decide +kernel
theorem d_X12_isClash_52 : decode (qMc M_X12_isClash) 52 = .ok (.iload_n 3, 1) := by decide +kernel
theorem d_X12_isClash_53 : decode (qMc M_X12_isClash) 53 = .ok (.bipush 7, 2) := by decide +kernel
theorem d_X12_isClash_55 : decode (qMc M_X12_isClash) 55 = .ok (.if_icmp .ge 50, 3) := by decide +kernel
theorem d_X12_isClash_58 : decode (qMc M_X12_isClash) 58 = .ok (.aload_n 0, 1) := by decide +kernel
theorem d_X12_isClash_59 : decode (qMc M_X12_isClash) 59 = .ok (.getfield 17, 3) := by decide +kernel
theorem d_X12_isClash_62 : decode (qMc M_X12_isClash) 62 = .ok (.iconst 4, 1) := by decide +kernel
theorem d_X12_isClash_63 : decode (qMc M_X12_isClash) 63 = .ok (.iload_n 1, 1) := by decide +kernel
theorem d_X12_isClash_64 : decode (qMc M_X12_isClash) 64 = .ok (.imul, 1) := by decide +kernel
theorem d_X12_isClash_65 : decode (qMc M_X12_isClash) 65 = .ok (.iaload, 1) := by decide +kernel
theorem d_X12_isClash_66 : decode (qMc M_X12_isClash) 66 = .ok (.aload_n 0, 1) := by decide +kernel
theorem d_X12_isClash_67 : decode (qMc M_X12_isClash) 67 = .ok (.getfield 17, 3) := by decide +kernel
theorem d_X12_isClash_70 : decode (qMc M_X12_isClash) 70 = .ok (.iconst 4, 1) := by decide +kernel
theorem d_X12_isClash_71 : decode (qMc M_X12_isClash) 71 = .ok (.iload_n 2, 1) := by decide +kernel
theorem d_X12_isClash_72 : decode (qMc M_X12_isClash) 72 = .ok (.imul, 1) := by decide +kernel
theorem d_X12_isClash_73 : decode (qMc M_X12_isClash) 73 = .ok (.iaload, 1) := by decide +kernel
theorem d_X12_isClash_74 : decode (qMc M_X12_isClash) 74 = .ok (.iand, 1) := by decide +kernel
theorem d_X12_isClash_75 : decode (qMc M_X12_isClash) 75 = .ok (.iload_n 3, 1) := by decide +kernel
theorem d_X12_isClash_76 : decode (qMc M_X12_isClash) 76 = .ok (.invokestatic 259, 3) := by decide +kernel
theorem d_X12_isClash_79 : decode (qMc M_X12_isClash) 79 = .ok (.ifCond .eq 20, 3) := by decide +kernel
theorem d_X12_isClash_82 : decode (qMc M_X12_isClash) 82 = .ok (.aload_n 0, 1) := by decide +kernel
theorem d_X12_isClash_83 : decode (qMc M_X12_isClash) 83 = .ok (.iload_n 1, 1) := by decide +kernel
theorem d_X12_isClash_84 : decode (qMc M_X12_isClash) 84 = .ok (.iload_n 3, 1) := by decide +kernel
theorem d_X12_isClash_85 : decode (qMc M_X12_isClash) 85 = .ok (.invokevirtual 392, 3) := by decide +kernel
theorem d_X12_isClash_88 : decode (qMc M_X12_isClash) 88 = .ok (.aload_n 0, 1) := by decide +kernel
theorem d_X12_isClash_89 : decode (qMc M_X12_isClash) 89 = .ok (.iload_n 2, 1) := by decide +kernel
theorem d_X12_isClash_90 : decode (qMc M_X12_isClash) 90 = .ok (.iload_n 3, 1) := by decide +kernel
theorem d_X12_isClash_91 : decode (qMc M_X12_isClash) 91 = .ok (.invokevirtual 392, 3) := by decide +kernel
theorem d_X12_isClash_94 : decode (qMc M_X12_isClash) 94 = .ok (.if_icmp .eq 5, 3) := by decide +kernel
theorem d_X12_isClash_97 : decode (qMc M_X12_isClash) 97 = .ok (.iconst 1, 1) := by decide +kernel
theorem d_X12_isClash_98 : decode (qMc M_X12_isClash) 98 = .ok (.ireturn, 1) := by decide +kernel
theorem d_X12_isClash_99 : decode (qMc M_X12_isClash) 99 = .ok (.iinc 3 1, 3) := by decide +kernel
theorem d_X12_isClash_102 : decode (qMc M_X12_isClash) 102 = .ok (.goto (-50), 3) := by decide +kernel
theorem d_X12_isClash_105 : decode (qMc M_X12_isClash) 105 = .ok (.iconst 0, 1) := by decide +kernel
theorem d_X12_isClash_106 : decode (qMc M_X12_isClash) 106 = .ok (.ireturn, 1) := by decide +kernel
theorem d_X12_clashes_0 : decode (qMc M_X12_clashes) 0 = .ok (.iconst 0, 1) := by decide +kernel
theorem d_X12_clashes_1 : decode (qMc M_X12_clashes) 1 = .ok (.istore_n 1, 1) := by decide +kernel
theorem d_X12_clashes_2 : decode (qMc M_X12_clashes) 2 = .ok (.iconst 0, 1) := by decide +kernel
theorem d_X12_clashes_3 : decode (qMc M_X12_clashes) 3 = .ok (.istore_n 2, 1) := by decide +kernel
theorem d_X12_clashes_4 : decode (qMc M_X12_clashes) 4 = .ok (.iload_n 2, 1) := by decide +kernel
theorem d_X12_clashes_5 : decode (qMc M_X12_clashes) 5 = .ok (.bipush 96, 2) := by decide +kernel
theorem d_X12_clashes_7 : decode (qMc M_X12_clashes) 7 = .ok (.if_icmp .ge 58, 3) := by decide +kernel
theorem d_X12_clashes_10 : decode (qMc M_X12_clashes) 10 = .ok (.iload_n 2, 1) := by decide +kernel
theorem d_X12_clashes_11 : decode (qMc M_X12_clashes) 11 = .ok (.iconst 1, 1) := by decide +kernel
theorem d_X12_clashes_12 : decode (qMc M_X12_clashes) 12 = .ok (.iadd, 1) := by decide +kernel
theorem d_X12_clashes_13 : decode (qMc M_X12_clashes) 13 = .ok (.istore_n 3, 1) := by decide +kernel
theorem d_X12_clashes_14 : decode (qMc M_X12_clashes) 14 = .ok (.iload_n 3, 1) := by decide +kernel
theorem d_X12_clashes_15 : decode (qMc M_X12_clashes) 15 = .ok (.bipush 96, 2) := by decide +kernel
theorem d_X12_clashes_17 : decode (qMc M_X12_clashes) 17 = .ok (.if_icmp .ge 42, 3) := by decide +kernel
theorem d_X12_clashes_20 : decode (qMc M_X12_clashes) 20 = .ok (.iload_n 1, 1) := by decide +kernel
theorem d_X12_clashes_21 : decode (qMc M_X12_clashes) 21 = .ok (.aload_n 0, 1) := by decide +kernel
theorem d_X12_clashes_22 : decode (qMc M_X12_clashes) 22 = .ok (.iload_n 2, 1) := by decide +kernel
theorem d_X12_clashes_23 : decode (qMc M_X12_clashes) 23 = .ok (.invokevirtual 366, 3) := by decide +kernel
theorem d_X12_clashes_26 : decode (qMc M_X12_clashes) 26 = .ok (.ifCond .eq 24, 3) := by decide +kernel
theorem d_X12_clashes_29 : decode (qMc M_X12_clashes) 29 = .ok (.aload_n 0, 1) := by decide +kernel
theorem d_X12_clashes_30 : decode (qMc M_X12_clashes) 30 = .ok (.iload_n 3, 1) := by decide +kernel
theorem d_X12_clashes_31 : decode (qMc M_X12_clashes) 31 = .ok (.invokevirtual 366, 3) := by decide +kernel
theorem d_X12_clashes_34 : decode (qMc M_X12_clashes) 34 = .ok (.ifCond .eq 16, 3) := by decide +kernel
theorem d_X12_clashes_37 : decode (qMc M_X12_clashes) 37 = .ok (.aload_n 0, 1) := by decide +kernel
theorem d_X12_clashes_38 : decode (qMc M_X12_clashes) 38 = .ok (.iload_n 2, 1) := by decide +kernel
theorem d_X12_clashes_39 : decode (qMc M_X12_clashes) 39 = .ok (.iload_n 3, 1) := by decide +kernel
theorem d_X12_clashes_40 : decode (qMc M_X12_clashes) 40 = .ok (.invokevirtual 395, 3) := by decide +kernel
theorem d_X12_clashes_43 : decode (qMc M_X12_clashes) 43 = .ok (.ifCond .eq 7, 3) := by decide +kernel
theorem d_X12_clashes_46 : decode (qMc M_X12_clashes) 46 = .ok (.iconst 1, 1) := by decide +kernel
theorem d_X12_clashes_47 : decode (qMc M_X12_clashes) 47 = .ok (.goto 4, 3) := by decide +kernel
theorem d_X12_clashes_50 : decode (qMc M_X12_clashes) 50 = .ok (.iconst 0, 1) := by decide +kernel
theorem d_X12_clashes_51 : decode (qMc M_X12_clashes) 51 = .ok (.iadd, 1) := by decide +kernel
theorem d_X12_clashes_52 : decode (qMc M_X12_clashes) 52 = .ok (.istore_n 1, 1) := by decide +kernel
theorem d_X12_clashes_53 : decode (qMc M_X12_clashes) 53 = .ok (.iinc 3 1, 3) := by decide +kernel
theorem d_X12_clashes_56 : decode (qMc M_X12_clashes) 56 = .ok (.goto (-42), 3) := by decide +kernel
theorem d_X12_clashes_59 : decode (qMc M_X12_clashes) 59 = .ok (.iinc 2 1, 3) := by decide +kernel
theorem d_X12_clashes_62 : decode (qMc M_X12_clashes) 62 = .ok (.goto (-58), 3) := by decide +kernel
theorem d_X12_clashes_65 : decode (qMc M_X12_clashes) 65 = .ok (.iload_n 1, 1) := by decide +kernel
theorem d_X12_clashes_66 : decode (qMc M_X12_clashes) 66 = .ok (.ireturn, 1) := by decide +kernel
theorem d_X12_rules_0 : decode (qMc M_X12_rules) 0 = .ok (.aload_n 0, 1) := by decide +kernel
theorem d_X12_rules_1 : decode (qMc M_X12_rules) 1 = .ok (.iconst 0, 1) := by decide +kernel
theorem d_X12_rules_2 : decode (qMc M_X12_rules) 2 = .ok (.putfield 127, 3) := by decide +kernel
theorem d_X12_rules_5 : decode (qMc M_X12_rules) 5 = .ok (.iload_n 1, 1) := by decide +kernel
theorem d_X12_rules_6 : decode (qMc M_X12_rules) 6 = .ok (.iconst 0, 1) := by decide +kernel
theorem d_X12_rules_7 : decode (qMc M_X12_rules) 7 = .ok (.iconst 4, 1) := by decide +kernel
theorem d_X12_rules_8 : decode (qMc M_X12_rules) 8 = .ok (.invokestatic 137, 3) := by decide +kernel
theorem d_X12_rules_11 : decode (qMc M_X12_rules) 11 = .ok (.ifCond .ne 5, 3) := by decide +kernel
theorem d_X12_rules_14 : decode (qMc M_X12_rules) 14 = .ok (.iconst (-1), 1) := by decide +kernel
theorem d_X12_rules_15 : decode (qMc M_X12_rules) 15 = .ok (.ireturn, 1) := by decide +kernel
theorem d_X12_rules_16 : decode (qMc M_X12_rules) 16 = .ok (.iload_n 1, 1) := by decide +kernel
theorem d_X12_rules_17 : decode (qMc M_X12_rules) 17 = .ok (.ifCond .ne 8, 3) := by decide +kernel
theorem d_X12_rules_20 : decode (qMc M_X12_rules) 20 = .ok (.aload_n 0, 1) := by decide +kernel
theorem d_X12_rules_21 : decode (qMc M_X12_rules) 21 = .ok (.invokevirtual 398, 3) := by decide +kernel
theorem d_X12_rules_24 : decode (qMc M_X12_rules) 24 = .ok (.ireturn, 1) := by decide +kernel
theorem d_X12_rules_25 : decode (qMc M_X12_rules) 25 = .ok (.aload_n 0, 1) := by decide +kernel
theorem d_X12_rules_26 : decode (qMc M_X12_rules) 26 = .ok (.invokevirtual 275, 3) := by decide +kernel
theorem d_X12_rules_29 : decode (qMc M_X12_rules) 29 = .ok (.iconst 0, 1) := by decide +kernel
theorem d_X12_rules_30 : decode (qMc M_X12_rules) 30 = .ok (.istore_n 2, 1) := by decide +kernel
theorem d_X12_rules_31 : decode (qMc M_X12_rules) 31 = .ok (.iload_n 2, 1) := by decide +kernel
theorem d_X12_rules_32 : decode (qMc M_X12_rules) 32 = .ok (.bipush 96, 2) := by decide +kernel
theorem d_X12_rules_34 : decode (qMc M_X12_rules) 34 = .ok (.if_icmp .ge 16, 3) := by decide +kernel
theorem d_X12_rules_37 : decode (qMc M_X12_rules) 37 = .ok (.aload_n 0, 1) := by decide +kernel
theorem d_X12_rules_38 : decode (qMc M_X12_rules) 38 = .ok (.getfield 104, 3) := by decide +kernel
theorem d_X12_rules_41 : decode (qMc M_X12_rules) 41 = .ok (.iload_n 2, 1) := by decide +kernel
theorem d_X12_rules_42 : decode (qMc M_X12_rules) 42 = .ok (.iconst 0, 1) := by decide +kernel
theorem d_X12_rules_43 : decode (qMc M_X12_rules) 43 = .ok (.bastore, 1) := by decide +kernel
theorem d_X12_rules_44 : decode (qMc M_X12_rules) 44 = .ok (.iinc 2 1, 3) := by decide +kernel
theorem d_X12_rules_47 : decode (qMc M_X12_rules) 47 = .ok (.goto (-16), 3) := by decide +kernel
theorem d_X12_rules_50 : decode (qMc M_X12_rules) 50 = .ok (.iconst 0, 1) := by decide +kernel
theorem d_X12_rules_51 : decode (qMc M_X12_rules) 51 = .ok (.istore_n 2, 1) := by decide +kernel
theorem d_X12_rules_52 : decode (qMc M_X12_rules) 52 = .ok (.iconst 0, 1) := by decide +kernel
theorem d_X12_rules_53 : decode (qMc M_X12_rules) 53 = .ok (.istore_n 3, 1) := by decide +kernel
theorem d_X12_rules_54 : decode (qMc M_X12_rules) 54 = .ok (.iconst (-1), 1) := by decide +kernel
theorem d_X12_rules_55 : decode (qMc M_X12_rules) 55 = .ok (.istore 4, 2) := by decide +kernel
theorem d_X12_rules_57 : decode (qMc M_X12_rules) 57 = .ok (.iconst 0, 1) := by decide +kernel
theorem d_X12_rules_58 : decode (qMc M_X12_rules) 58 = .ok (.istore 5, 2) := by decide +kernel
theorem d_X12_rules_60 : decode (qMc M_X12_rules) 60 = .ok (.iload 5, 2) := by decide +kernel
theorem d_X12_rules_62 : decode (qMc M_X12_rules) 62 = .ok (.sipush 648, 3) := by decide +kernel
theorem d_X12_rules_65 : decode (qMc M_X12_rules) 65 = .ok (.if_icmp .ge 77, 3) := by decide +kernel
theorem d_X12_rules_68 : decode (qMc M_X12_rules) 68 = .ok (.aload_n 0, 1) := by decide +kernel
theorem d_X12_rules_69 : decode (qMc M_X12_rules) 69 = .ok (.getfield 89, 3) := by decide +kernel
theorem d_X12_rules_72 : decode (qMc M_X12_rules) 72 = .ok (.iload 5, 2) := by decide +kernel
theorem d_X12_rules_74 : decode (qMc M_X12_rules) 74 = .ok (.iaload, 1) := by decide +kernel
theorem d_X12_rules_75 : decode (qMc M_X12_rules) 75 = .ok (.iconst (-1), 1) := by decide +kernel
theorem d_X12_rules_76 : decode (qMc M_X12_rules) 76 = .ok (.if_icmp .eq 16, 3) := by decide +kernel
theorem d_X12_rules_79 : decode (qMc M_X12_rules) 79 = .ok (.aload_n 0, 1) := by decide +kernel
theorem d_X12_rules_80 : decode (qMc M_X12_rules) 80 = .ok (.getfield 104, 3) := by decide +kernel
theorem d_X12_rules_83 : decode (qMc M_X12_rules) 83 = .ok (.aload_n 0, 1) := by decide +kernel
theorem d_X12_rules_84 : decode (qMc M_X12_rules) 84 = .ok (.getfield 89, 3) := by decide +kernel
theorem d_X12_rules_87 : decode (qMc M_X12_rules) 87 = .ok (.iload 5, 2) := by decide +kernel
theorem d_X12_rules_89 : decode (qMc M_X12_rules) 89 = .ok (.iaload, 1) := by decide +kernel
theorem d_X12_rules_90 : decode (qMc M_X12_rules) 90 = .ok (.iconst 1, 1) := by decide +kernel
theorem d_X12_rules_91 : decode (qMc M_X12_rules) 91 = .ok (.bastore, 1) := by decide +kernel
theorem d_X12_rules_92 : decode (qMc M_X12_rules) 92 = .ok (.iload_n 2, 1) := by decide +kernel
theorem d_X12_rules_93 : decode (qMc M_X12_rules) 93 = .ok (.aload_n 0, 1) := by decide +kernel
theorem d_X12_rules_94 : decode (qMc M_X12_rules) 94 = .ok (.getfield 86, 3) := by decide +kernel
theorem d_X12_rules_97 : decode (qMc M_X12_rules) 97 = .ok (.iload 5, 2) := by decide +kernel
theorem d_X12_rules_99 : decode (qMc M_X12_rules) 99 = .ok (.iaload, 1) := by decide +kernel
theorem d_X12_rules_100 : decode (qMc M_X12_rules) 100 = .ok (.aload_n 0, 1) := by decide +kernel
theorem d_X12_rules_101 : decode (qMc M_X12_rules) 101 = .ok (.getfield 86, 3) := by decide +kernel
theorem d_X12_rules_104 : decode (qMc M_X12_rules) 104 = .ok (.iload 5, 2) := by decide +kernel
theorem d_X12_rules_106 : decode (qMc M_X12_rules) 106 = .ok (.bipush 81, 2) := by decide +kernel
theorem d_X12_rules_108 : decode (qMc M_X12_rules) 108 = .ok (.idiv, 1) := by decide +kernel
theorem d_X12_rules_109 : decode (qMc M_X12_rules) 109 = .ok (.iload 5, 2) := by decide +kernel
theorem d_X12_rules_111 : decode (qMc M_X12_rules) 111 = .ok (.bipush 9, 2) := by decide +kernel
theorem d_X12_rules_113 : decode (qMc M_X12_rules) 113 = .ok (.irem, 1) := by decide +kernel
theorem d_X12_rules_114 : decode (qMc M_X12_rules) 114 = .ok (.iload 5, 2) := by decide +kernel
theorem d_X12_rules_116 : decode (qMc M_X12_rules) 116 = .ok (.bipush 9, 2) := by decide +kernel
theorem d_X12_rules_118 : decode (qMc M_X12_rules) 118 = .ok (.idiv, 1) := by decide +kernel
theorem d_X12_rules_119 : decode (qMc M_X12_rules) 119 = .ok (.bipush 9, 2) := by decide +kernel
theorem d_X12_rules_121 : decode (qMc M_X12_rules) 121 = .ok (.irem, 1) := by decide +kernel
theorem d_X12_rules_122 : decode (qMc M_X12_rules) 122 = .ok (.invokestatic 263, 3) := by decide +kernel
theorem d_X12_rules_125 : decode (qMc M_X12_rules) 125 = .ok (.iaload, 1) := by decide +kernel
theorem d_X12_rules_126 : decode (qMc M_X12_rules) 126 = .ok (.if_icmp .ne 7, 3) := by decide +kernel
theorem d_X12_rules_129 : decode (qMc M_X12_rules) 129 = .ok (.iconst 0, 1) := by decide +kernel
theorem d_X12_rules_130 : decode (qMc M_X12_rules) 130 = .ok (.goto 4, 3) := by decide +kernel
theorem d_X12_rules_133 : decode (qMc M_X12_rules) 133 = .ok (.iconst 1, 1) := by decide +kernel
theorem d_X12_rules_134 : decode (qMc M_X12_rules) 134 = .ok (.iadd, 1) := by decide +kernel
theorem d_X12_rules_135 : decode (qMc M_X12_rules) 135 = .ok (.istore_n 2, 1) := by decide +kernel
theorem d_X12_rules_136 : decode (qMc M_X12_rules) 136 = .ok (.iinc 5 1, 3) := by decide +kernel
theorem d_X12_rules_139 : decode (qMc M_X12_rules) 139 = .ok (.goto (-79), 3) := by decide +kernel
theorem d_X12_rules_142 : decode (qMc M_X12_rules) 142 = .ok (.bipush 95, 2) := by decide +kernel
theorem d_X12_rules_144 : decode (qMc M_X12_rules) 144 = .ok (.istore 5, 2) := by decide +kernel
theorem d_X12_rules_146 : decode (qMc M_X12_rules) 146 = .ok (.iload 5, 2) := by decide +kernel
theorem d_X12_rules_148 : decode (qMc M_X12_rules) 148 = .ok (.ifCond .lt 38, 3) := by decide +kernel
theorem d_X12_rules_151 : decode (qMc M_X12_rules) 151 = .ok (.aload_n 0, 1) := by decide +kernel
theorem d_X12_rules_152 : decode (qMc M_X12_rules) 152 = .ok (.iload 5, 2) := by decide +kernel
theorem d_X12_rules_154 : decode (qMc M_X12_rules) 154 = .ok (.invokevirtual 366, 3) := by decide +kernel
theorem d_X12_rules_157 : decode (qMc M_X12_rules) 157 = .ok (.ifCond .eq 23, 3) := by decide +kernel
theorem d_X12_rules_160 : decode (qMc M_X12_rules) 160 = .ok (.aload_n 0, 1) := by decide +kernel
theorem d_X12_rules_161 : decode (qMc M_X12_rules) 161 = .ok (.getfield 104, 3) := by decide +kernel
theorem d_X12_rules_164 : decode (qMc M_X12_rules) 164 = .ok (.iload 5, 2) := by decide +kernel
theorem d_X12_rules_166 : decode (qMc M_X12_rules) 166 = .ok (.baload, 1) := by decide +kernel
theorem d_X12_rules_167 : decode (qMc M_X12_rules) 167 = .ok (.ifCond .eq 6, 3) := by decide +kernel
theorem d_X12_rules_170 : decode (qMc M_X12_rules) 170 = .ok (.goto 10, 3) := by decide +kernel
theorem d_X12_rules_173 : decode (qMc M_X12_rules) 173 = .ok (.iinc 3 1, 3) := by decide +kernel
theorem d_X12_rules_176 : decode (qMc M_X12_rules) 176 = .ok (.iload 5, 2) := by decide +kernel
theorem d_X12_rules_178 : decode (qMc M_X12_rules) 178 = .ok (.istore 4, 2) := by decide +kernel
theorem d_X12_rules_180 : decode (qMc M_X12_rules) 180 = .ok (.iinc 5 (-1), 3) := by decide +kernel
theorem d_X12_rules_183 : decode (qMc M_X12_rules) 183 = .ok (.goto (-37), 3) := by decide +kernel
theorem d_X12_rules_186 : decode (qMc M_X12_rules) 186 = .ok (.iload_n 1, 1) := by decide +kernel
theorem d_X12_rules_187 : decode (qMc M_X12_rules) 187 = .ok (.iconst 1, 1) := by decide +kernel
theorem d_X12_rules_188 : decode (qMc M_X12_rules) 188 = .ok (.if_icmp .ne 7, 3) := by decide +kernel
theorem d_X12_rules_191 : decode (qMc M_X12_rules) 191 = .ok (.iload_n 3, 1) := by decide +kernel
theorem d_X12_rules_192 : decode (qMc M_X12_rules) 192 = .ok (.goto 31, 3) := by decide +kernel
theorem d_X12_rules_195 : decode (qMc M_X12_rules) 195 = .ok (.iload_n 1, 1) := by decide +kernel
theorem d_X12_rules_196 : decode (qMc M_X12_rules) 196 = .ok (.iconst 2, 1) := by decide +kernel
theorem d_X12_rules_197 : decode (qMc M_X12_rules) 197 = .ok (.if_icmp .ne 8, 3) := by decide +kernel
theorem d_X12_rules_200 : decode (qMc M_X12_rules) 200 = .ok (.iload 4, 2) := by decide +kernel
theorem d_X12_rules_202 : decode (qMc M_X12_rules) 202 = .ok (.goto 21, 3) := by decide +kernel
theorem d_X12_rules_205 : decode (qMc M_X12_rules) 205 = .ok (.iload_n 1, 1) := by decide +kernel
theorem d_X12_rules_206 : decode (qMc M_X12_rules) 206 = .ok (.iconst 3, 1) := by decide +kernel
theorem d_X12_rules_207 : decode (qMc M_X12_rules) 207 = .ok (.if_icmp .ne 15, 3) := by decide +kernel
theorem d_X12_rules_210 : decode (qMc M_X12_rules) 210 = .ok (.iload_n 2, 1) := by decide +kernel
theorem d_X12_rules_211 : decode (qMc M_X12_rules) 211 = .ok (.ifCond .ne 7, 3) := by decide +kernel
theorem d_X12_rules_214 : decode (qMc M_X12_rules) 214 = .ok (.iconst 1, 1) := by decide +kernel
theorem d_X12_rules_215 : decode (qMc M_X12_rules) 215 = .ok (.goto 8, 3) := by decide +kernel
theorem d_X12_rules_218 : decode (qMc M_X12_rules) 218 = .ok (.iconst 0, 1) := by decide +kernel
theorem d_X12_rules_219 : decode (qMc M_X12_rules) 219 = .ok (.goto 4, 3) := by decide +kernel
theorem d_X12_rules_222 : decode (qMc M_X12_rules) 222 = .ok (.iload_n 2, 1) := by decide +kernel
theorem d_X12_rules_223 : decode (qMc M_X12_rules) 223 = .ok (.ireturn, 1) := by decide +kernel
theorem d_X12_mixes_0 : decode (qMc M_X12_mixes) 0 = .ok (.iconst 0, 1) := by decide +kernel
theorem d_X12_mixes_1 : decode (qMc M_X12_mixes) 1 = .ok (.istore_n 2, 1) := by decide +kernel
theorem d_X12_mixes_2 : decode (qMc M_X12_mixes) 2 = .ok (.iload_n 2, 1) := by decide +kernel
theorem d_X12_mixes_3 : decode (qMc M_X12_mixes) 3 = .ok (.iconst 4, 1) := by decide +kernel
theorem d_X12_mixes_4 : decode (qMc M_X12_mixes) 4 = .ok (.if_icmp .ge 99, 3) := by decide +kernel
theorem d_X12_mixes_7 : decode (qMc M_X12_mixes) 7 = .ok (.iload_n 1, 1) := by decide +kernel
theorem d_X12_mixes_8 : decode (qMc M_X12_mixes) 8 = .ok (.iload_n 2, 1) := by decide +kernel
theorem d_X12_mixes_9 : decode (qMc M_X12_mixes) 9 = .ok (.invokestatic 259, 3) := by decide +kernel
theorem d_X12_mixes_12 : decode (qMc M_X12_mixes) 12 = .ok (.istore_n 3, 1) := by decide +kernel
theorem d_X12_mixes_13 : decode (qMc M_X12_mixes) 13 = .ok (.aload_n 0, 1) := by decide +kernel
theorem d_X12_mixes_14 : decode (qMc M_X12_mixes) 14 = .ok (.getfield 121, 3) := by decide +kernel
theorem d_X12_mixes_17 : decode (qMc M_X12_mixes) 17 = .ok (.iload_n 2, 1) := by decide +kernel
theorem d_X12_mixes_18 : decode (qMc M_X12_mixes) 18 = .ok (.iload_n 3, 1) := by decide +kernel
theorem d_X12_mixes_19 : decode (qMc M_X12_mixes) 19 = .ok (.ifCond .eq 12, 3) := by decide +kernel
theorem d_X12_mixes_22 : decode (qMc M_X12_mixes) 22 = .ok (.aload_n 0, 1) := by decide +kernel
theorem d_X12_mixes_23 : decode (qMc M_X12_mixes) 23 = .ok (.getfield 29, 3) := by decide +kernel
theorem d_X12_mixes_26 : decode (qMc M_X12_mixes) 26 = .ok (.iload_n 2, 1) := by decide +kernel
theorem d_X12_mixes_27 : decode (qMc M_X12_mixes) 27 = .ok (.iaload, 1) := by decide +kernel
theorem d_X12_mixes_28 : decode (qMc M_X12_mixes) 28 = .ok (.goto 9, 3) := by decide +kernel
theorem d_X12_mixes_31 : decode (qMc M_X12_mixes) 31 = .ok (.aload_n 0, 1) := by decide +kernel
theorem d_X12_mixes_32 : decode (qMc M_X12_mixes) 32 = .ok (.getfield 26, 3) := by decide +kernel
theorem d_X12_mixes_35 : decode (qMc M_X12_mixes) 35 = .ok (.iload_n 2, 1) := by decide +kernel
theorem d_X12_mixes_36 : decode (qMc M_X12_mixes) 36 = .ok (.iaload, 1) := by decide +kernel
theorem d_X12_mixes_37 : decode (qMc M_X12_mixes) 37 = .ok (.iastore, 1) := by decide +kernel
theorem d_X12_mixes_38 : decode (qMc M_X12_mixes) 38 = .ok (.iconst 0, 1) := by decide +kernel
theorem d_X12_mixes_39 : decode (qMc M_X12_mixes) 39 = .ok (.istore 4, 2) := by decide +kernel
theorem d_X12_mixes_41 : decode (qMc M_X12_mixes) 41 = .ok (.iload 4, 2) := by decide +kernel
theorem d_X12_mixes_43 : decode (qMc M_X12_mixes) 43 = .ok (.bipush 96, 2) := by decide +kernel
theorem d_X12_mixes_45 : decode (qMc M_X12_mixes) 45 = .ok (.if_icmp .ge 52, 3) := by decide +kernel
theorem d_X12_mixes_48 : decode (qMc M_X12_mixes) 48 = .ok (.aload_n 0, 1) := by decide +kernel
theorem d_X12_mixes_49 : decode (qMc M_X12_mixes) 49 = .ok (.getfield 118, 3) := by decide +kernel
theorem d_X12_mixes_52 : decode (qMc M_X12_mixes) 52 = .ok (.bipush 96, 2) := by decide +kernel
theorem d_X12_mixes_54 : decode (qMc M_X12_mixes) 54 = .ok (.iload_n 2, 1) := by decide +kernel
theorem d_X12_mixes_55 : decode (qMc M_X12_mixes) 55 = .ok (.imul, 1) := by decide +kernel
theorem d_X12_mixes_56 : decode (qMc M_X12_mixes) 56 = .ok (.iload 4, 2) := by decide +kernel
theorem d_X12_mixes_58 : decode (qMc M_X12_mixes) 58 = .ok (.iadd, 1) := by decide +kernel
theorem d_X12_mixes_59 : decode (qMc M_X12_mixes) 59 = .ok (.iload_n 3, 1) := by decide +kernel
theorem d_X12_mixes_60 : decode (qMc M_X12_mixes) 60 = .ok (.ifCond .eq 18, 3) := by decide +kernel
theorem d_X12_mixes_63 : decode (qMc M_X12_mixes) 63 = .ok (.aload_n 0, 1) := by decide +kernel
theorem d_X12_mixes_64 : decode (qMc M_X12_mixes) 64 = .ok (.getfield 20, 3) := by decide +kernel
theorem d_X12_mixes_67 : decode (qMc M_X12_mixes) 67 = .ok (.bipush 96, 2) := by decide +kernel
theorem d_X12_mixes_69 : decode (qMc M_X12_mixes) 69 = .ok (.iload_n 2, 1) := by decide +kernel
theorem d_X12_mixes_70 : decode (qMc M_X12_mixes) 70 = .ok (.imul, 1) := by decide +kernel
theorem d_X12_mixes_71 : decode (qMc M_X12_mixes) 71 = .ok (.iload 4, 2) := by decide +kernel
theorem d_X12_mixes_73 : decode (qMc M_X12_mixes) 73 = .ok (.iadd, 1) := by decide +kernel
theorem d_X12_mixes_74 : decode (qMc M_X12_mixes) 74 = .ok (.iaload, 1) := by decide +kernel
theorem d_X12_mixes_75 : decode (qMc M_X12_mixes) 75 = .ok (.goto 15, 3) := by decide +kernel
theorem d_X12_mixes_78 : decode (qMc M_X12_mixes) 78 = .ok (.aload_n 0, 1) := by decide +kernel
theorem d_X12_mixes_79 : decode (qMc M_X12_mixes) 79 = .ok (.getfield 17, 3) := by decide +kernel
theorem d_X12_mixes_82 : decode (qMc M_X12_mixes) 82 = .ok (.bipush 96, 2) := by decide +kernel
theorem d_X12_mixes_84 : decode (qMc M_X12_mixes) 84 = .ok (.iload_n 2, 1) := by decide +kernel
theorem d_X12_mixes_85 : decode (qMc M_X12_mixes) 85 = .ok (.imul, 1) := by decide +kernel
theorem d_X12_mixes_86 : decode (qMc M_X12_mixes) 86 = .ok (.iload 4, 2) := by decide +kernel
theorem d_X12_mixes_88 : decode (qMc M_X12_mixes) 88 = .ok (.iadd, 1) := by decide +kernel
theorem d_X12_mixes_89 : decode (qMc M_X12_mixes) 89 = .ok (.iaload, 1) := by decide +kernel
theorem d_X12_mixes_90 : decode (qMc M_X12_mixes) 90 = .ok (.iastore, 1) := by decide +kernel
theorem d_X12_mixes_91 : decode (qMc M_X12_mixes) 91 = .ok (.iinc 4 1, 3) := by decide +kernel
theorem d_X12_mixes_94 : decode (qMc M_X12_mixes) 94 = .ok (.goto (-53), 3) := by decide +kernel
theorem d_X12_mixes_97 : decode (qMc M_X12_mixes) 97 = .ok (.iinc 2 1, 3) := by decide +kernel
theorem d_X12_mixes_100 : decode (qMc M_X12_mixes) 100 = .ok (.goto (-98), 3) := by decide +kernel
theorem d_X12_mixes_103 : decode (qMc M_X12_mixes) 103 = .ok (.return_, 1) := by decide +kernel
theorem d_X12_mixed_0 : decode (qMc M_X12_mixed) 0 = .ok (.aload_n 0, 1) := by decide +kernel
theorem d_X12_mixed_1 : decode (qMc M_X12_mixed) 1 = .ok (.iconst 0, 1) := by decide +kernel
theorem d_X12_mixed_2 : decode (qMc M_X12_mixed) 2 = .ok (.putfield 127, 3) := by decide +kernel
theorem d_X12_mixed_5 : decode (qMc M_X12_mixed) 5 = .ok (.iload_n 1, 1) := by decide +kernel
theorem d_X12_mixed_6 : decode (qMc M_X12_mixed) 6 = .ok (.iconst 1, 1) := by decide +kernel
theorem d_X12_mixed_7 : decode (qMc M_X12_mixed) 7 = .ok (.bipush 24, 2) := by decide +kernel
theorem d_X12_mixed_9 : decode (qMc M_X12_mixed) 9 = .ok (.invokestatic 137, 3) := by decide +kernel
theorem d_X12_mixed_12 : decode (qMc M_X12_mixed) 12 = .ok (.ifCond .eq 12, 3) := by decide +kernel
theorem d_X12_mixed_15 : decode (qMc M_X12_mixed) 15 = .ok (.iload_n 2, 1) := by decide +kernel
theorem d_X12_mixed_16 : decode (qMc M_X12_mixed) 16 = .ok (.iconst 0, 1) := by decide +kernel
theorem d_X12_mixed_17 : decode (qMc M_X12_mixed) 17 = .ok (.iconst 1, 1) := by decide +kernel
theorem d_X12_mixed_18 : decode (qMc M_X12_mixed) 18 = .ok (.invokestatic 137, 3) := by decide +kernel
theorem d_X12_mixed_21 : decode (qMc M_X12_mixed) 21 = .ok (.ifCond .ne 5, 3) := by decide +kernel
theorem d_X12_mixed_24 : decode (qMc M_X12_mixed) 24 = .ok (.iconst (-1), 1) := by decide +kernel
theorem d_X12_mixed_25 : decode (qMc M_X12_mixed) 25 = .ok (.ireturn, 1) := by decide +kernel
theorem d_X12_mixed_26 : decode (qMc M_X12_mixed) 26 = .ok (.iconst 0, 1) := by decide +kernel
theorem d_X12_mixed_27 : decode (qMc M_X12_mixed) 27 = .ok (.istore_n 3, 1) := by decide +kernel
theorem d_X12_mixed_28 : decode (qMc M_X12_mixed) 28 = .ok (.iconst (-1), 1) := by decide +kernel
theorem d_X12_mixed_29 : decode (qMc M_X12_mixed) 29 = .ok (.istore 4, 2) := by decide +kernel
theorem d_X12_mixed_31 : decode (qMc M_X12_mixed) 31 = .ok (.bipush 15, 2) := by decide +kernel
theorem d_X12_mixed_33 : decode (qMc M_X12_mixed) 33 = .ok (.istore 5, 2) := by decide +kernel
theorem d_X12_mixed_35 : decode (qMc M_X12_mixed) 35 = .ok (.iload 5, 2) := by decide +kernel
theorem d_X12_mixed_37 : decode (qMc M_X12_mixed) 37 = .ok (.ifCond .lt 55, 3) := by decide +kernel
theorem d_X12_mixed_40 : decode (qMc M_X12_mixed) 40 = .ok (.aload_n 0, 1) := by decide +kernel
theorem d_X12_mixed_41 : decode (qMc M_X12_mixed) 41 = .ok (.iload 5, 2) := by decide +kernel
theorem d_X12_mixed_43 : decode (qMc M_X12_mixed) 43 = .ok (.invokevirtual 401, 3) := by decide +kernel
theorem d_X12_mixed_46 : decode (qMc M_X12_mixed) 46 = .ok (.aload_n 0, 1) := by decide +kernel
theorem d_X12_mixed_47 : decode (qMc M_X12_mixed) 47 = .ok (.aload_n 0, 1) := by decide +kernel
theorem d_X12_mixed_48 : decode (qMc M_X12_mixed) 48 = .ok (.getfield 118, 3) := by decide +kernel
theorem d_X12_mixed_51 : decode (qMc M_X12_mixed) 51 = .ok (.aload_n 0, 1) := by decide +kernel
theorem d_X12_mixed_52 : decode (qMc M_X12_mixed) 52 = .ok (.getfield 121, 3) := by decide +kernel
theorem d_X12_mixed_55 : decode (qMc M_X12_mixed) 55 = .ok (.bipush 15, 2) := by decide +kernel
theorem d_X12_mixed_57 : decode (qMc M_X12_mixed) 57 = .ok (.iconst (-1), 1) := by decide +kernel
theorem d_X12_mixed_58 : decode (qMc M_X12_mixed) 58 = .ok (.iconst (-1), 1) := by decide +kernel
theorem d_X12_mixed_59 : decode (qMc M_X12_mixed) 59 = .ok (.iconst 0, 1) := by decide +kernel
theorem d_X12_mixed_60 : decode (qMc M_X12_mixed) 60 = .ok (.aload_n 0, 1) := by decide +kernel
theorem d_X12_mixed_61 : decode (qMc M_X12_mixed) 61 = .ok (.getfield 86, 3) := by decide +kernel
theorem d_X12_mixed_64 : decode (qMc M_X12_mixed) 64 = .ok (.invokevirtual 271, 3) := by decide +kernel
theorem d_X12_mixed_67 : decode (qMc M_X12_mixed) 67 = .ok (.aload_n 0, 1) := by decide +kernel
theorem d_X12_mixed_68 : decode (qMc M_X12_mixed) 68 = .ok (.iload_n 1, 1) := by decide +kernel
theorem d_X12_mixed_69 : decode (qMc M_X12_mixed) 69 = .ok (.invokevirtual 354, 3) := by decide +kernel
theorem d_X12_mixed_72 : decode (qMc M_X12_mixed) 72 = .ok (.iconst (-1), 1) := by decide +kernel
theorem d_X12_mixed_73 : decode (qMc M_X12_mixed) 73 = .ok (.if_icmp .eq 6, 3) := by decide +kernel
theorem d_X12_mixed_76 : decode (qMc M_X12_mixed) 76 = .ok (.goto 10, 3) := by decide +kernel
theorem d_X12_mixed_79 : decode (qMc M_X12_mixed) 79 = .ok (.iinc 3 1, 3) := by decide +kernel
theorem d_X12_mixed_82 : decode (qMc M_X12_mixed) 82 = .ok (.iload 5, 2) := by decide +kernel
theorem d_X12_mixed_84 : decode (qMc M_X12_mixed) 84 = .ok (.istore 4, 2) := by decide +kernel
theorem d_X12_mixed_86 : decode (qMc M_X12_mixed) 86 = .ok (.iinc 5 (-1), 3) := by decide +kernel
theorem d_X12_mixed_89 : decode (qMc M_X12_mixed) 89 = .ok (.goto (-54), 3) := by decide +kernel
theorem d_X12_mixed_92 : decode (qMc M_X12_mixed) 92 = .ok (.iload_n 2, 1) := by decide +kernel
theorem d_X12_mixed_93 : decode (qMc M_X12_mixed) 93 = .ok (.ifCond .ne 7, 3) := by decide +kernel
theorem d_X12_mixed_96 : decode (qMc M_X12_mixed) 96 = .ok (.iload_n 3, 1) := by decide +kernel
theorem d_X12_mixed_97 : decode (qMc M_X12_mixed) 97 = .ok (.goto 5, 3) := by decide +kernel
theorem d_X12_mixed_100 : decode (qMc M_X12_mixed) 100 = .ok (.iload 4, 2) := by decide +kernel
theorem d_X12_mixed_102 : decode (qMc M_X12_mixed) 102 = .ok (.ireturn, 1) := by decide +kernel
theorem d_X12_unlike_0 : decode (qMc M_X12_unlike) 0 = .ok (.aload_n 0, 1) := by decide +kernel
theorem d_X12_unlike_1 : decode (qMc M_X12_unlike) 1 = .ok (.iconst 0, 1) := by decide +kernel
theorem d_X12_unlike_2 : decode (qMc M_X12_unlike) 2 = .ok (.putfield 127, 3) := by decide +kernel
theorem d_X12_unlike_5 : decode (qMc M_X12_unlike) 5 = .ok (.iload_n 1, 1) := by decide +kernel
theorem d_X12_unlike_6 : decode (qMc M_X12_unlike) 6 = .ok (.iconst 0, 1) := by decide +kernel
theorem d_X12_unlike_7 : decode (qMc M_X12_unlike) 7 = .ok (.iconst 3, 1) := by decide +kernel
theorem d_X12_unlike_8 : decode (qMc M_X12_unlike) 8 = .ok (.invokestatic 137, 3) := by decide +kernel
theorem d_X12_unlike_11 : decode (qMc M_X12_unlike) 11 = .ok (.ifCond .eq 21, 3) := by decide +kernel
theorem d_X12_unlike_14 : decode (qMc M_X12_unlike) 14 = .ok (.iload_n 2, 1) := by decide +kernel
theorem d_X12_unlike_15 : decode (qMc M_X12_unlike) 15 = .ok (.iconst 0, 1) := by decide +kernel
theorem d_X12_unlike_16 : decode (qMc M_X12_unlike) 16 = .ok (.iconst 3, 1) := by decide +kernel
theorem d_X12_unlike_17 : decode (qMc M_X12_unlike) 17 = .ok (.invokestatic 137, 3) := by decide +kernel
theorem d_X12_unlike_20 : decode (qMc M_X12_unlike) 20 = .ok (.ifCond .eq 12, 3) := by decide +kernel
theorem d_X12_unlike_23 : decode (qMc M_X12_unlike) 23 = .ok (.iload_n 3, 1) := by decide +kernel
theorem d_X12_unlike_24 : decode (qMc M_X12_unlike) 24 = .ok (.iconst 0, 1) := by decide +kernel
theorem d_X12_unlike_25 : decode (qMc M_X12_unlike) 25 = .ok (.iconst 1, 1) := by decide +kernel
theorem d_X12_unlike_26 : decode (qMc M_X12_unlike) 26 = .ok (.invokestatic 137, 3) := by decide +kernel
theorem d_X12_unlike_29 : decode (qMc M_X12_unlike) 29 = .ok (.ifCond .ne 5, 3) := by decide +kernel
theorem d_X12_unlike_32 : decode (qMc M_X12_unlike) 32 = .ok (.iconst (-1), 1) := by decide +kernel
theorem d_X12_unlike_33 : decode (qMc M_X12_unlike) 33 = .ok (.ireturn, 1) := by decide +kernel
theorem d_X12_unlike_34 : decode (qMc M_X12_unlike) 34 = .ok (.aload_n 0, 1) := by decide +kernel
theorem d_X12_unlike_35 : decode (qMc M_X12_unlike) 35 = .ok (.aload_n 0, 1) := by decide +kernel
theorem d_X12_unlike_36 : decode (qMc M_X12_unlike) 36 = .ok (.getfield 17, 3) := by decide +kernel
theorem d_X12_unlike_39 : decode (qMc M_X12_unlike) 39 = .ok (.aload_n 0, 1) := by decide +kernel
theorem d_X12_unlike_40 : decode (qMc M_X12_unlike) 40 = .ok (.getfield 26, 3) := by decide +kernel
theorem d_X12_unlike_43 : decode (qMc M_X12_unlike) 43 = .ok (.iconst 1, 1) := by decide +kernel
theorem d_X12_unlike_44 : decode (qMc M_X12_unlike) 44 = .ok (.iload_n 1, 1) := by decide +kernel
theorem d_X12_unlike_45 : decode (qMc M_X12_unlike) 45 = .ok (.ishl, 1) := by decide +kernel
theorem d_X12_unlike_46 : decode (qMc M_X12_unlike) 46 = .ok (.iconst (-1), 1) := by decide +kernel
theorem d_X12_unlike_47 : decode (qMc M_X12_unlike) 47 = .ok (.iconst (-1), 1) := by decide +kernel
theorem d_X12_unlike_48 : decode (qMc M_X12_unlike) 48 = .ok (.iconst 0, 1) := by decide +kernel
theorem d_X12_unlike_49 : decode (qMc M_X12_unlike) 49 = .ok (.aload_n 0, 1) := by decide +kernel
theorem d_X12_unlike_50 : decode (qMc M_X12_unlike) 50 = .ok (.getfield 86, 3) := by decide +kernel
theorem d_X12_unlike_53 : decode (qMc M_X12_unlike) 53 = .ok (.invokevirtual 271, 3) := by decide +kernel
theorem d_X12_unlike_56 : decode (qMc M_X12_unlike) 56 = .ok (.aload_n 0, 1) := by decide +kernel
theorem d_X12_unlike_57 : decode (qMc M_X12_unlike) 57 = .ok (.aload_n 0, 1) := by decide +kernel
theorem d_X12_unlike_58 : decode (qMc M_X12_unlike) 58 = .ok (.getfield 17, 3) := by decide +kernel
theorem d_X12_unlike_61 : decode (qMc M_X12_unlike) 61 = .ok (.aload_n 0, 1) := by decide +kernel
theorem d_X12_unlike_62 : decode (qMc M_X12_unlike) 62 = .ok (.getfield 26, 3) := by decide +kernel
theorem d_X12_unlike_65 : decode (qMc M_X12_unlike) 65 = .ok (.iconst 1, 1) := by decide +kernel
theorem d_X12_unlike_66 : decode (qMc M_X12_unlike) 66 = .ok (.iload_n 2, 1) := by decide +kernel
theorem d_X12_unlike_67 : decode (qMc M_X12_unlike) 67 = .ok (.ishl, 1) := by decide +kernel
theorem d_X12_unlike_68 : decode (qMc M_X12_unlike) 68 = .ok (.iconst (-1), 1) := by decide +kernel
theorem d_X12_unlike_69 : decode (qMc M_X12_unlike) 69 = .ok (.iconst (-1), 1) := by decide +kernel
theorem d_X12_unlike_70 : decode (qMc M_X12_unlike) 70 = .ok (.iconst 0, 1) := by decide +kernel
theorem d_X12_unlike_71 : decode (qMc M_X12_unlike) 71 = .ok (.aload_n 0, 1) := by decide +kernel
theorem d_X12_unlike_72 : decode (qMc M_X12_unlike) 72 = .ok (.getfield 92, 3) := by decide +kernel
theorem d_X12_unlike_75 : decode (qMc M_X12_unlike) 75 = .ok (.invokevirtual 271, 3) := by decide +kernel
theorem d_X12_unlike_78 : decode (qMc M_X12_unlike) 78 = .ok (.iconst 0, 1) := by decide +kernel
theorem d_X12_unlike_79 : decode (qMc M_X12_unlike) 79 = .ok (.istore 4, 2) := by decide +kernel
theorem d_X12_unlike_81 : decode (qMc M_X12_unlike) 81 = .ok (.iconst (-1), 1) := by decide +kernel
theorem d_X12_unlike_82 : decode (qMc M_X12_unlike) 82 = .ok (.istore 5, 2) := by decide +kernel
theorem d_X12_unlike_84 : decode (qMc M_X12_unlike) 84 = .ok (.bipush 7, 2) := by decide +kernel
theorem d_X12_unlike_86 : decode (qMc M_X12_unlike) 86 = .ok (.iconst 0, 1) := by decide +kernel
theorem d_X12_unlike_87 : decode (qMc M_X12_unlike) 87 = .ok (.iconst 0, 1) := by decide +kernel
theorem d_X12_unlike_88 : decode (qMc M_X12_unlike) 88 = .ok (.invokestatic 263, 3) := by decide +kernel
theorem d_X12_unlike_91 : decode (qMc M_X12_unlike) 91 = .ok (.iconst 1, 1) := by decide +kernel
theorem d_X12_unlike_92 : decode (qMc M_X12_unlike) 92 = .ok (.isub, 1) := by decide +kernel
theorem d_X12_unlike_93 : decode (qMc M_X12_unlike) 93 = .ok (.istore 6, 2) := by decide +kernel
theorem d_X12_unlike_95 : decode (qMc M_X12_unlike) 95 = .ok (.iload 6, 2) := by decide +kernel
theorem d_X12_unlike_97 : decode (qMc M_X12_unlike) 97 = .ok (.ifCond .lt 60, 3) := by decide +kernel
theorem d_X12_unlike_100 : decode (qMc M_X12_unlike) 100 = .ok (.aload_n 0, 1) := by decide +kernel
theorem d_X12_unlike_101 : decode (qMc M_X12_unlike) 101 = .ok (.getfield 86, 3) := by decide +kernel
theorem d_X12_unlike_104 : decode (qMc M_X12_unlike) 104 = .ok (.iload 6, 2) := by decide +kernel
theorem d_X12_unlike_106 : decode (qMc M_X12_unlike) 106 = .ok (.iaload, 1) := by decide +kernel
theorem d_X12_unlike_107 : decode (qMc M_X12_unlike) 107 = .ok (.aload_n 0, 1) := by decide +kernel
theorem d_X12_unlike_108 : decode (qMc M_X12_unlike) 108 = .ok (.getfield 92, 3) := by decide +kernel
theorem d_X12_unlike_111 : decode (qMc M_X12_unlike) 111 = .ok (.iload 6, 2) := by decide +kernel
theorem d_X12_unlike_113 : decode (qMc M_X12_unlike) 113 = .ok (.iaload, 1) := by decide +kernel
theorem d_X12_unlike_114 : decode (qMc M_X12_unlike) 114 = .ok (.if_icmp .ne 6, 3) := by decide +kernel
theorem d_X12_unlike_117 : decode (qMc M_X12_unlike) 117 = .ok (.goto 34, 3) := by decide +kernel
theorem d_X12_unlike_120 : decode (qMc M_X12_unlike) 120 = .ok (.iinc 4 1, 3) := by decide +kernel
theorem d_X12_unlike_123 : decode (qMc M_X12_unlike) 123 = .ok (.bipush 100, 2) := by decide +kernel
theorem d_X12_unlike_125 : decode (qMc M_X12_unlike) 125 = .ok (.iload 6, 2) := by decide +kernel
theorem d_X12_unlike_127 : decode (qMc M_X12_unlike) 127 = .ok (.bipush 81, 2) := by decide +kernel
theorem d_X12_unlike_129 : decode (qMc M_X12_unlike) 129 = .ok (.idiv, 1) := by decide +kernel
theorem d_X12_unlike_130 : decode (qMc M_X12_unlike) 130 = .ok (.imul, 1) := by decide +kernel
theorem d_X12_unlike_131 : decode (qMc M_X12_unlike) 131 = .ok (.bipush 10, 2) := by decide +kernel
theorem d_X12_unlike_133 : decode (qMc M_X12_unlike) 133 = .ok (.iload 6, 2) := by decide +kernel
theorem d_X12_unlike_135 : decode (qMc M_X12_unlike) 135 = .ok (.bipush 9, 2) := by decide +kernel
theorem d_X12_unlike_137 : decode (qMc M_X12_unlike) 137 = .ok (.idiv, 1) := by decide +kernel
theorem d_X12_unlike_138 : decode (qMc M_X12_unlike) 138 = .ok (.bipush 9, 2) := by decide +kernel
theorem d_X12_unlike_140 : decode (qMc M_X12_unlike) 140 = .ok (.irem, 1) := by decide +kernel
theorem d_X12_unlike_141 : decode (qMc M_X12_unlike) 141 = .ok (.imul, 1) := by decide +kernel
theorem d_X12_unlike_142 : decode (qMc M_X12_unlike) 142 = .ok (.iadd, 1) := by decide +kernel
theorem d_X12_unlike_143 : decode (qMc M_X12_unlike) 143 = .ok (.iload 6, 2) := by decide +kernel
theorem d_X12_unlike_145 : decode (qMc M_X12_unlike) 145 = .ok (.bipush 9, 2) := by decide +kernel
theorem d_X12_unlike_147 : decode (qMc M_X12_unlike) 147 = .ok (.irem, 1) := by decide +kernel
theorem d_X12_unlike_148 : decode (qMc M_X12_unlike) 148 = .ok (.iadd, 1) := by decide +kernel
theorem d_X12_unlike_149 : decode (qMc M_X12_unlike) 149 = .ok (.istore 5, 2) := by decide +kernel
theorem d_X12_unlike_151 : decode (qMc M_X12_unlike) 151 = .ok (.iinc 6 (-1), 3) := by decide +kernel
theorem d_X12_unlike_154 : decode (qMc M_X12_unlike) 154 = .ok (.goto (-59), 3) := by decide +kernel
theorem d_X12_unlike_157 : decode (qMc M_X12_unlike) 157 = .ok (.iload_n 3, 1) := by decide +kernel
theorem d_X12_unlike_158 : decode (qMc M_X12_unlike) 158 = .ok (.ifCond .ne 8, 3) := by decide +kernel
theorem d_X12_unlike_161 : decode (qMc M_X12_unlike) 161 = .ok (.iload 4, 2) := by decide +kernel
theorem d_X12_unlike_163 : decode (qMc M_X12_unlike) 163 = .ok (.goto 5, 3) := by decide +kernel
theorem d_X12_unlike_166 : decode (qMc M_X12_unlike) 166 = .ok (.iload 5, 2) := by decide +kernel
theorem d_X12_unlike_168 : decode (qMc M_X12_unlike) 168 = .ok (.ireturn, 1) := by decide +kernel
theorem d_X12_goes_0 : decode (qMc M_X12_goes) 0 = .ok (.aload_n 0, 1) := by decide +kernel
theorem d_X12_goes_1 : decode (qMc M_X12_goes) 1 = .ok (.iconst 0, 1) := by decide +kernel
theorem d_X12_goes_2 : decode (qMc M_X12_goes) 2 = .ok (.putfield 127, 3) := by decide +kernel
theorem d_X12_goes_5 : decode (qMc M_X12_goes) 5 = .ok (.iload_n 1, 1) := by decide +kernel
theorem d_X12_goes_6 : decode (qMc M_X12_goes) 6 = .ok (.iconst (-1), 1) := by decide +kernel
theorem d_X12_goes_7 : decode (qMc M_X12_goes) 7 = .ok (.if_icmp .ne 10, 3) := by decide +kernel
theorem d_X12_goes_10 : decode (qMc M_X12_goes) 10 = .ok (.aload_n 0, 1) := by decide +kernel
theorem d_X12_goes_11 : decode (qMc M_X12_goes) 11 = .ok (.iconst 0, 1) := by decide +kernel
theorem d_X12_goes_12 : decode (qMc M_X12_goes) 12 = .ok (.putfield 323, 3) := by decide +kernel
theorem d_X12_goes_15 : decode (qMc M_X12_goes) 15 = .ok (.iconst 0, 1) := by decide +kernel
theorem d_X12_goes_16 : decode (qMc M_X12_goes) 16 = .ok (.ireturn, 1) := by decide +kernel
theorem d_X12_goes_17 : decode (qMc M_X12_goes) 17 = .ok (.iload_n 1, 1) := by decide +kernel
theorem d_X12_goes_18 : decode (qMc M_X12_goes) 18 = .ok (.iconst 0, 1) := by decide +kernel
theorem d_X12_goes_19 : decode (qMc M_X12_goes) 19 = .ok (.bipush 99, 2) := by decide +kernel
theorem d_X12_goes_21 : decode (qMc M_X12_goes) 21 = .ok (.invokestatic 137, 3) := by decide +kernel
theorem d_X12_goes_24 : decode (qMc M_X12_goes) 24 = .ok (.ifCond .eq 44, 3) := by decide +kernel
theorem d_X12_goes_27 : decode (qMc M_X12_goes) 27 = .ok (.iload_n 2, 1) := by decide +kernel
theorem d_X12_goes_28 : decode (qMc M_X12_goes) 28 = .ok (.iconst 0, 1) := by decide +kernel
theorem d_X12_goes_29 : decode (qMc M_X12_goes) 29 = .ok (.bipush 99, 2) := by decide +kernel
theorem d_X12_goes_31 : decode (qMc M_X12_goes) 31 = .ok (.invokestatic 137, 3) := by decide +kernel
theorem d_X12_goes_34 : decode (qMc M_X12_goes) 34 = .ok (.ifCond .eq 34, 3) := by decide +kernel
theorem d_X12_goes_37 : decode (qMc M_X12_goes) 37 = .ok (.iload_n 3, 1) := by decide +kernel
theorem d_X12_goes_38 : decode (qMc M_X12_goes) 38 = .ok (.bipush (-9), 2) := by decide +kernel
theorem d_X12_goes_40 : decode (qMc M_X12_goes) 40 = .ok (.bipush 9, 2) := by decide +kernel
theorem d_X12_goes_42 : decode (qMc M_X12_goes) 42 = .ok (.invokestatic 137, 3) := by decide +kernel
theorem d_X12_goes_45 : decode (qMc M_X12_goes) 45 = .ok (.ifCond .eq 23, 3) := by decide +kernel
theorem d_X12_goes_48 : decode (qMc M_X12_goes) 48 = .ok (.iload 4, 2) := by decide +kernel
theorem d_X12_goes_50 : decode (qMc M_X12_goes) 50 = .ok (.iconst 1, 1) := by decide +kernel
theorem d_X12_goes_51 : decode (qMc M_X12_goes) 51 = .ok (.bipush 9, 2) := by decide +kernel
theorem d_X12_goes_53 : decode (qMc M_X12_goes) 53 = .ok (.invokestatic 137, 3) := by decide +kernel
theorem d_X12_goes_56 : decode (qMc M_X12_goes) 56 = .ok (.ifCond .eq 12, 3) := by decide +kernel
theorem d_X12_goes_59 : decode (qMc M_X12_goes) 59 = .ok (.aload_n 0, 1) := by decide +kernel
theorem d_X12_goes_60 : decode (qMc M_X12_goes) 60 = .ok (.getfield 323, 3) := by decide +kernel
theorem d_X12_goes_63 : decode (qMc M_X12_goes) 63 = .ok (.bipush 8, 2) := by decide +kernel
theorem d_X12_goes_65 : decode (qMc M_X12_goes) 65 = .ok (.if_icmp .ne 5, 3) := by decide +kernel
theorem d_X12_goes_68 : decode (qMc M_X12_goes) 68 = .ok (.iconst (-1), 1) := by decide +kernel
theorem d_X12_goes_69 : decode (qMc M_X12_goes) 69 = .ok (.ireturn, 1) := by decide +kernel
theorem d_X12_goes_70 : decode (qMc M_X12_goes) 70 = .ok (.aload_n 0, 1) := by decide +kernel
theorem d_X12_goes_71 : decode (qMc M_X12_goes) 71 = .ok (.getfield 56, 3) := by decide +kernel
theorem d_X12_goes_74 : decode (qMc M_X12_goes) 74 = .ok (.iconst 4, 1) := by decide +kernel
theorem d_X12_goes_75 : decode (qMc M_X12_goes) 75 = .ok (.aload_n 0, 1) := by decide +kernel
theorem d_X12_goes_76 : decode (qMc M_X12_goes) 76 = .ok (.getfield 323, 3) := by decide +kernel
theorem d_X12_goes_79 : decode (qMc M_X12_goes) 79 = .ok (.imul, 1) := by decide +kernel
theorem d_X12_goes_80 : decode (qMc M_X12_goes) 80 = .ok (.iload_n 1, 1) := by decide +kernel
theorem d_X12_goes_81 : decode (qMc M_X12_goes) 81 = .ok (.iastore, 1) := by decide +kernel
theorem d_X12_goes_82 : decode (qMc M_X12_goes) 82 = .ok (.aload_n 0, 1) := by decide +kernel
theorem d_X12_goes_83 : decode (qMc M_X12_goes) 83 = .ok (.getfield 56, 3) := by decide +kernel
theorem d_X12_goes_86 : decode (qMc M_X12_goes) 86 = .ok (.iconst 4, 1) := by decide +kernel
theorem d_X12_goes_87 : decode (qMc M_X12_goes) 87 = .ok (.aload_n 0, 1) := by decide +kernel
theorem d_X12_goes_88 : decode (qMc M_X12_goes) 88 = .ok (.getfield 323, 3) := by decide +kernel
theorem d_X12_goes_91 : decode (qMc M_X12_goes) 91 = .ok (.imul, 1) := by decide +kernel
theorem d_X12_goes_92 : decode (qMc M_X12_goes) 92 = .ok (.iconst 1, 1) := by decide +kernel
theorem d_X12_goes_93 : decode (qMc M_X12_goes) 93 = .ok (.iadd, 1) := by decide +kernel
theorem d_X12_goes_94 : decode (qMc M_X12_goes) 94 = .ok (.iload_n 2, 1) := by decide +kernel
theorem d_X12_goes_95 : decode (qMc M_X12_goes) 95 = .ok (.iastore, 1) := by decide +kernel
theorem d_X12_goes_96 : decode (qMc M_X12_goes) 96 = .ok (.aload_n 0, 1) := by decide +kernel
theorem d_X12_goes_97 : decode (qMc M_X12_goes) 97 = .ok (.getfield 56, 3) := by decide +kernel
theorem d_X12_goes_100 : decode (qMc M_X12_goes) 100 = .ok (.iconst 4, 1) := by decide +kernel
theorem d_X12_goes_101 : decode (qMc M_X12_goes) 101 = .ok (.aload_n 0, 1) := by decide +kernel
theorem d_X12_goes_102 : decode (qMc M_X12_goes) 102 = .ok (.getfield 323, 3) := by decide +kernel
theorem d_X12_goes_105 : decode (qMc M_X12_goes) 105 = .ok (.imul, 1) := by decide +kernel
theorem d_X12_goes_106 : decode (qMc M_X12_goes) 106 = .ok (.iconst 2, 1) := by decide +kernel
theorem d_X12_goes_107 : decode (qMc M_X12_goes) 107 = .ok (.iadd, 1) := by decide +kernel
theorem d_X12_goes_108 : decode (qMc M_X12_goes) 108 = .ok (.iload_n 3, 1) := by decide +kernel
theorem d_X12_goes_109 : decode (qMc M_X12_goes) 109 = .ok (.iastore, 1) := by decide +kernel
theorem d_X12_goes_110 : decode (qMc M_X12_goes) 110 = .ok (.aload_n 0, 1) := by decide +kernel
theorem d_X12_goes_111 : decode (qMc M_X12_goes) 111 = .ok (.getfield 56, 3) := by decide +kernel
theorem d_X12_goes_114 : decode (qMc M_X12_goes) 114 = .ok (.iconst 4, 1) := by decide +kernel
theorem d_X12_goes_115 : decode (qMc M_X12_goes) 115 = .ok (.aload_n 0, 1) := by decide +kernel
theorem d_X12_goes_116 : decode (qMc M_X12_goes) 116 = .ok (.getfield 323, 3) := by decide +kernel
theorem d_X12_goes_119 : decode (qMc M_X12_goes) 119 = .ok (.imul, 1) := by decide +kernel
theorem d_X12_goes_120 : decode (qMc M_X12_goes) 120 = .ok (.iconst 3, 1) := by decide +kernel
theorem d_X12_goes_121 : decode (qMc M_X12_goes) 121 = .ok (.iadd, 1) := by decide +kernel
theorem d_X12_goes_122 : decode (qMc M_X12_goes) 122 = .ok (.iload 4, 2) := by decide +kernel
theorem d_X12_goes_124 : decode (qMc M_X12_goes) 124 = .ok (.iastore, 1) := by decide +kernel
theorem d_X12_goes_125 : decode (qMc M_X12_goes) 125 = .ok (.aload_n 0, 1) := by decide +kernel
theorem d_X12_goes_126 : decode (qMc M_X12_goes) 126 = .ok (.dup, 1) := by decide +kernel
theorem d_X12_goes_127 : decode (qMc M_X12_goes) 127 = .ok (.getfield 323, 3) := by decide +kernel
theorem d_X12_goes_130 : decode (qMc M_X12_goes) 130 = .ok (.iconst 1, 1) := by decide +kernel
theorem d_X12_goes_131 : decode (qMc M_X12_goes) 131 = .ok (.iadd, 1) := by decide +kernel
theorem d_X12_goes_132 : decode (qMc M_X12_goes) 132 = .ok (.putfield 323, 3) := by decide +kernel
theorem d_X12_goes_135 : decode (qMc M_X12_goes) 135 = .ok (.aload_n 0, 1) := by decide +kernel
theorem d_X12_goes_136 : decode (qMc M_X12_goes) 136 = .ok (.getfield 323, 3) := by decide +kernel
theorem d_X12_goes_139 : decode (qMc M_X12_goes) 139 = .ok (.ireturn, 1) := by decide +kernel
theorem d_X12_lowest_0 : decode (qMc M_X12_lowest) 0 = .ok (.iload_n 0, 1) := by decide +kernel
theorem d_X12_lowest_1 : decode (qMc M_X12_lowest) 1 = .ok (.ifCond .ge 8, 3) := by decide +kernel
theorem d_X12_lowest_4 : decode (qMc M_X12_lowest) 4 = .ok (.iload_n 0, 1) := by decide +kernel
theorem d_X12_lowest_5 : decode (qMc M_X12_lowest) 5 = .ok (.ineg, 1) := by decide +kernel
theorem d_X12_lowest_6 : decode (qMc M_X12_lowest) 6 = .ok (.goto 4, 3) := by decide +kernel
theorem d_X12_lowest_9 : decode (qMc M_X12_lowest) 9 = .ok (.iload_n 0, 1) := by decide +kernel
theorem d_X12_lowest_10 : decode (qMc M_X12_lowest) 10 = .ok (.istore_n 3, 1) := by decide +kernel
theorem d_X12_lowest_11 : decode (qMc M_X12_lowest) 11 = .ok (.iload_n 1, 1) := by decide +kernel
theorem d_X12_lowest_12 : decode (qMc M_X12_lowest) 12 = .ok (.ifCond .ge 8, 3) := by decide +kernel
theorem d_X12_lowest_15 : decode (qMc M_X12_lowest) 15 = .ok (.iload_n 1, 1) := by decide +kernel
theorem d_X12_lowest_16 : decode (qMc M_X12_lowest) 16 = .ok (.ineg, 1) := by decide +kernel
theorem d_X12_lowest_17 : decode (qMc M_X12_lowest) 17 = .ok (.goto 4, 3) := by decide +kernel
theorem d_X12_lowest_20 : decode (qMc M_X12_lowest) 20 = .ok (.iload_n 1, 1) := by decide +kernel
theorem d_X12_lowest_21 : decode (qMc M_X12_lowest) 21 = .ok (.istore 4, 2) := by decide +kernel
theorem d_X12_lowest_23 : decode (qMc M_X12_lowest) 23 = .ok (.iload 4, 2) := by decide +kernel
theorem d_X12_lowest_25 : decode (qMc M_X12_lowest) 25 = .ok (.ifCond .eq 19, 3) := by decide +kernel
theorem d_X12_lowest_28 : decode (qMc M_X12_lowest) 28 = .ok (.iload_n 3, 1) := by decide +kernel
theorem d_X12_lowest_29 : decode (qMc M_X12_lowest) 29 = .ok (.iload 4, 2) := by decide +kernel
theorem d_X12_lowest_31 : decode (qMc M_X12_lowest) 31 = .ok (.irem, 1) := by decide +kernel
theorem d_X12_lowest_32 : decode (qMc M_X12_lowest) 32 = .ok (.istore 5, 2) := by decide +kernel
theorem d_X12_lowest_34 : decode (qMc M_X12_lowest) 34 = .ok (.iload 4, 2) := by decide +kernel
theorem d_X12_lowest_36 : decode (qMc M_X12_lowest) 36 = .ok (.istore_n 3, 1) := by decide +kernel
theorem d_X12_lowest_37 : decode (qMc M_X12_lowest) 37 = .ok (.iload 5, 2) := by decide +kernel
theorem d_X12_lowest_39 : decode (qMc M_X12_lowest) 39 = .ok (.istore 4, 2) := by decide +kernel
theorem d_X12_lowest_41 : decode (qMc M_X12_lowest) 41 = .ok (.goto (-18), 3) := by decide +kernel
theorem d_X12_lowest_44 : decode (qMc M_X12_lowest) 44 = .ok (.iload_n 1, 1) := by decide +kernel
theorem d_X12_lowest_45 : decode (qMc M_X12_lowest) 45 = .ok (.ifCond .ge 7, 3) := by decide +kernel
theorem d_X12_lowest_48 : decode (qMc M_X12_lowest) 48 = .ok (.iconst (-1), 1) := by decide +kernel
theorem d_X12_lowest_49 : decode (qMc M_X12_lowest) 49 = .ok (.goto 4, 3) := by decide +kernel
theorem d_X12_lowest_52 : decode (qMc M_X12_lowest) 52 = .ok (.iconst 1, 1) := by decide +kernel
theorem d_X12_lowest_53 : decode (qMc M_X12_lowest) 53 = .ok (.istore 5, 2) := by decide +kernel
theorem d_X12_lowest_55 : decode (qMc M_X12_lowest) 55 = .ok (.iload_n 2, 1) := by decide +kernel
theorem d_X12_lowest_56 : decode (qMc M_X12_lowest) 56 = .ok (.ifCond .eq 12, 3) := by decide +kernel
theorem d_X12_lowest_59 : decode (qMc M_X12_lowest) 59 = .ok (.iload 5, 2) := by decide +kernel
theorem d_X12_lowest_61 : decode (qMc M_X12_lowest) 61 = .ok (.iload_n 0, 1) := by decide +kernel
theorem d_X12_lowest_62 : decode (qMc M_X12_lowest) 62 = .ok (.imul, 1) := by decide +kernel
theorem d_X12_lowest_63 : decode (qMc M_X12_lowest) 63 = .ok (.iload_n 3, 1) := by decide +kernel
theorem d_X12_lowest_64 : decode (qMc M_X12_lowest) 64 = .ok (.idiv, 1) := by decide +kernel
theorem d_X12_lowest_65 : decode (qMc M_X12_lowest) 65 = .ok (.goto 9, 3) := by decide +kernel
theorem d_X12_lowest_68 : decode (qMc M_X12_lowest) 68 = .ok (.iload 5, 2) := by decide +kernel
theorem d_X12_lowest_70 : decode (qMc M_X12_lowest) 70 = .ok (.iload_n 1, 1) := by decide +kernel
theorem d_X12_lowest_71 : decode (qMc M_X12_lowest) 71 = .ok (.imul, 1) := by decide +kernel
theorem d_X12_lowest_72 : decode (qMc M_X12_lowest) 72 = .ok (.iload_n 3, 1) := by decide +kernel
theorem d_X12_lowest_73 : decode (qMc M_X12_lowest) 73 = .ok (.idiv, 1) := by decide +kernel
theorem d_X12_lowest_74 : decode (qMc M_X12_lowest) 74 = .ok (.ireturn, 1) := by decide +kernel
theorem d_X12_isMark_0 : decode (qMc M_X12_isMark) 0 = .ok (.iload_n 1, 1) := by decide +kernel
theorem d_X12_isMark_1 : decode (qMc M_X12_isMark) 1 = .ok (.iconst 0, 1) := by decide +kernel
theorem d_X12_isMark_2 : decode (qMc M_X12_isMark) 2 = .ok (.aload_n 0, 1) := by decide +kernel
theorem d_X12_isMark_3 : decode (qMc M_X12_isMark) 3 = .ok (.getfield 323, 3) := by decide +kernel
theorem d_X12_isMark_6 : decode (qMc M_X12_isMark) 6 = .ok (.iconst 1, 1) := by decide +kernel
theorem d_X12_isMark_7 : decode (qMc M_X12_isMark) 7 = .ok (.isub, 1) := by decide +kernel
theorem d_X12_isMark_8 : decode (qMc M_X12_isMark) 8 = .ok (.invokestatic 137, 3) := by decide +kernel
theorem d_X12_isMark_11 : decode (qMc M_X12_isMark) 11 = .ok (.ireturn, 1) := by decide +kernel
theorem d_X12_meets_0 : decode (qMc M_X12_meets) 0 = .ok (.aload_n 0, 1) := by decide +kernel
theorem d_X12_meets_1 : decode (qMc M_X12_meets) 1 = .ok (.iconst 0, 1) := by decide +kernel
theorem d_X12_meets_2 : decode (qMc M_X12_meets) 2 = .ok (.putfield 127, 3) := by decide +kernel
theorem d_X12_meets_5 : decode (qMc M_X12_meets) 5 = .ok (.aload_n 0, 1) := by decide +kernel
theorem d_X12_meets_6 : decode (qMc M_X12_meets) 6 = .ok (.iload_n 1, 1) := by decide +kernel
theorem d_X12_meets_7 : decode (qMc M_X12_meets) 7 = .ok (.invokevirtual 404, 3) := by decide +kernel
theorem d_X12_meets_10 : decode (qMc M_X12_meets) 10 = .ok (.ifCond .eq 20, 3) := by decide +kernel
theorem d_X12_meets_13 : decode (qMc M_X12_meets) 13 = .ok (.aload_n 0, 1) := by decide +kernel
theorem d_X12_meets_14 : decode (qMc M_X12_meets) 14 = .ok (.iload_n 2, 1) := by decide +kernel
theorem d_X12_meets_15 : decode (qMc M_X12_meets) 15 = .ok (.invokevirtual 404, 3) := by decide +kernel
theorem d_X12_meets_18 : decode (qMc M_X12_meets) 18 = .ok (.ifCond .eq 12, 3) := by decide +kernel
theorem d_X12_meets_21 : decode (qMc M_X12_meets) 21 = .ok (.iload_n 3, 1) := by decide +kernel
theorem d_X12_meets_22 : decode (qMc M_X12_meets) 22 = .ok (.iconst 0, 1) := by decide +kernel
theorem d_X12_meets_23 : decode (qMc M_X12_meets) 23 = .ok (.iconst 3, 1) := by decide +kernel
theorem d_X12_meets_24 : decode (qMc M_X12_meets) 24 = .ok (.invokestatic 137, 3) := by decide +kernel
theorem d_X12_meets_27 : decode (qMc M_X12_meets) 27 = .ok (.ifCond .ne 7, 3) := by decide +kernel
theorem d_X12_meets_30 : decode (qMc M_X12_meets) 30 = .ok (.ldc_w 407, 3) := by decide +kernel
theorem d_X12_meets_33 : decode (qMc M_X12_meets) 33 = .ok (.ireturn, 1) := by decide +kernel
theorem d_X12_meets_34 : decode (qMc M_X12_meets) 34 = .ok (.aload_n 0, 1) := by decide +kernel
theorem d_X12_meets_35 : decode (qMc M_X12_meets) 35 = .ok (.getfield 56, 3) := by decide +kernel
theorem d_X12_meets_38 : decode (qMc M_X12_meets) 38 = .ok (.iconst 4, 1) := by decide +kernel
theorem d_X12_meets_39 : decode (qMc M_X12_meets) 39 = .ok (.iload_n 1, 1) := by decide +kernel
theorem d_X12_meets_40 : decode (qMc M_X12_meets) 40 = .ok (.imul, 1) := by decide +kernel
theorem d_X12_meets_41 : decode (qMc M_X12_meets) 41 = .ok (.iaload, 1) := by decide +kernel
theorem d_X12_meets_42 : decode (qMc M_X12_meets) 42 = .ok (.istore 4, 2) := by decide +kernel
theorem d_X12_meets_44 : decode (qMc M_X12_meets) 44 = .ok (.aload_n 0, 1) := by decide +kernel
theorem d_X12_meets_45 : decode (qMc M_X12_meets) 45 = .ok (.getfield 56, 3) := by decide +kernel
theorem d_X12_meets_48 : decode (qMc M_X12_meets) 48 = .ok (.iconst 4, 1) := by decide +kernel
theorem d_X12_meets_49 : decode (qMc M_X12_meets) 49 = .ok (.iload_n 1, 1) := by decide +kernel
theorem d_X12_meets_50 : decode (qMc M_X12_meets) 50 = .ok (.imul, 1) := by decide +kernel
theorem d_X12_meets_51 : decode (qMc M_X12_meets) 51 = .ok (.iconst 1, 1) := by decide +kernel
theorem d_X12_meets_52 : decode (qMc M_X12_meets) 52 = .ok (.iadd, 1) := by decide +kernel
theorem d_X12_meets_53 : decode (qMc M_X12_meets) 53 = .ok (.iaload, 1) := by decide +kernel
theorem d_X12_meets_54 : decode (qMc M_X12_meets) 54 = .ok (.istore 5, 2) := by decide +kernel
theorem d_X12_meets_56 : decode (qMc M_X12_meets) 56 = .ok (.aload_n 0, 1) := by decide +kernel
theorem d_X12_meets_57 : decode (qMc M_X12_meets) 57 = .ok (.getfield 56, 3) := by decide +kernel
theorem d_X12_meets_60 : decode (qMc M_X12_meets) 60 = .ok (.iconst 4, 1) := by decide +kernel
theorem d_X12_meets_61 : decode (qMc M_X12_meets) 61 = .ok (.iload_n 1, 1) := by decide +kernel
theorem d_X12_meets_62 : decode (qMc M_X12_meets) 62 = .ok (.imul, 1) := by decide +kernel
theorem d_X12_meets_63 : decode (qMc M_X12_meets) 63 = .ok (.iconst 2, 1) := by decide +kernel
theorem d_X12_meets_64 : decode (qMc M_X12_meets) 64 = .ok (.iadd, 1) := by decide +kernel
theorem d_X12_meets_65 : decode (qMc M_X12_meets) 65 = .ok (.iaload, 1) := by decide +kernel
theorem d_X12_meets_66 : decode (qMc M_X12_meets) 66 = .ok (.istore 6, 2) := by decide +kernel
theorem d_X12_meets_68 : decode (qMc M_X12_meets) 68 = .ok (.aload_n 0, 1) := by decide +kernel
theorem d_X12_meets_69 : decode (qMc M_X12_meets) 69 = .ok (.getfield 56, 3) := by decide +kernel
theorem d_X12_meets_72 : decode (qMc M_X12_meets) 72 = .ok (.iconst 4, 1) := by decide +kernel
theorem d_X12_meets_73 : decode (qMc M_X12_meets) 73 = .ok (.iload_n 1, 1) := by decide +kernel
theorem d_X12_meets_74 : decode (qMc M_X12_meets) 74 = .ok (.imul, 1) := by decide +kernel
theorem d_X12_meets_75 : decode (qMc M_X12_meets) 75 = .ok (.iconst 3, 1) := by decide +kernel
theorem d_X12_meets_76 : decode (qMc M_X12_meets) 76 = .ok (.iadd, 1) := by decide +kernel
theorem d_X12_meets_77 : decode (qMc M_X12_meets) 77 = .ok (.iaload, 1) := by decide +kernel
theorem d_X12_meets_78 : decode (qMc M_X12_meets) 78 = .ok (.istore 7, 2) := by decide +kernel
theorem d_X12_meets_80 : decode (qMc M_X12_meets) 80 = .ok (.aload_n 0, 1) := by decide +kernel
theorem d_X12_meets_81 : decode (qMc M_X12_meets) 81 = .ok (.getfield 56, 3) := by decide +kernel
theorem d_X12_meets_84 : decode (qMc M_X12_meets) 84 = .ok (.iconst 4, 1) := by decide +kernel
theorem d_X12_meets_85 : decode (qMc M_X12_meets) 85 = .ok (.iload_n 2, 1) := by decide +kernel
theorem d_X12_meets_86 : decode (qMc M_X12_meets) 86 = .ok (.imul, 1) := by decide +kernel
theorem d_X12_meets_87 : decode (qMc M_X12_meets) 87 = .ok (.iconst 2, 1) := by decide +kernel
theorem d_X12_meets_88 : decode (qMc M_X12_meets) 88 = .ok (.iadd, 1) := by decide +kernel
theorem d_X12_meets_89 : decode (qMc M_X12_meets) 89 = .ok (.iaload, 1) := by decide +kernel
theorem d_X12_meets_90 : decode (qMc M_X12_meets) 90 = .ok (.istore 8, 2) := by decide +kernel
theorem d_X12_meets_92 : decode (qMc M_X12_meets) 92 = .ok (.aload_n 0, 1) := by decide +kernel
theorem d_X12_meets_93 : decode (qMc M_X12_meets) 93 = .ok (.getfield 56, 3) := by decide +kernel
theorem d_X12_meets_96 : decode (qMc M_X12_meets) 96 = .ok (.iconst 4, 1) := by decide +kernel
theorem d_X12_meets_97 : decode (qMc M_X12_meets) 97 = .ok (.iload_n 2, 1) := by decide +kernel
theorem d_X12_meets_98 : decode (qMc M_X12_meets) 98 = .ok (.imul, 1) := by decide +kernel
theorem d_X12_meets_99 : decode (qMc M_X12_meets) 99 = .ok (.iconst 3, 1) := by decide +kernel
theorem d_X12_meets_100 : decode (qMc M_X12_meets) 100 = .ok (.iadd, 1) := by decide +kernel
theorem d_X12_meets_101 : decode (qMc M_X12_meets) 101 = .ok (.iaload, 1) := by decide +kernel
theorem d_X12_meets_102 : decode (qMc M_X12_meets) 102 = .ok (.istore 9, 2) := by decide +kernel
theorem d_X12_meets_104 : decode (qMc M_X12_meets) 104 = .ok (.iload 6, 2) := by decide +kernel
theorem d_X12_meets_106 : decode (qMc M_X12_meets) 106 = .ok (.iload 9, 2) := by decide +kernel
theorem d_X12_meets_108 : decode (qMc M_X12_meets) 108 = .ok (.imul, 1) := by decide +kernel
theorem d_X12_meets_109 : decode (qMc M_X12_meets) 109 = .ok (.iload 8, 2) := by decide +kernel
theorem d_X12_meets_111 : decode (qMc M_X12_meets) 111 = .ok (.iload 7, 2) := by decide +kernel
theorem d_X12_meets_113 : decode (qMc M_X12_meets) 113 = .ok (.imul, 1) := by decide +kernel
theorem d_X12_meets_114 : decode (qMc M_X12_meets) 114 = .ok (.isub, 1) := by decide +kernel
theorem d_X12_meets_115 : decode (qMc M_X12_meets) 115 = .ok (.istore 10, 2) := by decide +kernel
theorem d_X12_meets_117 : decode (qMc M_X12_meets) 117 = .ok (.iload 10, 2) := by decide +kernel
theorem d_X12_meets_119 : decode (qMc M_X12_meets) 119 = .ok (.ifCond .ne 7, 3) := by decide +kernel
theorem d_X12_meets_122 : decode (qMc M_X12_meets) 122 = .ok (.ldc_w 407, 3) := by decide +kernel
theorem d_X12_meets_125 : decode (qMc M_X12_meets) 125 = .ok (.ireturn, 1) := by decide +kernel
theorem d_X12_meets_126 : decode (qMc M_X12_meets) 126 = .ok (.aload_n 0, 1) := by decide +kernel
theorem d_X12_meets_127 : decode (qMc M_X12_meets) 127 = .ok (.getfield 56, 3) := by decide +kernel
theorem d_X12_meets_130 : decode (qMc M_X12_meets) 130 = .ok (.iconst 4, 1) := by decide +kernel
theorem d_X12_meets_131 : decode (qMc M_X12_meets) 131 = .ok (.iload_n 2, 1) := by decide +kernel
theorem d_X12_meets_132 : decode (qMc M_X12_meets) 132 = .ok (.imul, 1) := by decide +kernel
theorem d_X12_meets_133 : decode (qMc M_X12_meets) 133 = .ok (.iaload, 1) := by decide +kernel
theorem d_X12_meets_134 : decode (qMc M_X12_meets) 134 = .ok (.iload 4, 2) := by decide +kernel
theorem d_X12_meets_136 : decode (qMc M_X12_meets) 136 = .ok (.isub, 1) := by decide +kernel
theorem d_X12_meets_137 : decode (qMc M_X12_meets) 137 = .ok (.iload 7, 2) := by decide +kernel
theorem d_X12_meets_139 : decode (qMc M_X12_meets) 139 = .ok (.imul, 1) := by decide +kernel
theorem d_X12_meets_140 : decode (qMc M_X12_meets) 140 = .ok (.iload 9, 2) := by decide +kernel
theorem d_X12_meets_142 : decode (qMc M_X12_meets) 142 = .ok (.imul, 1) := by decide +kernel
theorem d_X12_meets_143 : decode (qMc M_X12_meets) 143 = .ok (.iload 5, 2) := by decide +kernel
theorem d_X12_meets_145 : decode (qMc M_X12_meets) 145 = .ok (.iload 6, 2) := by decide +kernel
theorem d_X12_meets_147 : decode (qMc M_X12_meets) 147 = .ok (.imul, 1) := by decide +kernel
theorem d_X12_meets_148 : decode (qMc M_X12_meets) 148 = .ok (.iload 9, 2) := by decide +kernel
theorem d_X12_meets_150 : decode (qMc M_X12_meets) 150 = .ok (.imul, 1) := by decide +kernel
theorem d_X12_meets_151 : decode (qMc M_X12_meets) 151 = .ok (.iadd, 1) := by decide +kernel
theorem d_X12_meets_152 : decode (qMc M_X12_meets) 152 = .ok (.aload_n 0, 1) := by decide +kernel
theorem d_X12_meets_153 : decode (qMc M_X12_meets) 153 = .ok (.getfield 56, 3) := by decide +kernel
theorem d_X12_meets_156 : decode (qMc M_X12_meets) 156 = .ok (.iconst 4, 1) := by decide +kernel
theorem d_X12_meets_157 : decode (qMc M_X12_meets) 157 = .ok (.iload_n 2, 1) := by decide +kernel
theorem d_X12_meets_158 : decode (qMc M_X12_meets) 158 = .ok (.imul, 1) := by decide +kernel
theorem d_X12_meets_159 : decode (qMc M_X12_meets) 159 = .ok (.iconst 1, 1) := by decide +kernel
theorem d_X12_meets_160 : decode (qMc M_X12_meets) 160 = .ok (.iadd, 1) := by decide +kernel
theorem d_X12_meets_161 : decode (qMc M_X12_meets) 161 = .ok (.iaload, 1) := by decide +kernel
theorem d_X12_meets_162 : decode (qMc M_X12_meets) 162 = .ok (.iload 8, 2) := by decide +kernel
theorem d_X12_meets_164 : decode (qMc M_X12_meets) 164 = .ok (.imul, 1) := by decide +kernel
theorem d_X12_meets_165 : decode (qMc M_X12_meets) 165 = .ok (.iload 7, 2) := by decide +kernel
theorem d_X12_meets_167 : decode (qMc M_X12_meets) 167 = .ok (.imul, 1) := by decide +kernel
theorem d_X12_meets_168 : decode (qMc M_X12_meets) 168 = .ok (.isub, 1) := by decide +kernel
theorem d_X12_meets_169 : decode (qMc M_X12_meets) 169 = .ok (.istore 11, 2) := by decide +kernel
theorem d_X12_meets_171 : decode (qMc M_X12_meets) 171 = .ok (.iload_n 3, 1) := by decide +kernel
theorem d_X12_meets_172 : decode (qMc M_X12_meets) 172 = .ok (.iconst 2, 1) := by decide +kernel
theorem d_X12_meets_173 : decode (qMc M_X12_meets) 173 = .ok (.if_icmp .ge 20, 3) := by decide +kernel
theorem d_X12_meets_176 : decode (qMc M_X12_meets) 176 = .ok (.iload 11, 2) := by decide +kernel
theorem d_X12_meets_178 : decode (qMc M_X12_meets) 178 = .ok (.iload 10, 2) := by decide +kernel
theorem d_X12_meets_180 : decode (qMc M_X12_meets) 180 = .ok (.iload_n 3, 1) := by decide +kernel
theorem d_X12_meets_181 : decode (qMc M_X12_meets) 181 = .ok (.ifCond .ne 7, 3) := by decide +kernel
theorem d_X12_meets_184 : decode (qMc M_X12_meets) 184 = .ok (.iconst 1, 1) := by decide +kernel
theorem d_X12_meets_185 : decode (qMc M_X12_meets) 185 = .ok (.goto 4, 3) := by decide +kernel
theorem d_X12_meets_188 : decode (qMc M_X12_meets) 188 = .ok (.iconst 0, 1) := by decide +kernel
theorem d_X12_meets_189 : decode (qMc M_X12_meets) 189 = .ok (.invokestatic 408, 3) := by decide +kernel
theorem d_X12_meets_192 : decode (qMc M_X12_meets) 192 = .ok (.ireturn, 1) := by decide +kernel
theorem d_X12_meets_193 : decode (qMc M_X12_meets) 193 = .ok (.iload 4, 2) := by decide +kernel
theorem d_X12_meets_195 : decode (qMc M_X12_meets) 195 = .ok (.iload 7, 2) := by decide +kernel
theorem d_X12_meets_197 : decode (qMc M_X12_meets) 197 = .ok (.imul, 1) := by decide +kernel
theorem d_X12_meets_198 : decode (qMc M_X12_meets) 198 = .ok (.iload 10, 2) := by decide +kernel
theorem d_X12_meets_200 : decode (qMc M_X12_meets) 200 = .ok (.imul, 1) := by decide +kernel
theorem d_X12_meets_201 : decode (qMc M_X12_meets) 201 = .ok (.iload 11, 2) := by decide +kernel
theorem d_X12_meets_203 : decode (qMc M_X12_meets) 203 = .ok (.iload 5, 2) := by decide +kernel
theorem d_X12_meets_205 : decode (qMc M_X12_meets) 205 = .ok (.iload 10, 2) := by decide +kernel
theorem d_X12_meets_207 : decode (qMc M_X12_meets) 207 = .ok (.imul, 1) := by decide +kernel
theorem d_X12_meets_208 : decode (qMc M_X12_meets) 208 = .ok (.isub, 1) := by decide +kernel
theorem d_X12_meets_209 : decode (qMc M_X12_meets) 209 = .ok (.iload 6, 2) := by decide +kernel
theorem d_X12_meets_211 : decode (qMc M_X12_meets) 211 = .ok (.imul, 1) := by decide +kernel
theorem d_X12_meets_212 : decode (qMc M_X12_meets) 212 = .ok (.iadd, 1) := by decide +kernel
theorem d_X12_meets_213 : decode (qMc M_X12_meets) 213 = .ok (.iload 7, 2) := by decide +kernel
theorem d_X12_meets_215 : decode (qMc M_X12_meets) 215 = .ok (.iload 10, 2) := by decide +kernel
theorem d_X12_meets_217 : decode (qMc M_X12_meets) 217 = .ok (.imul, 1) := by decide +kernel
theorem d_X12_meets_218 : decode (qMc M_X12_meets) 218 = .ok (.iload_n 3, 1) := by decide +kernel
theorem d_X12_meets_219 : decode (qMc M_X12_meets) 219 = .ok (.iconst 2, 1) := by decide +kernel
theorem d_X12_meets_220 : decode (qMc M_X12_meets) 220 = .ok (.if_icmp .ne 7, 3) := by decide +kernel
theorem d_X12_meets_223 : decode (qMc M_X12_meets) 223 = .ok (.iconst 1, 1) := by decide +kernel
theorem d_X12_meets_224 : decode (qMc M_X12_meets) 224 = .ok (.goto 4, 3) := by decide +kernel
theorem d_X12_meets_227 : decode (qMc M_X12_meets) 227 = .ok (.iconst 0, 1) := by decide +kernel
theorem d_X12_meets_228 : decode (qMc M_X12_meets) 228 = .ok (.invokestatic 408, 3) := by decide +kernel
theorem d_X12_meets_231 : decode (qMc M_X12_meets) 231 = .ok (.ireturn, 1) := by decide +kernel
theorem d_X12_echo_0 : decode (qMc M_X12_echo) 0 = .ok (.aload_n 0, 1) := by decide +kernel
theorem d_X12_echo_1 : decode (qMc M_X12_echo) 1 = .ok (.iconst 0, 1) := by decide +kernel
theorem d_X12_echo_2 : decode (qMc M_X12_echo) 2 = .ok (.putfield 127, 3) := by decide +kernel
theorem d_X12_echo_5 : decode (qMc M_X12_echo) 5 = .ok (.aload_n 0, 1) := by decide +kernel
theorem d_X12_echo_6 : decode (qMc M_X12_echo) 6 = .ok (.iload_n 1, 1) := by decide +kernel
theorem d_X12_echo_7 : decode (qMc M_X12_echo) 7 = .ok (.invokevirtual 404, 3) := by decide +kernel
theorem d_X12_echo_10 : decode (qMc M_X12_echo) 10 = .ok (.ifCond .eq 48, 3) := by decide +kernel
theorem d_X12_echo_13 : decode (qMc M_X12_echo) 13 = .ok (.iload_n 2, 1) := by decide +kernel
theorem d_X12_echo_14 : decode (qMc M_X12_echo) 14 = .ok (.iconst 2, 1) := by decide +kernel
theorem d_X12_echo_15 : decode (qMc M_X12_echo) 15 = .ok (.bipush 99, 2) := by decide +kernel
theorem d_X12_echo_17 : decode (qMc M_X12_echo) 17 = .ok (.invokestatic 137, 3) := by decide +kernel
theorem d_X12_echo_20 : decode (qMc M_X12_echo) 20 = .ok (.ifCond .eq 38, 3) := by decide +kernel
theorem d_X12_echo_23 : decode (qMc M_X12_echo) 23 = .ok (.iload_n 3, 1) := by decide +kernel
theorem d_X12_echo_24 : decode (qMc M_X12_echo) 24 = .ok (.iconst 0, 1) := by decide +kernel
theorem d_X12_echo_25 : decode (qMc M_X12_echo) 25 = .ok (.sipush 999, 3) := by decide +kernel
theorem d_X12_echo_28 : decode (qMc M_X12_echo) 28 = .ok (.invokestatic 137, 3) := by decide +kernel
theorem d_X12_echo_31 : decode (qMc M_X12_echo) 31 = .ok (.ifCond .eq 27, 3) := by decide +kernel
theorem d_X12_echo_34 : decode (qMc M_X12_echo) 34 = .ok (.iload 4, 2) := by decide +kernel
theorem d_X12_echo_36 : decode (qMc M_X12_echo) 36 = .ok (.iconst 0, 1) := by decide +kernel
theorem d_X12_echo_37 : decode (qMc M_X12_echo) 37 = .ok (.iconst 1, 1) := by decide +kernel
theorem d_X12_echo_38 : decode (qMc M_X12_echo) 38 = .ok (.invokestatic 137, 3) := by decide +kernel
theorem d_X12_echo_41 : decode (qMc M_X12_echo) 41 = .ok (.ifCond .eq 17, 3) := by decide +kernel
theorem d_X12_echo_44 : decode (qMc M_X12_echo) 44 = .ok (.aload_n 0, 1) := by decide +kernel
theorem d_X12_echo_45 : decode (qMc M_X12_echo) 45 = .ok (.getfield 56, 3) := by decide +kernel
theorem d_X12_echo_48 : decode (qMc M_X12_echo) 48 = .ok (.iconst 4, 1) := by decide +kernel
theorem d_X12_echo_49 : decode (qMc M_X12_echo) 49 = .ok (.iload_n 1, 1) := by decide +kernel
theorem d_X12_echo_50 : decode (qMc M_X12_echo) 50 = .ok (.imul, 1) := by decide +kernel
theorem d_X12_echo_51 : decode (qMc M_X12_echo) 51 = .ok (.iaload, 1) := by decide +kernel
theorem d_X12_echo_52 : decode (qMc M_X12_echo) 52 = .ok (.iload_n 2, 1) := by decide +kernel
theorem d_X12_echo_53 : decode (qMc M_X12_echo) 53 = .ok (.iconst 1, 1) := by decide +kernel
theorem d_X12_echo_54 : decode (qMc M_X12_echo) 54 = .ok (.isub, 1) := by decide +kernel
theorem d_X12_echo_55 : decode (qMc M_X12_echo) 55 = .ok (.if_icmp .le 7, 3) := by decide +kernel
theorem d_X12_echo_58 : decode (qMc M_X12_echo) 58 = .ok (.ldc_w 407, 3) := by decide +kernel
theorem d_X12_echo_61 : decode (qMc M_X12_echo) 61 = .ok (.ireturn, 1) := by decide +kernel
theorem d_X12_echo_62 : decode (qMc M_X12_echo) 62 = .ok (.aload_n 0, 1) := by decide +kernel
theorem d_X12_echo_63 : decode (qMc M_X12_echo) 63 = .ok (.getfield 56, 3) := by decide +kernel
theorem d_X12_echo_66 : decode (qMc M_X12_echo) 66 = .ok (.iconst 4, 1) := by decide +kernel
theorem d_X12_echo_67 : decode (qMc M_X12_echo) 67 = .ok (.iload_n 1, 1) := by decide +kernel
theorem d_X12_echo_68 : decode (qMc M_X12_echo) 68 = .ok (.imul, 1) := by decide +kernel
theorem d_X12_echo_69 : decode (qMc M_X12_echo) 69 = .ok (.iconst 3, 1) := by decide +kernel
theorem d_X12_echo_70 : decode (qMc M_X12_echo) 70 = .ok (.iadd, 1) := by decide +kernel
theorem d_X12_echo_71 : decode (qMc M_X12_echo) 71 = .ok (.iaload, 1) := by decide +kernel
theorem d_X12_echo_72 : decode (qMc M_X12_echo) 72 = .ok (.istore 5, 2) := by decide +kernel
theorem d_X12_echo_74 : decode (qMc M_X12_echo) 74 = .ok (.iload_n 2, 1) := by decide +kernel
theorem d_X12_echo_75 : decode (qMc M_X12_echo) 75 = .ok (.iconst 1, 1) := by decide +kernel
theorem d_X12_echo_76 : decode (qMc M_X12_echo) 76 = .ok (.isub, 1) := by decide +kernel
theorem d_X12_echo_77 : decode (qMc M_X12_echo) 77 = .ok (.iload 5, 2) := by decide +kernel
theorem d_X12_echo_79 : decode (qMc M_X12_echo) 79 = .ok (.imul, 1) := by decide +kernel
theorem d_X12_echo_80 : decode (qMc M_X12_echo) 80 = .ok (.istore 6, 2) := by decide +kernel
theorem d_X12_echo_82 : decode (qMc M_X12_echo) 82 = .ok (.aload_n 0, 1) := by decide +kernel
theorem d_X12_echo_83 : decode (qMc M_X12_echo) 83 = .ok (.getfield 56, 3) := by decide +kernel
theorem d_X12_echo_86 : decode (qMc M_X12_echo) 86 = .ok (.iconst 4, 1) := by decide +kernel
theorem d_X12_echo_87 : decode (qMc M_X12_echo) 87 = .ok (.iload_n 1, 1) := by decide +kernel
theorem d_X12_echo_88 : decode (qMc M_X12_echo) 88 = .ok (.imul, 1) := by decide +kernel
theorem d_X12_echo_89 : decode (qMc M_X12_echo) 89 = .ok (.iaload, 1) := by decide +kernel
theorem d_X12_echo_90 : decode (qMc M_X12_echo) 90 = .ok (.iload 5, 2) := by decide +kernel
theorem d_X12_echo_92 : decode (qMc M_X12_echo) 92 = .ok (.imul, 1) := by decide +kernel
theorem d_X12_echo_93 : decode (qMc M_X12_echo) 93 = .ok (.iload_n 3, 1) := by decide +kernel
theorem d_X12_echo_94 : decode (qMc M_X12_echo) 94 = .ok (.aload_n 0, 1) := by decide +kernel
theorem d_X12_echo_95 : decode (qMc M_X12_echo) 95 = .ok (.getfield 56, 3) := by decide +kernel
theorem d_X12_echo_98 : decode (qMc M_X12_echo) 98 = .ok (.iconst 4, 1) := by decide +kernel
theorem d_X12_echo_99 : decode (qMc M_X12_echo) 99 = .ok (.iload_n 1, 1) := by decide +kernel
theorem d_X12_echo_100 : decode (qMc M_X12_echo) 100 = .ok (.imul, 1) := by decide +kernel
theorem d_X12_echo_101 : decode (qMc M_X12_echo) 101 = .ok (.iconst 2, 1) := by decide +kernel
theorem d_X12_echo_102 : decode (qMc M_X12_echo) 102 = .ok (.iadd, 1) := by decide +kernel
theorem d_X12_echo_103 : decode (qMc M_X12_echo) 103 = .ok (.iaload, 1) := by decide +kernel
theorem d_X12_echo_104 : decode (qMc M_X12_echo) 104 = .ok (.imul, 1) := by decide +kernel
theorem d_X12_echo_105 : decode (qMc M_X12_echo) 105 = .ok (.iadd, 1) := by decide +kernel
theorem d_X12_echo_106 : decode (qMc M_X12_echo) 106 = .ok (.iconst 2, 1) := by decide +kernel
theorem d_X12_echo_107 : decode (qMc M_X12_echo) 107 = .ok (.iload 6, 2) := by decide +kernel
theorem d_X12_echo_109 : decode (qMc M_X12_echo) 109 = .ok (.imul, 1) := by decide +kernel
theorem d_X12_echo_110 : decode (qMc M_X12_echo) 110 = .ok (.irem, 1) := by decide +kernel
theorem d_X12_echo_111 : decode (qMc M_X12_echo) 111 = .ok (.istore 7, 2) := by decide +kernel
theorem d_X12_echo_113 : decode (qMc M_X12_echo) 113 = .ok (.iload 7, 2) := by decide +kernel
theorem d_X12_echo_115 : decode (qMc M_X12_echo) 115 = .ok (.ifCond .ge 13, 3) := by decide +kernel
theorem d_X12_echo_118 : decode (qMc M_X12_echo) 118 = .ok (.iload 7, 2) := by decide +kernel
theorem d_X12_echo_120 : decode (qMc M_X12_echo) 120 = .ok (.iconst 2, 1) := by decide +kernel
theorem d_X12_echo_121 : decode (qMc M_X12_echo) 121 = .ok (.iload 6, 2) := by decide +kernel
theorem d_X12_echo_123 : decode (qMc M_X12_echo) 123 = .ok (.imul, 1) := by decide +kernel
theorem d_X12_echo_124 : decode (qMc M_X12_echo) 124 = .ok (.iadd, 1) := by decide +kernel
theorem d_X12_echo_125 : decode (qMc M_X12_echo) 125 = .ok (.goto 5, 3) := by decide +kernel
theorem d_X12_echo_128 : decode (qMc M_X12_echo) 128 = .ok (.iload 7, 2) := by decide +kernel
theorem d_X12_echo_130 : decode (qMc M_X12_echo) 130 = .ok (.istore 7, 2) := by decide +kernel
theorem d_X12_echo_132 : decode (qMc M_X12_echo) 132 = .ok (.iload 7, 2) := by decide +kernel
theorem d_X12_echo_134 : decode (qMc M_X12_echo) 134 = .ok (.iload 6, 2) := by decide +kernel
theorem d_X12_echo_136 : decode (qMc M_X12_echo) 136 = .ok (.if_icmp .le 13, 3) := by decide +kernel
theorem d_X12_echo_139 : decode (qMc M_X12_echo) 139 = .ok (.iconst 2, 1) := by decide +kernel
theorem d_X12_echo_140 : decode (qMc M_X12_echo) 140 = .ok (.iload 6, 2) := by decide +kernel
theorem d_X12_echo_142 : decode (qMc M_X12_echo) 142 = .ok (.imul, 1) := by decide +kernel
theorem d_X12_echo_143 : decode (qMc M_X12_echo) 143 = .ok (.iload 7, 2) := by decide +kernel
theorem d_X12_echo_145 : decode (qMc M_X12_echo) 145 = .ok (.isub, 1) := by decide +kernel
theorem d_X12_echo_146 : decode (qMc M_X12_echo) 146 = .ok (.goto 5, 3) := by decide +kernel
theorem d_X12_echo_149 : decode (qMc M_X12_echo) 149 = .ok (.iload 7, 2) := by decide +kernel
theorem d_X12_echo_151 : decode (qMc M_X12_echo) 151 = .ok (.iload 5, 2) := by decide +kernel
theorem d_X12_echo_153 : decode (qMc M_X12_echo) 153 = .ok (.iload 4, 2) := by decide +kernel
theorem d_X12_echo_155 : decode (qMc M_X12_echo) 155 = .ok (.ifCond .ne 7, 3) := by decide +kernel
theorem d_X12_echo_158 : decode (qMc M_X12_echo) 158 = .ok (.iconst 1, 1) := by decide +kernel
theorem d_X12_echo_159 : decode (qMc M_X12_echo) 159 = .ok (.goto 4, 3) := by decide +kernel
theorem d_X12_echo_162 : decode (qMc M_X12_echo) 162 = .ok (.iconst 0, 1) := by decide +kernel
theorem d_X12_echo_163 : decode (qMc M_X12_echo) 163 = .ok (.invokestatic 408, 3) := by decide +kernel
theorem d_X12_echo_166 : decode (qMc M_X12_echo) 166 = .ok (.ireturn, 1) := by decide +kernel
theorem d_X12_lights_0 : decode (qMc M_X12_lights) 0 = .ok (.aload_n 0, 1) := by decide +kernel
theorem d_X12_lights_1 : decode (qMc M_X12_lights) 1 = .ok (.iconst 0, 1) := by decide +kernel
theorem d_X12_lights_2 : decode (qMc M_X12_lights) 2 = .ok (.putfield 127, 3) := by decide +kernel
theorem d_X12_lights_5 : decode (qMc M_X12_lights) 5 = .ok (.iload_n 1, 1) := by decide +kernel
theorem d_X12_lights_6 : decode (qMc M_X12_lights) 6 = .ok (.iconst 1, 1) := by decide +kernel
theorem d_X12_lights_7 : decode (qMc M_X12_lights) 7 = .ok (.bipush 12, 2) := by decide +kernel
theorem d_X12_lights_9 : decode (qMc M_X12_lights) 9 = .ok (.invokestatic 137, 3) := by decide +kernel
theorem d_X12_lights_12 : decode (qMc M_X12_lights) 12 = .ok (.ifCond .eq 25, 3) := by decide +kernel
theorem d_X12_lights_15 : decode (qMc M_X12_lights) 15 = .ok (.iload_n 2, 1) := by decide +kernel
theorem d_X12_lights_16 : decode (qMc M_X12_lights) 16 = .ok (.iconst 0, 1) := by decide +kernel
theorem d_X12_lights_17 : decode (qMc M_X12_lights) 17 = .ok (.iconst 1, 1) := by decide +kernel
theorem d_X12_lights_18 : decode (qMc M_X12_lights) 18 = .ok (.iload_n 1, 1) := by decide +kernel
theorem d_X12_lights_19 : decode (qMc M_X12_lights) 19 = .ok (.ishl, 1) := by decide +kernel
theorem d_X12_lights_20 : decode (qMc M_X12_lights) 20 = .ok (.iconst 1, 1) := by decide +kernel
theorem d_X12_lights_21 : decode (qMc M_X12_lights) 21 = .ok (.isub, 1) := by decide +kernel
theorem d_X12_lights_22 : decode (qMc M_X12_lights) 22 = .ok (.invokestatic 137, 3) := by decide +kernel
theorem d_X12_lights_25 : decode (qMc M_X12_lights) 25 = .ok (.ifCond .eq 12, 3) := by decide +kernel
theorem d_X12_lights_28 : decode (qMc M_X12_lights) 28 = .ok (.iload_n 3, 1) := by decide +kernel
theorem d_X12_lights_29 : decode (qMc M_X12_lights) 29 = .ok (.iconst 0, 1) := by decide +kernel
theorem d_X12_lights_30 : decode (qMc M_X12_lights) 30 = .ok (.iconst 1, 1) := by decide +kernel
theorem d_X12_lights_31 : decode (qMc M_X12_lights) 31 = .ok (.invokestatic 137, 3) := by decide +kernel
theorem d_X12_lights_34 : decode (qMc M_X12_lights) 34 = .ok (.ifCond .ne 5, 3) := by decide +kernel
theorem d_X12_lights_37 : decode (qMc M_X12_lights) 37 = .ok (.iconst (-1), 1) := by decide +kernel
theorem d_X12_lights_38 : decode (qMc M_X12_lights) 38 = .ok (.ireturn, 1) := by decide +kernel
theorem d_X12_lights_39 : decode (qMc M_X12_lights) 39 = .ok (.iconst 1, 1) := by decide +kernel
theorem d_X12_lights_40 : decode (qMc M_X12_lights) 40 = .ok (.iload_n 1, 1) := by decide +kernel
theorem d_X12_lights_41 : decode (qMc M_X12_lights) 41 = .ok (.ishl, 1) := by decide +kernel
theorem d_X12_lights_42 : decode (qMc M_X12_lights) 42 = .ok (.iconst 1, 1) := by decide +kernel
theorem d_X12_lights_43 : decode (qMc M_X12_lights) 43 = .ok (.isub, 1) := by decide +kernel
theorem d_X12_lights_44 : decode (qMc M_X12_lights) 44 = .ok (.istore 4, 2) := by decide +kernel
theorem d_X12_lights_46 : decode (qMc M_X12_lights) 46 = .ok (.iconst (-1), 1) := by decide +kernel
theorem d_X12_lights_47 : decode (qMc M_X12_lights) 47 = .ok (.istore 5, 2) := by decide +kernel
theorem d_X12_lights_49 : decode (qMc M_X12_lights) 49 = .ok (.iconst 0, 1) := by decide +kernel
theorem d_X12_lights_50 : decode (qMc M_X12_lights) 50 = .ok (.istore 6, 2) := by decide +kernel
theorem d_X12_lights_52 : decode (qMc M_X12_lights) 52 = .ok (.iload 6, 2) := by decide +kernel
theorem d_X12_lights_54 : decode (qMc M_X12_lights) 54 = .ok (.iload 4, 2) := by decide +kernel
theorem d_X12_lights_56 : decode (qMc M_X12_lights) 56 = .ok (.if_icmp .gt 63, 3) := by decide +kernel
theorem d_X12_lights_59 : decode (qMc M_X12_lights) 59 = .ok (.iload_n 2, 1) := by decide +kernel
theorem d_X12_lights_60 : decode (qMc M_X12_lights) 60 = .ok (.iload 6, 2) := by decide +kernel
theorem d_X12_lights_62 : decode (qMc M_X12_lights) 62 = .ok (.ixor, 1) := by decide +kernel
theorem d_X12_lights_63 : decode (qMc M_X12_lights) 63 = .ok (.iload 6, 2) := by decide +kernel
theorem d_X12_lights_65 : decode (qMc M_X12_lights) 65 = .ok (.iconst 1, 1) := by decide +kernel
theorem d_X12_lights_66 : decode (qMc M_X12_lights) 66 = .ok (.ishl, 1) := by decide +kernel
theorem d_X12_lights_67 : decode (qMc M_X12_lights) 67 = .ok (.iload 4, 2) := by decide +kernel
theorem d_X12_lights_69 : decode (qMc M_X12_lights) 69 = .ok (.iand, 1) := by decide +kernel
theorem d_X12_lights_70 : decode (qMc M_X12_lights) 70 = .ok (.ixor, 1) := by decide +kernel
theorem d_X12_lights_71 : decode (qMc M_X12_lights) 71 = .ok (.iload 6, 2) := by decide +kernel
theorem d_X12_lights_73 : decode (qMc M_X12_lights) 73 = .ok (.iconst 1, 1) := by decide +kernel
theorem d_X12_lights_74 : decode (qMc M_X12_lights) 74 = .ok (.ishr, 1) := by decide +kernel
theorem d_X12_lights_75 : decode (qMc M_X12_lights) 75 = .ok (.ixor, 1) := by decide +kernel
theorem d_X12_lights_76 : decode (qMc M_X12_lights) 76 = .ok (.istore 7, 2) := by decide +kernel
theorem d_X12_lights_78 : decode (qMc M_X12_lights) 78 = .ok (.iload 7, 2) := by decide +kernel
theorem d_X12_lights_80 : decode (qMc M_X12_lights) 80 = .ok (.iload 4, 2) := by decide +kernel
theorem d_X12_lights_82 : decode (qMc M_X12_lights) 82 = .ok (.if_icmp .ne 27, 3) := by decide +kernel
theorem d_X12_lights_85 : decode (qMc M_X12_lights) 85 = .ok (.iload 5, 2) := by decide +kernel
theorem d_X12_lights_87 : decode (qMc M_X12_lights) 87 = .ok (.iconst (-1), 1) := by decide +kernel
theorem d_X12_lights_88 : decode (qMc M_X12_lights) 88 = .ok (.if_icmp .eq 16, 3) := by decide +kernel
theorem d_X12_lights_91 : decode (qMc M_X12_lights) 91 = .ok (.iload 6, 2) := by decide +kernel
theorem d_X12_lights_93 : decode (qMc M_X12_lights) 93 = .ok (.invokestatic 411, 3) := by decide +kernel
theorem d_X12_lights_96 : decode (qMc M_X12_lights) 96 = .ok (.iload 5, 2) := by decide +kernel
theorem d_X12_lights_98 : decode (qMc M_X12_lights) 98 = .ok (.invokestatic 411, 3) := by decide +kernel
theorem d_X12_lights_101 : decode (qMc M_X12_lights) 101 = .ok (.if_icmp .ge 8, 3) := by decide +kernel
theorem d_X12_lights_104 : decode (qMc M_X12_lights) 104 = .ok (.iload 6, 2) := by decide +kernel
theorem d_X12_lights_106 : decode (qMc M_X12_lights) 106 = .ok (.goto 5, 3) := by decide +kernel
theorem d_X12_lights_109 : decode (qMc M_X12_lights) 109 = .ok (.iload 5, 2) := by decide +kernel
theorem d_X12_lights_111 : decode (qMc M_X12_lights) 111 = .ok (.istore 5, 2) := by decide +kernel
theorem d_X12_lights_113 : decode (qMc M_X12_lights) 113 = .ok (.iinc 6 1, 3) := by decide +kernel
theorem d_X12_lights_116 : decode (qMc M_X12_lights) 116 = .ok (.goto (-64), 3) := by decide +kernel
theorem d_X12_lights_119 : decode (qMc M_X12_lights) 119 = .ok (.iload_n 3, 1) := by decide +kernel
theorem d_X12_lights_120 : decode (qMc M_X12_lights) 120 = .ok (.iconst 1, 1) := by decide +kernel
theorem d_X12_lights_121 : decode (qMc M_X12_lights) 121 = .ok (.if_icmp .eq 9, 3) := by decide +kernel
theorem d_X12_lights_124 : decode (qMc M_X12_lights) 124 = .ok (.iload 5, 2) := by decide +kernel
theorem d_X12_lights_126 : decode (qMc M_X12_lights) 126 = .ok (.iconst (-1), 1) := by decide +kernel
theorem d_X12_lights_127 : decode (qMc M_X12_lights) 127 = .ok (.if_icmp .ne 8, 3) := by decide +kernel
theorem d_X12_lights_130 : decode (qMc M_X12_lights) 130 = .ok (.iload 5, 2) := by decide +kernel
theorem d_X12_lights_132 : decode (qMc M_X12_lights) 132 = .ok (.goto 8, 3) := by decide +kernel
theorem d_X12_lights_135 : decode (qMc M_X12_lights) 135 = .ok (.iload 5, 2) := by decide +kernel
theorem d_X12_lights_137 : decode (qMc M_X12_lights) 137 = .ok (.invokestatic 411, 3) := by decide +kernel
theorem d_X12_lights_140 : decode (qMc M_X12_lights) 140 = .ok (.ireturn, 1) := by decide +kernel
theorem d_X12_heard_0 : decode (qMc M_X12_heard) 0 = .ok (.aload_n 0, 1) := by decide +kernel
theorem d_X12_heard_1 : decode (qMc M_X12_heard) 1 = .ok (.iconst 0, 1) := by decide +kernel
theorem d_X12_heard_2 : decode (qMc M_X12_heard) 2 = .ok (.putfield 127, 3) := by decide +kernel
theorem d_X12_heard_5 : decode (qMc M_X12_heard) 5 = .ok (.aload_n 0, 1) := by decide +kernel
theorem d_X12_heard_6 : decode (qMc M_X12_heard) 6 = .ok (.getfield 44, 3) := by decide +kernel
theorem d_X12_heard_9 : decode (qMc M_X12_heard) 9 = .ok (.sipush 160, 3) := by decide +kernel
theorem d_X12_heard_12 : decode (qMc M_X12_heard) 12 = .ok (.iaload, 1) := by decide +kernel
theorem d_X12_heard_13 : decode (qMc M_X12_heard) 13 = .ok (.istore 4, 2) := by decide +kernel
theorem d_X12_heard_15 : decode (qMc M_X12_heard) 15 = .ok (.iload_n 1, 1) := by decide +kernel
theorem d_X12_heard_16 : decode (qMc M_X12_heard) 16 = .ok (.iconst 0, 1) := by decide +kernel
theorem d_X12_heard_17 : decode (qMc M_X12_heard) 17 = .ok (.iload 4, 2) := by decide +kernel
theorem d_X12_heard_19 : decode (qMc M_X12_heard) 19 = .ok (.iconst 1, 1) := by decide +kernel
theorem d_X12_heard_20 : decode (qMc M_X12_heard) 20 = .ok (.isub, 1) := by decide +kernel
theorem d_X12_heard_21 : decode (qMc M_X12_heard) 21 = .ok (.invokestatic 137, 3) := by decide +kernel
theorem d_X12_heard_24 : decode (qMc M_X12_heard) 24 = .ok (.ifCond .eq 36, 3) := by decide +kernel
theorem d_X12_heard_27 : decode (qMc M_X12_heard) 27 = .ok (.iload_n 2, 1) := by decide +kernel
theorem d_X12_heard_28 : decode (qMc M_X12_heard) 28 = .ok (.iconst (-1), 1) := by decide +kernel
theorem d_X12_heard_29 : decode (qMc M_X12_heard) 29 = .ok (.if_icmp .eq 15, 3) := by decide +kernel
theorem d_X12_heard_32 : decode (qMc M_X12_heard) 32 = .ok (.iload_n 2, 1) := by decide +kernel
theorem d_X12_heard_33 : decode (qMc M_X12_heard) 33 = .ok (.iconst 0, 1) := by decide +kernel
theorem d_X12_heard_34 : decode (qMc M_X12_heard) 34 = .ok (.iload 4, 2) := by decide +kernel
theorem d_X12_heard_36 : decode (qMc M_X12_heard) 36 = .ok (.iconst 1, 1) := by decide +kernel
theorem d_X12_heard_37 : decode (qMc M_X12_heard) 37 = .ok (.isub, 1) := by decide +kernel
theorem d_X12_heard_38 : decode (qMc M_X12_heard) 38 = .ok (.invokestatic 137, 3) := by decide +kernel
theorem d_X12_heard_41 : decode (qMc M_X12_heard) 41 = .ok (.ifCond .eq 19, 3) := by decide +kernel
theorem d_X12_heard_44 : decode (qMc M_X12_heard) 44 = .ok (.iload_n 2, 1) := by decide +kernel
theorem d_X12_heard_45 : decode (qMc M_X12_heard) 45 = .ok (.iconst (-1), 1) := by decide +kernel
theorem d_X12_heard_46 : decode (qMc M_X12_heard) 46 = .ok (.if_icmp .ne 16, 3) := by decide +kernel
theorem d_X12_heard_49 : decode (qMc M_X12_heard) 49 = .ok (.iload_n 3, 1) := by decide +kernel
theorem d_X12_heard_50 : decode (qMc M_X12_heard) 50 = .ok (.iconst 0, 1) := by decide +kernel
theorem d_X12_heard_51 : decode (qMc M_X12_heard) 51 = .ok (.sipush 200, 3) := by decide +kernel
theorem d_X12_heard_54 : decode (qMc M_X12_heard) 54 = .ok (.invokestatic 137, 3) := by decide +kernel
theorem d_X12_heard_57 : decode (qMc M_X12_heard) 57 = .ok (.ifCond .ne 5, 3) := by decide +kernel
theorem d_X12_heard_60 : decode (qMc M_X12_heard) 60 = .ok (.iconst (-1), 1) := by decide +kernel
theorem d_X12_heard_61 : decode (qMc M_X12_heard) 61 = .ok (.ireturn, 1) := by decide +kernel
theorem d_X12_heard_62 : decode (qMc M_X12_heard) 62 = .ok (.iconst 0, 1) := by decide +kernel
theorem d_X12_heard_63 : decode (qMc M_X12_heard) 63 = .ok (.istore 5, 2) := by decide +kernel
theorem d_X12_heard_65 : decode (qMc M_X12_heard) 65 = .ok (.iload 5, 2) := by decide +kernel
theorem d_X12_heard_67 : decode (qMc M_X12_heard) 67 = .ok (.iload 4, 2) := by decide +kernel
theorem d_X12_heard_69 : decode (qMc M_X12_heard) 69 = .ok (.if_icmp .ge 29, 3) := by decide +kernel
theorem d_X12_heard_72 : decode (qMc M_X12_heard) 72 = .ok (.aload_n 0, 1) := by decide +kernel
theorem d_X12_heard_73 : decode (qMc M_X12_heard) 73 = .ok (.getfield 124, 3) := by decide +kernel
theorem d_X12_heard_76 : decode (qMc M_X12_heard) 76 = .ok (.iload 5, 2) := by decide +kernel
theorem d_X12_heard_78 : decode (qMc M_X12_heard) 78 = .ok (.iload 5, 2) := by decide +kernel
theorem d_X12_heard_80 : decode (qMc M_X12_heard) 80 = .ok (.iload_n 1, 1) := by decide +kernel
theorem d_X12_heard_81 : decode (qMc M_X12_heard) 81 = .ok (.if_icmp .ne 7, 3) := by decide +kernel
theorem d_X12_heard_84 : decode (qMc M_X12_heard) 84 = .ok (.iconst 0, 1) := by decide +kernel
theorem d_X12_heard_85 : decode (qMc M_X12_heard) 85 = .ok (.goto 6, 3) := by decide +kernel
theorem d_X12_heard_88 : decode (qMc M_X12_heard) 88 = .ok (.sipush 999, 3) := by decide +kernel
theorem d_X12_heard_91 : decode (qMc M_X12_heard) 91 = .ok (.iastore, 1) := by decide +kernel
theorem d_X12_heard_92 : decode (qMc M_X12_heard) 92 = .ok (.iinc 5 1, 3) := by decide +kernel
theorem d_X12_heard_95 : decode (qMc M_X12_heard) 95 = .ok (.goto (-30), 3) := by decide +kernel
theorem d_X12_heard_98 : decode (qMc M_X12_heard) 98 = .ok (.iconst 0, 1) := by decide +kernel
theorem d_X12_heard_99 : decode (qMc M_X12_heard) 99 = .ok (.istore 5, 2) := by decide +kernel
theorem d_X12_heard_101 : decode (qMc M_X12_heard) 101 = .ok (.iload 5, 2) := by decide +kernel
theorem d_X12_heard_103 : decode (qMc M_X12_heard) 103 = .ok (.iload 4, 2) := by decide +kernel
theorem d_X12_heard_105 : decode (qMc M_X12_heard) 105 = .ok (.if_icmp .ge 109, 3) := by decide +kernel
theorem d_X12_heard_108 : decode (qMc M_X12_heard) 108 = .ok (.iconst 0, 1) := by decide +kernel
theorem d_X12_heard_109 : decode (qMc M_X12_heard) 109 = .ok (.istore 6, 2) := by decide +kernel
theorem d_X12_heard_111 : decode (qMc M_X12_heard) 111 = .ok (.iload 6, 2) := by decide +kernel
theorem d_X12_heard_113 : decode (qMc M_X12_heard) 113 = .ok (.iload 4, 2) := by decide +kernel
theorem d_X12_heard_115 : decode (qMc M_X12_heard) 115 = .ok (.if_icmp .ge 93, 3) := by decide +kernel
theorem d_X12_heard_118 : decode (qMc M_X12_heard) 118 = .ok (.iconst 0, 1) := by decide +kernel
theorem d_X12_heard_119 : decode (qMc M_X12_heard) 119 = .ok (.istore 7, 2) := by decide +kernel
theorem d_X12_heard_121 : decode (qMc M_X12_heard) 121 = .ok (.iload 7, 2) := by decide +kernel
theorem d_X12_heard_123 : decode (qMc M_X12_heard) 123 = .ok (.iconst 2, 1) := by decide +kernel
theorem d_X12_heard_124 : decode (qMc M_X12_heard) 124 = .ok (.if_icmp .ge 78, 3) := by decide +kernel
theorem d_X12_heard_127 : decode (qMc M_X12_heard) 127 = .ok (.aload_n 0, 1) := by decide +kernel
theorem d_X12_heard_128 : decode (qMc M_X12_heard) 128 = .ok (.getfield 44, 3) := by decide +kernel
theorem d_X12_heard_131 : decode (qMc M_X12_heard) 131 = .ok (.iload 6, 2) := by decide +kernel
theorem d_X12_heard_133 : decode (qMc M_X12_heard) 133 = .ok (.iload 7, 2) := by decide +kernel
theorem d_X12_heard_135 : decode (qMc M_X12_heard) 135 = .ok (.invokestatic 292, 3) := by decide +kernel
theorem d_X12_heard_138 : decode (qMc M_X12_heard) 138 = .ok (.istore 8, 2) := by decide +kernel
theorem d_X12_heard_140 : decode (qMc M_X12_heard) 140 = .ok (.iload 8, 2) := by decide +kernel
theorem d_X12_heard_142 : decode (qMc M_X12_heard) 142 = .ok (.iconst (-1), 1) := by decide +kernel
theorem d_X12_heard_143 : decode (qMc M_X12_heard) 143 = .ok (.if_icmp .eq 53, 3) := by decide +kernel
theorem d_X12_heard_146 : decode (qMc M_X12_heard) 146 = .ok (.aload_n 0, 1) := by decide +kernel
theorem d_X12_heard_147 : decode (qMc M_X12_heard) 147 = .ok (.getfield 44, 3) := by decide +kernel
theorem d_X12_heard_150 : decode (qMc M_X12_heard) 150 = .ok (.bipush 64, 2) := by decide +kernel
theorem d_X12_heard_152 : decode (qMc M_X12_heard) 152 = .ok (.iload 6, 2) := by decide +kernel
theorem d_X12_heard_154 : decode (qMc M_X12_heard) 154 = .ok (.iadd, 1) := by decide +kernel
theorem d_X12_heard_155 : decode (qMc M_X12_heard) 155 = .ok (.iaload, 1) := by decide +kernel
theorem d_X12_heard_156 : decode (qMc M_X12_heard) 156 = .ok (.ifCond .ne 40, 3) := by decide +kernel
theorem d_X12_heard_159 : decode (qMc M_X12_heard) 159 = .ok (.aload_n 0, 1) := by decide +kernel
theorem d_X12_heard_160 : decode (qMc M_X12_heard) 160 = .ok (.getfield 124, 3) := by decide +kernel
theorem d_X12_heard_163 : decode (qMc M_X12_heard) 163 = .ok (.iload 6, 2) := by decide +kernel
theorem d_X12_heard_165 : decode (qMc M_X12_heard) 165 = .ok (.aload_n 0, 1) := by decide +kernel
theorem d_X12_heard_166 : decode (qMc M_X12_heard) 166 = .ok (.getfield 124, 3) := by decide +kernel
theorem d_X12_heard_169 : decode (qMc M_X12_heard) 169 = .ok (.iload 6, 2) := by decide +kernel
theorem d_X12_heard_171 : decode (qMc M_X12_heard) 171 = .ok (.iaload, 1) := by decide +kernel
theorem d_X12_heard_172 : decode (qMc M_X12_heard) 172 = .ok (.aload_n 0, 1) := by decide +kernel
theorem d_X12_heard_173 : decode (qMc M_X12_heard) 173 = .ok (.getfield 124, 3) := by decide +kernel
theorem d_X12_heard_176 : decode (qMc M_X12_heard) 176 = .ok (.iload 8, 2) := by decide +kernel
theorem d_X12_heard_178 : decode (qMc M_X12_heard) 178 = .ok (.iaload, 1) := by decide +kernel
theorem d_X12_heard_179 : decode (qMc M_X12_heard) 179 = .ok (.iconst 1, 1) := by decide +kernel
theorem d_X12_heard_180 : decode (qMc M_X12_heard) 180 = .ok (.iadd, 1) := by decide +kernel
theorem d_X12_heard_181 : decode (qMc M_X12_heard) 181 = .ok (.aload_n 0, 1) := by decide +kernel
theorem d_X12_heard_182 : decode (qMc M_X12_heard) 182 = .ok (.getfield 44, 3) := by decide +kernel
theorem d_X12_heard_185 : decode (qMc M_X12_heard) 185 = .ok (.bipush 96, 2) := by decide +kernel
theorem d_X12_heard_187 : decode (qMc M_X12_heard) 187 = .ok (.iload 6, 2) := by decide +kernel
theorem d_X12_heard_189 : decode (qMc M_X12_heard) 189 = .ok (.iadd, 1) := by decide +kernel
theorem d_X12_heard_190 : decode (qMc M_X12_heard) 190 = .ok (.iaload, 1) := by decide +kernel
theorem d_X12_heard_191 : decode (qMc M_X12_heard) 191 = .ok (.iadd, 1) := by decide +kernel
theorem d_X12_heard_192 : decode (qMc M_X12_heard) 192 = .ok (.invokestatic 357, 3) := by decide +kernel
theorem d_X12_heard_195 : decode (qMc M_X12_heard) 195 = .ok (.iastore, 1) := by decide +kernel
theorem d_X12_heard_196 : decode (qMc M_X12_heard) 196 = .ok (.iinc 7 1, 3) := by decide +kernel
theorem d_X12_heard_199 : decode (qMc M_X12_heard) 199 = .ok (.goto (-78), 3) := by decide +kernel
theorem d_X12_heard_202 : decode (qMc M_X12_heard) 202 = .ok (.iinc 6 1, 3) := by decide +kernel
theorem d_X12_heard_205 : decode (qMc M_X12_heard) 205 = .ok (.goto (-94), 3) := by decide +kernel
theorem d_X12_heard_208 : decode (qMc M_X12_heard) 208 = .ok (.iinc 5 1, 3) := by decide +kernel
theorem d_X12_heard_211 : decode (qMc M_X12_heard) 211 = .ok (.goto (-110), 3) := by decide +kernel
theorem d_X12_heard_214 : decode (qMc M_X12_heard) 214 = .ok (.iload_n 2, 1) := by decide +kernel
theorem d_X12_heard_215 : decode (qMc M_X12_heard) 215 = .ok (.iconst (-1), 1) := by decide +kernel
theorem d_X12_heard_216 : decode (qMc M_X12_heard) 216 = .ok (.if_icmp .eq 26, 3) := by decide +kernel
theorem d_X12_heard_219 : decode (qMc M_X12_heard) 219 = .ok (.aload_n 0, 1) := by decide +kernel
theorem d_X12_heard_220 : decode (qMc M_X12_heard) 220 = .ok (.getfield 124, 3) := by decide +kernel
theorem d_X12_heard_223 : decode (qMc M_X12_heard) 223 = .ok (.iload_n 2, 1) := by decide +kernel
theorem d_X12_heard_224 : decode (qMc M_X12_heard) 224 = .ok (.iaload, 1) := by decide +kernel
theorem d_X12_heard_225 : decode (qMc M_X12_heard) 225 = .ok (.sipush 999, 3) := by decide +kernel
theorem d_X12_heard_228 : decode (qMc M_X12_heard) 228 = .ok (.if_icmp .lt 7, 3) := by decide +kernel
theorem d_X12_heard_231 : decode (qMc M_X12_heard) 231 = .ok (.iconst (-1), 1) := by decide +kernel
theorem d_X12_heard_232 : decode (qMc M_X12_heard) 232 = .ok (.goto 9, 3) := by decide +kernel
theorem d_X12_heard_235 : decode (qMc M_X12_heard) 235 = .ok (.aload_n 0, 1) := by decide +kernel
theorem d_X12_heard_236 : decode (qMc M_X12_heard) 236 = .ok (.getfield 124, 3) := by decide +kernel
theorem d_X12_heard_239 : decode (qMc M_X12_heard) 239 = .ok (.iload_n 2, 1) := by decide +kernel
theorem d_X12_heard_240 : decode (qMc M_X12_heard) 240 = .ok (.iaload, 1) := by decide +kernel
theorem d_X12_heard_241 : decode (qMc M_X12_heard) 241 = .ok (.ireturn, 1) := by decide +kernel
theorem d_X12_heard_242 : decode (qMc M_X12_heard) 242 = .ok (.iconst 0, 1) := by decide +kernel
theorem d_X12_heard_243 : decode (qMc M_X12_heard) 243 = .ok (.istore 5, 2) := by decide +kernel
theorem d_X12_heard_245 : decode (qMc M_X12_heard) 245 = .ok (.iconst 0, 1) := by decide +kernel
theorem d_X12_heard_246 : decode (qMc M_X12_heard) 246 = .ok (.istore 6, 2) := by decide +kernel
theorem d_X12_heard_248 : decode (qMc M_X12_heard) 248 = .ok (.iload 6, 2) := by decide +kernel
theorem d_X12_heard_250 : decode (qMc M_X12_heard) 250 = .ok (.iload 4, 2) := by decide +kernel
theorem d_X12_heard_252 : decode (qMc M_X12_heard) 252 = .ok (.if_icmp .ge 30, 3) := by decide +kernel
theorem d_X12_heard_255 : decode (qMc M_X12_heard) 255 = .ok (.iload 5, 2) := by decide +kernel
theorem d_X12_heard_257 : decode (qMc M_X12_heard) 257 = .ok (.aload_n 0, 1) := by decide +kernel
theorem d_X12_heard_258 : decode (qMc M_X12_heard) 258 = .ok (.getfield 124, 3) := by decide +kernel
theorem d_X12_heard_261 : decode (qMc M_X12_heard) 261 = .ok (.iload 6, 2) := by decide +kernel
theorem d_X12_heard_263 : decode (qMc M_X12_heard) 263 = .ok (.iaload, 1) := by decide +kernel
theorem d_X12_heard_264 : decode (qMc M_X12_heard) 264 = .ok (.iload_n 3, 1) := by decide +kernel
theorem d_X12_heard_265 : decode (qMc M_X12_heard) 265 = .ok (.if_icmp .gt 7, 3) := by decide +kernel
theorem d_X12_heard_268 : decode (qMc M_X12_heard) 268 = .ok (.iconst 1, 1) := by decide +kernel
theorem d_X12_heard_269 : decode (qMc M_X12_heard) 269 = .ok (.goto 4, 3) := by decide +kernel
theorem d_X12_heard_272 : decode (qMc M_X12_heard) 272 = .ok (.iconst 0, 1) := by decide +kernel
theorem d_X12_heard_273 : decode (qMc M_X12_heard) 273 = .ok (.iadd, 1) := by decide +kernel
theorem d_X12_heard_274 : decode (qMc M_X12_heard) 274 = .ok (.istore 5, 2) := by decide +kernel
theorem d_X12_heard_276 : decode (qMc M_X12_heard) 276 = .ok (.iinc 6 1, 3) := by decide +kernel
theorem d_X12_heard_279 : decode (qMc M_X12_heard) 279 = .ok (.goto (-31), 3) := by decide +kernel
theorem d_X12_heard_282 : decode (qMc M_X12_heard) 282 = .ok (.iload 5, 2) := by decide +kernel
theorem d_X12_heard_284 : decode (qMc M_X12_heard) 284 = .ok (.ireturn, 1) := by decide +kernel
theorem d_X12_enough_0 : decode (qMc M_X12_enough) 0 = .ok (.aload_n 0, 1) := by decide +kernel
theorem d_X12_enough_1 : decode (qMc M_X12_enough) 1 = .ok (.iconst 0, 1) := by decide +kernel
theorem d_X12_enough_2 : decode (qMc M_X12_enough) 2 = .ok (.putfield 127, 3) := by decide +kernel
theorem d_X12_enough_5 : decode (qMc M_X12_enough) 5 = .ok (.iload_n 1, 1) := by decide +kernel
theorem d_X12_enough_6 : decode (qMc M_X12_enough) 6 = .ok (.iconst 1, 1) := by decide +kernel
theorem d_X12_enough_7 : decode (qMc M_X12_enough) 7 = .ok (.bipush 24, 2) := by decide +kernel
theorem d_X12_enough_9 : decode (qMc M_X12_enough) 9 = .ok (.invokestatic 137, 3) := by decide +kernel
theorem d_X12_enough_12 : decode (qMc M_X12_enough) 12 = .ok (.ifCond .ne 5, 3) := by decide +kernel
theorem d_X12_enough_15 : decode (qMc M_X12_enough) 15 = .ok (.iconst (-1), 1) := by decide +kernel
theorem d_X12_enough_16 : decode (qMc M_X12_enough) 16 = .ok (.ireturn, 1) := by decide +kernel
theorem d_X12_enough_17 : decode (qMc M_X12_enough) 17 = .ok (.iconst (-1), 1) := by decide +kernel
theorem d_X12_enough_18 : decode (qMc M_X12_enough) 18 = .ok (.istore_n 2, 1) := by decide +kernel
theorem d_X12_enough_19 : decode (qMc M_X12_enough) 19 = .ok (.iconst 0, 1) := by decide +kernel
theorem d_X12_enough_20 : decode (qMc M_X12_enough) 20 = .ok (.istore_n 3, 1) := by decide +kernel
theorem d_X12_enough_21 : decode (qMc M_X12_enough) 21 = .ok (.iload_n 3, 1) := by decide +kernel
theorem d_X12_enough_22 : decode (qMc M_X12_enough) 22 = .ok (.bipush 16, 2) := by decide +kernel
theorem d_X12_enough_24 : decode (qMc M_X12_enough) 24 = .ok (.if_icmp .ge 63, 3) := by decide +kernel
theorem d_X12_enough_27 : decode (qMc M_X12_enough) 27 = .ok (.iload_n 2, 1) := by decide +kernel
theorem d_X12_enough_28 : decode (qMc M_X12_enough) 28 = .ok (.iconst (-1), 1) := by decide +kernel
theorem d_X12_enough_29 : decode (qMc M_X12_enough) 29 = .ok (.if_icmp .eq 17, 3) := by decide +kernel
theorem d_X12_enough_32 : decode (qMc M_X12_enough) 32 = .ok (.iload_n 3, 1) := by decide +kernel
theorem d_X12_enough_33 : decode (qMc M_X12_enough) 33 = .ok (.invokestatic 411, 3) := by decide +kernel
theorem d_X12_enough_36 : decode (qMc M_X12_enough) 36 = .ok (.iload_n 2, 1) := by decide +kernel
theorem d_X12_enough_37 : decode (qMc M_X12_enough) 37 = .ok (.invokestatic 411, 3) := by decide +kernel
theorem d_X12_enough_40 : decode (qMc M_X12_enough) 40 = .ok (.if_icmp .lt 6, 3) := by decide +kernel
theorem d_X12_enough_43 : decode (qMc M_X12_enough) 43 = .ok (.goto 38, 3) := by decide +kernel
theorem d_X12_enough_46 : decode (qMc M_X12_enough) 46 = .ok (.aload_n 0, 1) := by decide +kernel
theorem d_X12_enough_47 : decode (qMc M_X12_enough) 47 = .ok (.aload_n 0, 1) := by decide +kernel
theorem d_X12_enough_48 : decode (qMc M_X12_enough) 48 = .ok (.getfield 17, 3) := by decide +kernel
theorem d_X12_enough_51 : decode (qMc M_X12_enough) 51 = .ok (.aload_n 0, 1) := by decide +kernel
theorem d_X12_enough_52 : decode (qMc M_X12_enough) 52 = .ok (.getfield 26, 3) := by decide +kernel
theorem d_X12_enough_55 : decode (qMc M_X12_enough) 55 = .ok (.iload_n 3, 1) := by decide +kernel
theorem d_X12_enough_56 : decode (qMc M_X12_enough) 56 = .ok (.iconst (-1), 1) := by decide +kernel
theorem d_X12_enough_57 : decode (qMc M_X12_enough) 57 = .ok (.iconst (-1), 1) := by decide +kernel
theorem d_X12_enough_58 : decode (qMc M_X12_enough) 58 = .ok (.iconst 0, 1) := by decide +kernel
theorem d_X12_enough_59 : decode (qMc M_X12_enough) 59 = .ok (.aload_n 0, 1) := by decide +kernel
theorem d_X12_enough_60 : decode (qMc M_X12_enough) 60 = .ok (.getfield 86, 3) := by decide +kernel
theorem d_X12_enough_63 : decode (qMc M_X12_enough) 63 = .ok (.invokevirtual 271, 3) := by decide +kernel
theorem d_X12_enough_66 : decode (qMc M_X12_enough) 66 = .ok (.aload_n 0, 1) := by decide +kernel
theorem d_X12_enough_67 : decode (qMc M_X12_enough) 67 = .ok (.iload_n 1, 1) := by decide +kernel
theorem d_X12_enough_68 : decode (qMc M_X12_enough) 68 = .ok (.invokevirtual 354, 3) := by decide +kernel
theorem d_X12_enough_71 : decode (qMc M_X12_enough) 71 = .ok (.iconst (-1), 1) := by decide +kernel
theorem d_X12_enough_72 : decode (qMc M_X12_enough) 72 = .ok (.if_icmp .ne 7, 3) := by decide +kernel
theorem d_X12_enough_75 : decode (qMc M_X12_enough) 75 = .ok (.iload_n 3, 1) := by decide +kernel
theorem d_X12_enough_76 : decode (qMc M_X12_enough) 76 = .ok (.goto 4, 3) := by decide +kernel
theorem d_X12_enough_79 : decode (qMc M_X12_enough) 79 = .ok (.iload_n 2, 1) := by decide +kernel
theorem d_X12_enough_80 : decode (qMc M_X12_enough) 80 = .ok (.istore_n 2, 1) := by decide +kernel
theorem d_X12_enough_81 : decode (qMc M_X12_enough) 81 = .ok (.iinc 3 1, 3) := by decide +kernel
theorem d_X12_enough_84 : decode (qMc M_X12_enough) 84 = .ok (.goto (-63), 3) := by decide +kernel
theorem d_X12_enough_87 : decode (qMc M_X12_enough) 87 = .ok (.iload_n 2, 1) := by decide +kernel
theorem d_X12_enough_88 : decode (qMc M_X12_enough) 88 = .ok (.ireturn, 1) := by decide +kernel
theorem d_J6_numberOfTrailingZeros_0f7a4_0 : decode (qMc M_J6_numberOfTrailingZeros_0f7a4) 0 = .ok (.iload_n 0, 1) := by decide +kernel
theorem d_J6_numberOfTrailingZeros_0f7a4_1 : decode (qMc M_J6_numberOfTrailingZeros_0f7a4) 1 = .ok (.iconst (-1), 1) := by decide +kernel
theorem d_J6_numberOfTrailingZeros_0f7a4_2 : decode (qMc M_J6_numberOfTrailingZeros_0f7a4) 2 = .ok (.ixor, 1) := by decide +kernel
theorem d_J6_numberOfTrailingZeros_0f7a4_3 : decode (qMc M_J6_numberOfTrailingZeros_0f7a4) 3 = .ok (.iload_n 0, 1) := by decide +kernel
theorem d_J6_numberOfTrailingZeros_0f7a4_4 : decode (qMc M_J6_numberOfTrailingZeros_0f7a4) 4 = .ok (.iconst 1, 1) := by decide +kernel
theorem d_J6_numberOfTrailingZeros_0f7a4_5 : decode (qMc M_J6_numberOfTrailingZeros_0f7a4) 5 = .ok (.isub, 1) := by decide +kernel
theorem d_J6_numberOfTrailingZeros_0f7a4_6 : decode (qMc M_J6_numberOfTrailingZeros_0f7a4) 6 = .ok (.iand, 1) := by decide +kernel
theorem d_J6_numberOfTrailingZeros_0f7a4_7 : decode (qMc M_J6_numberOfTrailingZeros_0f7a4) 7 = .ok (.istore_n 0, 1) := by decide +kernel
theorem d_J6_numberOfTrailingZeros_0f7a4_8 : decode (qMc M_J6_numberOfTrailingZeros_0f7a4) 8 = .ok (.iload_n 0, 1) := by decide +kernel
theorem d_J6_numberOfTrailingZeros_0f7a4_9 : decode (qMc M_J6_numberOfTrailingZeros_0f7a4) 9 = .ok (.ifCond .gt 8, 3) := by decide +kernel
theorem d_J6_numberOfTrailingZeros_0f7a4_12 : decode (qMc M_J6_numberOfTrailingZeros_0f7a4) 12 = .ok (.iload_n 0, 1) := by decide +kernel
theorem d_J6_numberOfTrailingZeros_0f7a4_13 : decode (qMc M_J6_numberOfTrailingZeros_0f7a4) 13 = .ok (.bipush 32, 2) := by decide +kernel
theorem d_J6_numberOfTrailingZeros_0f7a4_15 : decode (qMc M_J6_numberOfTrailingZeros_0f7a4) 15 = .ok (.iand, 1) := by decide +kernel
theorem d_J6_numberOfTrailingZeros_0f7a4_16 : decode (qMc M_J6_numberOfTrailingZeros_0f7a4) 16 = .ok (.ireturn, 1) := by decide +kernel
theorem d_J6_numberOfTrailingZeros_0f7a4_17 : decode (qMc M_J6_numberOfTrailingZeros_0f7a4) 17 = .ok (.iconst 1, 1) := by decide +kernel
theorem d_J6_numberOfTrailingZeros_0f7a4_18 : decode (qMc M_J6_numberOfTrailingZeros_0f7a4) 18 = .ok (.istore_n 1, 1) := by decide +kernel
theorem d_J6_numberOfTrailingZeros_0f7a4_19 : decode (qMc M_J6_numberOfTrailingZeros_0f7a4) 19 = .ok (.iload_n 0, 1) := by decide +kernel
theorem d_J6_numberOfTrailingZeros_0f7a4_20 : decode (qMc M_J6_numberOfTrailingZeros_0f7a4) 20 = .ok (.ldc_w 264, 3) := by decide +kernel
theorem d_J6_numberOfTrailingZeros_0f7a4_23 : decode (qMc M_J6_numberOfTrailingZeros_0f7a4) 23 = .ok (.if_icmp .le 11, 3) := by decide +kernel
theorem d_J6_numberOfTrailingZeros_0f7a4_26 : decode (qMc M_J6_numberOfTrailingZeros_0f7a4) 26 = .ok (.iinc 1 16, 3) := by decide +kernel
theorem d_J6_numberOfTrailingZeros_0f7a4_29 : decode (qMc M_J6_numberOfTrailingZeros_0f7a4) 29 = .ok (.iload_n 0, 1) := by decide +kernel
theorem d_J6_numberOfTrailingZeros_0f7a4_30 : decode (qMc M_J6_numberOfTrailingZeros_0f7a4) 30 = .ok (.bipush 16, 2) := by decide +kernel
theorem d_J6_numberOfTrailingZeros_0f7a4_32 : decode (qMc M_J6_numberOfTrailingZeros_0f7a4) 32 = .ok (.iushr, 1) := by decide +kernel
theorem d_J6_numberOfTrailingZeros_0f7a4_33 : decode (qMc M_J6_numberOfTrailingZeros_0f7a4) 33 = .ok (.istore_n 0, 1) := by decide +kernel
theorem d_J6_numberOfTrailingZeros_0f7a4_34 : decode (qMc M_J6_numberOfTrailingZeros_0f7a4) 34 = .ok (.iload_n 0, 1) := by decide +kernel
theorem d_J6_numberOfTrailingZeros_0f7a4_35 : decode (qMc M_J6_numberOfTrailingZeros_0f7a4) 35 = .ok (.sipush 256, 3) := by decide +kernel
theorem d_J6_numberOfTrailingZeros_0f7a4_38 : decode (qMc M_J6_numberOfTrailingZeros_0f7a4) 38 = .ok (.if_icmp .le 11, 3) := by decide +kernel
theorem d_J6_numberOfTrailingZeros_0f7a4_41 : decode (qMc M_J6_numberOfTrailingZeros_0f7a4) 41 = .ok (.iinc 1 8, 3) := by decide +kernel
theorem d_J6_numberOfTrailingZeros_0f7a4_44 : decode (qMc M_J6_numberOfTrailingZeros_0f7a4) 44 = .ok (.iload_n 0, 1) := by decide +kernel
theorem d_J6_numberOfTrailingZeros_0f7a4_45 : decode (qMc M_J6_numberOfTrailingZeros_0f7a4) 45 = .ok (.bipush 8, 2) := by decide +kernel
theorem d_J6_numberOfTrailingZeros_0f7a4_47 : decode (qMc M_J6_numberOfTrailingZeros_0f7a4) 47 = .ok (.iushr, 1) := by decide +kernel
theorem d_J6_numberOfTrailingZeros_0f7a4_48 : decode (qMc M_J6_numberOfTrailingZeros_0f7a4) 48 = .ok (.istore_n 0, 1) := by decide +kernel
theorem d_J6_numberOfTrailingZeros_0f7a4_49 : decode (qMc M_J6_numberOfTrailingZeros_0f7a4) 49 = .ok (.iload_n 0, 1) := by decide +kernel
theorem d_J6_numberOfTrailingZeros_0f7a4_50 : decode (qMc M_J6_numberOfTrailingZeros_0f7a4) 50 = .ok (.bipush 16, 2) := by decide +kernel
theorem d_J6_numberOfTrailingZeros_0f7a4_52 : decode (qMc M_J6_numberOfTrailingZeros_0f7a4) 52 = .ok (.if_icmp .le 10, 3) := by decide +kernel
theorem d_J6_numberOfTrailingZeros_0f7a4_55 : decode (qMc M_J6_numberOfTrailingZeros_0f7a4) 55 = .ok (.iinc 1 4, 3) := by decide +kernel
theorem d_J6_numberOfTrailingZeros_0f7a4_58 : decode (qMc M_J6_numberOfTrailingZeros_0f7a4) 58 = .ok (.iload_n 0, 1) := by decide +kernel
theorem d_J6_numberOfTrailingZeros_0f7a4_59 : decode (qMc M_J6_numberOfTrailingZeros_0f7a4) 59 = .ok (.iconst 4, 1) := by decide +kernel
theorem d_J6_numberOfTrailingZeros_0f7a4_60 : decode (qMc M_J6_numberOfTrailingZeros_0f7a4) 60 = .ok (.iushr, 1) := by decide +kernel
theorem d_J6_numberOfTrailingZeros_0f7a4_61 : decode (qMc M_J6_numberOfTrailingZeros_0f7a4) 61 = .ok (.istore_n 0, 1) := by decide +kernel
theorem d_J6_numberOfTrailingZeros_0f7a4_62 : decode (qMc M_J6_numberOfTrailingZeros_0f7a4) 62 = .ok (.iload_n 0, 1) := by decide +kernel
theorem d_J6_numberOfTrailingZeros_0f7a4_63 : decode (qMc M_J6_numberOfTrailingZeros_0f7a4) 63 = .ok (.iconst 4, 1) := by decide +kernel
theorem d_J6_numberOfTrailingZeros_0f7a4_64 : decode (qMc M_J6_numberOfTrailingZeros_0f7a4) 64 = .ok (.if_icmp .le 10, 3) := by decide +kernel
theorem d_J6_numberOfTrailingZeros_0f7a4_67 : decode (qMc M_J6_numberOfTrailingZeros_0f7a4) 67 = .ok (.iinc 1 2, 3) := by decide +kernel
theorem d_J6_numberOfTrailingZeros_0f7a4_70 : decode (qMc M_J6_numberOfTrailingZeros_0f7a4) 70 = .ok (.iload_n 0, 1) := by decide +kernel
theorem d_J6_numberOfTrailingZeros_0f7a4_71 : decode (qMc M_J6_numberOfTrailingZeros_0f7a4) 71 = .ok (.iconst 2, 1) := by decide +kernel
theorem d_J6_numberOfTrailingZeros_0f7a4_72 : decode (qMc M_J6_numberOfTrailingZeros_0f7a4) 72 = .ok (.iushr, 1) := by decide +kernel
theorem d_J6_numberOfTrailingZeros_0f7a4_73 : decode (qMc M_J6_numberOfTrailingZeros_0f7a4) 73 = .ok (.istore_n 0, 1) := by decide +kernel
theorem d_J6_numberOfTrailingZeros_0f7a4_74 : decode (qMc M_J6_numberOfTrailingZeros_0f7a4) 74 = .ok (.iload_n 1, 1) := by decide +kernel
theorem d_J6_numberOfTrailingZeros_0f7a4_75 : decode (qMc M_J6_numberOfTrailingZeros_0f7a4) 75 = .ok (.iload_n 0, 1) := by decide +kernel
theorem d_J6_numberOfTrailingZeros_0f7a4_76 : decode (qMc M_J6_numberOfTrailingZeros_0f7a4) 76 = .ok (.iconst 1, 1) := by decide +kernel
theorem d_J6_numberOfTrailingZeros_0f7a4_77 : decode (qMc M_J6_numberOfTrailingZeros_0f7a4) 77 = .ok (.iushr, 1) := by decide +kernel
theorem d_J6_numberOfTrailingZeros_0f7a4_78 : decode (qMc M_J6_numberOfTrailingZeros_0f7a4) 78 = .ok (.iadd, 1) := by decide +kernel
theorem d_J6_numberOfTrailingZeros_0f7a4_79 : decode (qMc M_J6_numberOfTrailingZeros_0f7a4) 79 = .ok (.ireturn, 1) := by decide +kernel
theorem d_J6_bitCount_0f7a4_0 : decode (qMc M_J6_bitCount_0f7a4) 0 = .ok (.iload_n 0, 1) := by decide +kernel
theorem d_J6_bitCount_0f7a4_1 : decode (qMc M_J6_bitCount_0f7a4) 1 = .ok (.iload_n 0, 1) := by decide +kernel
theorem d_J6_bitCount_0f7a4_2 : decode (qMc M_J6_bitCount_0f7a4) 2 = .ok (.iconst 1, 1) := by decide +kernel
theorem d_J6_bitCount_0f7a4_3 : decode (qMc M_J6_bitCount_0f7a4) 3 = .ok (.iushr, 1) := by decide +kernel
theorem d_J6_bitCount_0f7a4_4 : decode (qMc M_J6_bitCount_0f7a4) 4 = .ok (.ldc_w 265, 3) := by decide +kernel
theorem d_J6_bitCount_0f7a4_7 : decode (qMc M_J6_bitCount_0f7a4) 7 = .ok (.iand, 1) := by decide +kernel
theorem d_J6_bitCount_0f7a4_8 : decode (qMc M_J6_bitCount_0f7a4) 8 = .ok (.isub, 1) := by decide +kernel
theorem d_J6_bitCount_0f7a4_9 : decode (qMc M_J6_bitCount_0f7a4) 9 = .ok (.istore_n 0, 1) := by decide +kernel
theorem d_J6_bitCount_0f7a4_10 : decode (qMc M_J6_bitCount_0f7a4) 10 = .ok (.iload_n 0, 1) := by decide +kernel
theorem d_J6_bitCount_0f7a4_11 : decode (qMc M_J6_bitCount_0f7a4) 11 = .ok (.ldc_w 266, 3) := by decide +kernel
theorem d_J6_bitCount_0f7a4_14 : decode (qMc M_J6_bitCount_0f7a4) 14 = .ok (.iand, 1) := by decide +kernel
theorem d_J6_bitCount_0f7a4_15 : decode (qMc M_J6_bitCount_0f7a4) 15 = .ok (.iload_n 0, 1) := by decide +kernel
theorem d_J6_bitCount_0f7a4_16 : decode (qMc M_J6_bitCount_0f7a4) 16 = .ok (.iconst 2, 1) := by decide +kernel
theorem d_J6_bitCount_0f7a4_17 : decode (qMc M_J6_bitCount_0f7a4) 17 = .ok (.iushr, 1) := by decide +kernel
theorem d_J6_bitCount_0f7a4_18 : decode (qMc M_J6_bitCount_0f7a4) 18 = .ok (.ldc_w 266, 3) := by decide +kernel
theorem d_J6_bitCount_0f7a4_21 : decode (qMc M_J6_bitCount_0f7a4) 21 = .ok (.iand, 1) := by decide +kernel
theorem d_J6_bitCount_0f7a4_22 : decode (qMc M_J6_bitCount_0f7a4) 22 = .ok (.iadd, 1) := by decide +kernel
theorem d_J6_bitCount_0f7a4_23 : decode (qMc M_J6_bitCount_0f7a4) 23 = .ok (.istore_n 0, 1) := by decide +kernel
theorem d_J6_bitCount_0f7a4_24 : decode (qMc M_J6_bitCount_0f7a4) 24 = .ok (.iload_n 0, 1) := by decide +kernel
theorem d_J6_bitCount_0f7a4_25 : decode (qMc M_J6_bitCount_0f7a4) 25 = .ok (.iload_n 0, 1) := by decide +kernel
theorem d_J6_bitCount_0f7a4_26 : decode (qMc M_J6_bitCount_0f7a4) 26 = .ok (.iconst 4, 1) := by decide +kernel
theorem d_J6_bitCount_0f7a4_27 : decode (qMc M_J6_bitCount_0f7a4) 27 = .ok (.iushr, 1) := by decide +kernel
theorem d_J6_bitCount_0f7a4_28 : decode (qMc M_J6_bitCount_0f7a4) 28 = .ok (.iadd, 1) := by decide +kernel
theorem d_J6_bitCount_0f7a4_29 : decode (qMc M_J6_bitCount_0f7a4) 29 = .ok (.ldc_w 267, 3) := by decide +kernel
theorem d_J6_bitCount_0f7a4_32 : decode (qMc M_J6_bitCount_0f7a4) 32 = .ok (.iand, 1) := by decide +kernel
theorem d_J6_bitCount_0f7a4_33 : decode (qMc M_J6_bitCount_0f7a4) 33 = .ok (.istore_n 0, 1) := by decide +kernel
theorem d_J6_bitCount_0f7a4_34 : decode (qMc M_J6_bitCount_0f7a4) 34 = .ok (.iload_n 0, 1) := by decide +kernel
theorem d_J6_bitCount_0f7a4_35 : decode (qMc M_J6_bitCount_0f7a4) 35 = .ok (.iload_n 0, 1) := by decide +kernel
theorem d_J6_bitCount_0f7a4_36 : decode (qMc M_J6_bitCount_0f7a4) 36 = .ok (.bipush 8, 2) := by decide +kernel
theorem d_J6_bitCount_0f7a4_38 : decode (qMc M_J6_bitCount_0f7a4) 38 = .ok (.iushr, 1) := by decide +kernel
theorem d_J6_bitCount_0f7a4_39 : decode (qMc M_J6_bitCount_0f7a4) 39 = .ok (.iadd, 1) := by decide +kernel
theorem d_J6_bitCount_0f7a4_40 : decode (qMc M_J6_bitCount_0f7a4) 40 = .ok (.istore_n 0, 1) := by decide +kernel
theorem d_J6_bitCount_0f7a4_41 : decode (qMc M_J6_bitCount_0f7a4) 41 = .ok (.iload_n 0, 1) := by decide +kernel
theorem d_J6_bitCount_0f7a4_42 : decode (qMc M_J6_bitCount_0f7a4) 42 = .ok (.iload_n 0, 1) := by decide +kernel
theorem d_J6_bitCount_0f7a4_43 : decode (qMc M_J6_bitCount_0f7a4) 43 = .ok (.bipush 16, 2) := by decide +kernel
theorem d_J6_bitCount_0f7a4_45 : decode (qMc M_J6_bitCount_0f7a4) 45 = .ok (.iushr, 1) := by decide +kernel
theorem d_J6_bitCount_0f7a4_46 : decode (qMc M_J6_bitCount_0f7a4) 46 = .ok (.iadd, 1) := by decide +kernel
theorem d_J6_bitCount_0f7a4_47 : decode (qMc M_J6_bitCount_0f7a4) 47 = .ok (.istore_n 0, 1) := by decide +kernel
theorem d_J6_bitCount_0f7a4_48 : decode (qMc M_J6_bitCount_0f7a4) 48 = .ok (.iload_n 0, 1) := by decide +kernel
theorem d_J6_bitCount_0f7a4_49 : decode (qMc M_J6_bitCount_0f7a4) 49 = .ok (.bipush 63, 2) := by decide +kernel
theorem d_J6_bitCount_0f7a4_51 : decode (qMc M_J6_bitCount_0f7a4) 51 = .ok (.iand, 1) := by decide +kernel
theorem d_J6_bitCount_0f7a4_52 : decode (qMc M_J6_bitCount_0f7a4) 52 = .ok (.ireturn, 1) := by decide +kernel
theorem d_J9_floorMod_7cf53_0 : decode (qMc M_J9_floorMod_7cf53) 0 = .ok (.iload_n 0, 1) := by decide +kernel
theorem d_J9_floorMod_7cf53_1 : decode (qMc M_J9_floorMod_7cf53) 1 = .ok (.iload_n 1, 1) := by decide +kernel
theorem d_J9_floorMod_7cf53_2 : decode (qMc M_J9_floorMod_7cf53) 2 = .ok (.irem, 1) := by decide +kernel
theorem d_J9_floorMod_7cf53_3 : decode (qMc M_J9_floorMod_7cf53) 3 = .ok (.istore_n 2, 1) := by decide +kernel
theorem d_J9_floorMod_7cf53_4 : decode (qMc M_J9_floorMod_7cf53) 4 = .ok (.iload_n 0, 1) := by decide +kernel
theorem d_J9_floorMod_7cf53_5 : decode (qMc M_J9_floorMod_7cf53) 5 = .ok (.iload_n 1, 1) := by decide +kernel
theorem d_J9_floorMod_7cf53_6 : decode (qMc M_J9_floorMod_7cf53) 6 = .ok (.ixor, 1) := by decide +kernel
theorem d_J9_floorMod_7cf53_7 : decode (qMc M_J9_floorMod_7cf53) 7 = .ok (.ifCond .ge 11, 3) := by decide +kernel
theorem d_J9_floorMod_7cf53_10 : decode (qMc M_J9_floorMod_7cf53) 10 = .ok (.iload_n 2, 1) := by decide +kernel
theorem d_J9_floorMod_7cf53_11 : decode (qMc M_J9_floorMod_7cf53) 11 = .ok (.ifCond .eq 7, 3) := by decide +kernel
theorem d_J9_floorMod_7cf53_14 : decode (qMc M_J9_floorMod_7cf53) 14 = .ok (.iload_n 2, 1) := by decide +kernel
theorem d_J9_floorMod_7cf53_15 : decode (qMc M_J9_floorMod_7cf53) 15 = .ok (.iload_n 1, 1) := by decide +kernel
theorem d_J9_floorMod_7cf53_16 : decode (qMc M_J9_floorMod_7cf53) 16 = .ok (.iadd, 1) := by decide +kernel
theorem d_J9_floorMod_7cf53_17 : decode (qMc M_J9_floorMod_7cf53) 17 = .ok (.ireturn, 1) := by decide +kernel
theorem d_J9_floorMod_7cf53_18 : decode (qMc M_J9_floorMod_7cf53) 18 = .ok (.iload_n 2, 1) := by decide +kernel
theorem d_J9_floorMod_7cf53_19 : decode (qMc M_J9_floorMod_7cf53) 19 = .ok (.ireturn, 1) := by decide +kernel
theorem d_J9_abs_0f7a4_0 : decode (qMc M_J9_abs_0f7a4) 0 = .ok (.iload_n 0, 1) := by decide +kernel
theorem d_J9_abs_0f7a4_1 : decode (qMc M_J9_abs_0f7a4) 1 = .ok (.ifCond .ge 8, 3) := by decide +kernel
theorem d_J9_abs_0f7a4_4 : decode (qMc M_J9_abs_0f7a4) 4 = .ok (.iload_n 0, 1) := by decide +kernel
theorem d_J9_abs_0f7a4_5 : decode (qMc M_J9_abs_0f7a4) 5 = .ok (.ineg, 1) := by decide +kernel
theorem d_J9_abs_0f7a4_6 : decode (qMc M_J9_abs_0f7a4) 6 = .ok (.goto 4, 3) := by decide +kernel
theorem d_J9_abs_0f7a4_9 : decode (qMc M_J9_abs_0f7a4) 9 = .ok (.iload_n 0, 1) := by decide +kernel
theorem d_J9_abs_0f7a4_10 : decode (qMc M_J9_abs_0f7a4) 10 = .ok (.ireturn, 1) := by decide +kernel
theorem d_J9_max_7cf53_0 : decode (qMc M_J9_max_7cf53) 0 = .ok (.iload_n 0, 1) := by decide +kernel
theorem d_J9_max_7cf53_1 : decode (qMc M_J9_max_7cf53) 1 = .ok (.iload_n 1, 1) := by decide +kernel
theorem d_J9_max_7cf53_2 : decode (qMc M_J9_max_7cf53) 2 = .ok (.if_icmp .lt 7, 3) := by decide +kernel
theorem d_J9_max_7cf53_5 : decode (qMc M_J9_max_7cf53) 5 = .ok (.iload_n 0, 1) := by decide +kernel
theorem d_J9_max_7cf53_6 : decode (qMc M_J9_max_7cf53) 6 = .ok (.goto 4, 3) := by decide +kernel
theorem d_J9_max_7cf53_9 : decode (qMc M_J9_max_7cf53) 9 = .ok (.iload_n 1, 1) := by decide +kernel
theorem d_J9_max_7cf53_10 : decode (qMc M_J9_max_7cf53) 10 = .ok (.ireturn, 1) := by decide +kernel
theorem d_J9_min_7cf53_0 : decode (qMc M_J9_min_7cf53) 0 = .ok (.iload_n 0, 1) := by decide +kernel
theorem d_J9_min_7cf53_1 : decode (qMc M_J9_min_7cf53) 1 = .ok (.iload_n 1, 1) := by decide +kernel
theorem d_J9_min_7cf53_2 : decode (qMc M_J9_min_7cf53) 2 = .ok (.if_icmp .gt 7, 3) := by decide +kernel
theorem d_J9_min_7cf53_5 : decode (qMc M_J9_min_7cf53) 5 = .ok (.iload_n 0, 1) := by decide +kernel
theorem d_J9_min_7cf53_6 : decode (qMc M_J9_min_7cf53) 6 = .ok (.goto 4, 3) := by decide +kernel
theorem d_J9_min_7cf53_9 : decode (qMc M_J9_min_7cf53) 9 = .ok (.iload_n 1, 1) := by decide +kernel
theorem d_J9_min_7cf53_10 : decode (qMc M_J9_min_7cf53) 10 = .ok (.ireturn, 1) := by decide +kernel
theorem d_J7_fill_d0a16_0 : decode (qMc M_J7_fill_d0a16) 0 = .ok (.iconst 0, 1) := by decide +kernel
theorem d_J7_fill_d0a16_1 : decode (qMc M_J7_fill_d0a16) 1 = .ok (.istore_n 3, 1) := by decide +kernel
theorem d_J7_fill_d0a16_2 : decode (qMc M_J7_fill_d0a16) 2 = .ok (.aload_n 0, 1) := by decide +kernel
theorem d_J7_fill_d0a16_3 : decode (qMc M_J7_fill_d0a16) 3 = .ok (.arraylength, 1) := by decide +kernel
theorem d_J7_fill_d0a16_4 : decode (qMc M_J7_fill_d0a16) 4 = .ok (.istore 4, 2) := by decide +kernel
theorem d_J7_fill_d0a16_6 : decode (qMc M_J7_fill_d0a16) 6 = .ok (.iload_n 3, 1) := by decide +kernel
theorem d_J7_fill_d0a16_7 : decode (qMc M_J7_fill_d0a16) 7 = .ok (.iload 4, 2) := by decide +kernel
theorem d_J7_fill_d0a16_9 : decode (qMc M_J7_fill_d0a16) 9 = .ok (.if_icmp .ge 13, 3) := by decide +kernel
theorem d_J7_fill_d0a16_12 : decode (qMc M_J7_fill_d0a16) 12 = .ok (.aload_n 0, 1) := by decide +kernel
theorem d_J7_fill_d0a16_13 : decode (qMc M_J7_fill_d0a16) 13 = .ok (.iload_n 3, 1) := by decide +kernel
theorem d_J7_fill_d0a16_14 : decode (qMc M_J7_fill_d0a16) 14 = .ok (.lload_n 1, 1) := by decide +kernel
theorem d_J7_fill_d0a16_15 : decode (qMc M_J7_fill_d0a16) 15 = .ok (.lastore, 1) := by decide +kernel
theorem d_J7_fill_d0a16_16 : decode (qMc M_J7_fill_d0a16) 16 = .ok (.iinc 3 1, 3) := by decide +kernel
theorem d_J7_fill_d0a16_19 : decode (qMc M_J7_fill_d0a16) 19 = .ok (.goto (-13), 3) := by decide +kernel
theorem d_J7_fill_d0a16_22 : decode (qMc M_J7_fill_d0a16) 22 = .ok (.return_, 1) := by decide +kernel
theorem d_J7_fill_53178_0 : decode (qMc M_J7_fill_53178) 0 = .ok (.iconst 0, 1) := by decide +kernel
theorem d_J7_fill_53178_1 : decode (qMc M_J7_fill_53178) 1 = .ok (.istore_n 2, 1) := by decide +kernel
theorem d_J7_fill_53178_2 : decode (qMc M_J7_fill_53178) 2 = .ok (.aload_n 0, 1) := by decide +kernel
theorem d_J7_fill_53178_3 : decode (qMc M_J7_fill_53178) 3 = .ok (.arraylength, 1) := by decide +kernel
theorem d_J7_fill_53178_4 : decode (qMc M_J7_fill_53178) 4 = .ok (.istore_n 3, 1) := by decide +kernel
theorem d_J7_fill_53178_5 : decode (qMc M_J7_fill_53178) 5 = .ok (.iload_n 2, 1) := by decide +kernel
theorem d_J7_fill_53178_6 : decode (qMc M_J7_fill_53178) 6 = .ok (.iload_n 3, 1) := by decide +kernel
theorem d_J7_fill_53178_7 : decode (qMc M_J7_fill_53178) 7 = .ok (.if_icmp .ge 13, 3) := by decide +kernel
theorem d_J7_fill_53178_10 : decode (qMc M_J7_fill_53178) 10 = .ok (.aload_n 0, 1) := by decide +kernel
theorem d_J7_fill_53178_11 : decode (qMc M_J7_fill_53178) 11 = .ok (.iload_n 2, 1) := by decide +kernel
theorem d_J7_fill_53178_12 : decode (qMc M_J7_fill_53178) 12 = .ok (.iload_n 1, 1) := by decide +kernel
theorem d_J7_fill_53178_13 : decode (qMc M_J7_fill_53178) 13 = .ok (.iastore, 1) := by decide +kernel
theorem d_J7_fill_53178_14 : decode (qMc M_J7_fill_53178) 14 = .ok (.iinc 2 1, 3) := by decide +kernel
theorem d_J7_fill_53178_17 : decode (qMc M_J7_fill_53178) 17 = .ok (.goto (-12), 3) := by decide +kernel
theorem d_J7_fill_53178_20 : decode (qMc M_J7_fill_53178) 20 = .ok (.return_, 1) := by decide +kernel
theorem d_L_law_0 : decode (qMc M_L_law) 0 = .ok (.new 7, 3) := by decide +kernel
theorem d_L_law_3 : decode (qMc M_L_law) 3 = .ok (.dup, 1) := by decide +kernel
theorem d_L_law_4 : decode (qMc M_L_law) 4 = .ok (.invokespecial 9, 3) := by decide +kernel
theorem d_L_law_7 : decode (qMc M_L_law) 7 = .ok (.astore_n 1, 1) := by decide +kernel
theorem d_L_law_8 : decode (qMc M_L_law) 8 = .ok (.new 10, 3) := by decide +kernel
theorem d_L_law_11 : decode (qMc M_L_law) 11 = .ok (.dup, 1) := by decide +kernel
theorem d_L_law_12 : decode (qMc M_L_law) 12 = .ok (.invokespecial 12, 3) := by decide +kernel
theorem d_L_law_15 : decode (qMc M_L_law) 15 = .ok (.astore_n 2, 1) := by decide +kernel
theorem d_L_law_16 : decode (qMc M_L_law) 16 = .ok (.iconst 0, 1) := by decide +kernel
theorem d_L_law_17 : decode (qMc M_L_law) 17 = .ok (.istore_n 3, 1) := by decide +kernel
theorem d_L_law_18 : decode (qMc M_L_law) 18 = .ok (.iload_n 3, 1) := by decide +kernel
theorem d_L_law_19 : decode (qMc M_L_law) 19 = .ok (.aload_n 0, 1) := by decide +kernel
theorem d_L_law_20 : decode (qMc M_L_law) 20 = .ok (.arraylength, 1) := by decide +kernel
theorem d_L_law_21 : decode (qMc M_L_law) 21 = .ok (.bipush 6, 2) := by decide +kernel
theorem d_L_law_23 : decode (qMc M_L_law) 23 = .ok (.isub, 1) := by decide +kernel
theorem d_L_law_24 : decode (qMc M_L_law) 24 = .ok (.if_icmp .gt 1733, 3) := by decide +kernel
theorem d_L_law_27 : decode (qMc M_L_law) 27 = .ok (.aload_n 0, 1) := by decide +kernel
theorem d_L_law_28 : decode (qMc M_L_law) 28 = .ok (.iload_n 3, 1) := by decide +kernel
theorem d_L_law_29 : decode (qMc M_L_law) 29 = .ok (.iaload, 1) := by decide +kernel
theorem d_L_law_30 : decode (qMc M_L_law) 30 = .ok (.bipush 63, 2) := by decide +kernel
theorem d_L_law_32 : decode (qMc M_L_law) 32 = .ok (.iand, 1) := by decide +kernel
theorem d_L_law_33 : decode (qMc M_L_law) 33 = .ok (.tableswitch 1718 0 42 #[187, 236, 279, 302, 365, 388, 411, 434, 467, 520, 553, 596, 629, 672, 705, 738, 771, 804, 837, 880, 923, 946, 959, 992, 1045, 1098, 1111, 1134, 1177, 1200, 1223, 1246, 1299, 1342, 1395, 1438, 1481, 1534, 1567, 1600, 1643, 1656, 1695], 187) := by decide +kernel
theorem d_L_law_220 : decode (qMc M_L_law) 220 = .ok (.aload_n 1, 1) := by decide +kernel
theorem d_L_law_221 : decode (qMc M_L_law) 221 = .ok (.aload_n 0, 1) := by decide +kernel
theorem d_L_law_222 : decode (qMc M_L_law) 222 = .ok (.iload_n 3, 1) := by decide +kernel
theorem d_L_law_223 : decode (qMc M_L_law) 223 = .ok (.iconst 1, 1) := by decide +kernel
theorem d_L_law_224 : decode (qMc M_L_law) 224 = .ok (.iadd, 1) := by decide +kernel
theorem d_L_law_225 : decode (qMc M_L_law) 225 = .ok (.iaload, 1) := by decide +kernel
theorem d_L_law_226 : decode (qMc M_L_law) 226 = .ok (.aload_n 0, 1) := by decide +kernel
theorem d_L_law_227 : decode (qMc M_L_law) 227 = .ok (.iload_n 3, 1) := by decide +kernel
theorem d_L_law_228 : decode (qMc M_L_law) 228 = .ok (.iconst 2, 1) := by decide +kernel
theorem d_L_law_229 : decode (qMc M_L_law) 229 = .ok (.iadd, 1) := by decide +kernel
theorem d_L_law_230 : decode (qMc M_L_law) 230 = .ok (.iaload, 1) := by decide +kernel
theorem d_L_law_231 : decode (qMc M_L_law) 231 = .ok (.ifCond .eq 7, 3) := by decide +kernel
theorem d_L_law_234 : decode (qMc M_L_law) 234 = .ok (.iconst 1, 1) := by decide +kernel
theorem d_L_law_235 : decode (qMc M_L_law) 235 = .ok (.goto 4, 3) := by decide +kernel
theorem d_L_law_238 : decode (qMc M_L_law) 238 = .ok (.iconst 0, 1) := by decide +kernel
theorem d_L_law_239 : decode (qMc M_L_law) 239 = .ok (.invokevirtual 13, 3) := by decide +kernel
theorem d_L_law_242 : decode (qMc M_L_law) 242 = .ok (.aload_n 2, 1) := by decide +kernel
theorem d_L_law_243 : decode (qMc M_L_law) 243 = .ok (.aload_n 0, 1) := by decide +kernel
theorem d_L_law_244 : decode (qMc M_L_law) 244 = .ok (.iload_n 3, 1) := by decide +kernel
theorem d_L_law_245 : decode (qMc M_L_law) 245 = .ok (.iconst 1, 1) := by decide +kernel
theorem d_L_law_246 : decode (qMc M_L_law) 246 = .ok (.iadd, 1) := by decide +kernel
theorem d_L_law_247 : decode (qMc M_L_law) 247 = .ok (.iaload, 1) := by decide +kernel
theorem d_L_law_248 : decode (qMc M_L_law) 248 = .ok (.aload_n 0, 1) := by decide +kernel
theorem d_L_law_249 : decode (qMc M_L_law) 249 = .ok (.iload_n 3, 1) := by decide +kernel
theorem d_L_law_250 : decode (qMc M_L_law) 250 = .ok (.iconst 2, 1) := by decide +kernel
theorem d_L_law_251 : decode (qMc M_L_law) 251 = .ok (.iadd, 1) := by decide +kernel
theorem d_L_law_252 : decode (qMc M_L_law) 252 = .ok (.iaload, 1) := by decide +kernel
theorem d_L_law_253 : decode (qMc M_L_law) 253 = .ok (.ifCond .eq 7, 3) := by decide +kernel
theorem d_L_law_256 : decode (qMc M_L_law) 256 = .ok (.iconst 1, 1) := by decide +kernel
theorem d_L_law_257 : decode (qMc M_L_law) 257 = .ok (.goto 4, 3) := by decide +kernel
theorem d_L_law_260 : decode (qMc M_L_law) 260 = .ok (.iconst 0, 1) := by decide +kernel
theorem d_L_law_261 : decode (qMc M_L_law) 261 = .ok (.invokevirtual 17, 3) := by decide +kernel
theorem d_L_law_264 : decode (qMc M_L_law) 264 = .ok (.if_icmp .eq 1487, 3) := by decide +kernel
theorem d_L_law_267 : decode (qMc M_L_law) 267 = .ok (.iconst 0, 1) := by decide +kernel
theorem d_L_law_268 : decode (qMc M_L_law) 268 = .ok (.ireturn, 1) := by decide +kernel
theorem d_L_law_269 : decode (qMc M_L_law) 269 = .ok (.aload_n 1, 1) := by decide +kernel
theorem d_L_law_270 : decode (qMc M_L_law) 270 = .ok (.aload_n 0, 1) := by decide +kernel
theorem d_L_law_271 : decode (qMc M_L_law) 271 = .ok (.iload_n 3, 1) := by decide +kernel
theorem d_L_law_272 : decode (qMc M_L_law) 272 = .ok (.iconst 1, 1) := by decide +kernel
theorem d_L_law_273 : decode (qMc M_L_law) 273 = .ok (.iadd, 1) := by decide +kernel
theorem d_L_law_274 : decode (qMc M_L_law) 274 = .ok (.iaload, 1) := by decide +kernel
theorem d_L_law_275 : decode (qMc M_L_law) 275 = .ok (.aload_n 0, 1) := by decide +kernel
theorem d_L_law_276 : decode (qMc M_L_law) 276 = .ok (.iload_n 3, 1) := by decide +kernel
theorem d_L_law_277 : decode (qMc M_L_law) 277 = .ok (.iconst 2, 1) := by decide +kernel
theorem d_L_law_278 : decode (qMc M_L_law) 278 = .ok (.iadd, 1) := by decide +kernel
theorem d_L_law_279 : decode (qMc M_L_law) 279 = .ok (.iaload, 1) := by decide +kernel
theorem d_L_law_280 : decode (qMc M_L_law) 280 = .ok (.aload_n 0, 1) := by decide +kernel
theorem d_L_law_281 : decode (qMc M_L_law) 281 = .ok (.iload_n 3, 1) := by decide +kernel
theorem d_L_law_282 : decode (qMc M_L_law) 282 = .ok (.iconst 3, 1) := by decide +kernel
theorem d_L_law_283 : decode (qMc M_L_law) 283 = .ok (.iadd, 1) := by decide +kernel
theorem d_L_law_284 : decode (qMc M_L_law) 284 = .ok (.iaload, 1) := by decide +kernel
theorem d_L_law_285 : decode (qMc M_L_law) 285 = .ok (.invokevirtual 18, 3) := by decide +kernel
theorem d_L_law_288 : decode (qMc M_L_law) 288 = .ok (.aload_n 2, 1) := by decide +kernel
theorem d_L_law_289 : decode (qMc M_L_law) 289 = .ok (.aload_n 0, 1) := by decide +kernel
theorem d_L_law_290 : decode (qMc M_L_law) 290 = .ok (.iload_n 3, 1) := by decide +kernel
theorem d_L_law_291 : decode (qMc M_L_law) 291 = .ok (.iconst 1, 1) := by decide +kernel
theorem d_L_law_292 : decode (qMc M_L_law) 292 = .ok (.iadd, 1) := by decide +kernel
theorem d_L_law_293 : decode (qMc M_L_law) 293 = .ok (.iaload, 1) := by decide +kernel
theorem d_L_law_294 : decode (qMc M_L_law) 294 = .ok (.aload_n 0, 1) := by decide +kernel
theorem d_L_law_295 : decode (qMc M_L_law) 295 = .ok (.iload_n 3, 1) := by decide +kernel
theorem d_L_law_296 : decode (qMc M_L_law) 296 = .ok (.iconst 2, 1) := by decide +kernel
theorem d_L_law_297 : decode (qMc M_L_law) 297 = .ok (.iadd, 1) := by decide +kernel
theorem d_L_law_298 : decode (qMc M_L_law) 298 = .ok (.iaload, 1) := by decide +kernel
theorem d_L_law_299 : decode (qMc M_L_law) 299 = .ok (.aload_n 0, 1) := by decide +kernel
theorem d_L_law_300 : decode (qMc M_L_law) 300 = .ok (.iload_n 3, 1) := by decide +kernel
theorem d_L_law_301 : decode (qMc M_L_law) 301 = .ok (.iconst 3, 1) := by decide +kernel
theorem d_L_law_302 : decode (qMc M_L_law) 302 = .ok (.iadd, 1) := by decide +kernel
theorem d_L_law_303 : decode (qMc M_L_law) 303 = .ok (.iaload, 1) := by decide +kernel
theorem d_L_law_304 : decode (qMc M_L_law) 304 = .ok (.invokevirtual 22, 3) := by decide +kernel
theorem d_L_law_307 : decode (qMc M_L_law) 307 = .ok (.if_icmp .eq 1444, 3) := by decide +kernel
theorem d_L_law_310 : decode (qMc M_L_law) 310 = .ok (.iconst 0, 1) := by decide +kernel
theorem d_L_law_311 : decode (qMc M_L_law) 311 = .ok (.ireturn, 1) := by decide +kernel
theorem d_L_law_312 : decode (qMc M_L_law) 312 = .ok (.aload_n 1, 1) := by decide +kernel
theorem d_L_law_313 : decode (qMc M_L_law) 313 = .ok (.aload_n 0, 1) := by decide +kernel
theorem d_L_law_314 : decode (qMc M_L_law) 314 = .ok (.iload_n 3, 1) := by decide +kernel
theorem d_L_law_315 : decode (qMc M_L_law) 315 = .ok (.iconst 1, 1) := by decide +kernel
theorem d_L_law_316 : decode (qMc M_L_law) 316 = .ok (.iadd, 1) := by decide +kernel
theorem d_L_law_317 : decode (qMc M_L_law) 317 = .ok (.iaload, 1) := by decide +kernel
theorem d_L_law_318 : decode (qMc M_L_law) 318 = .ok (.invokevirtual 23, 3) := by decide +kernel
theorem d_L_law_321 : decode (qMc M_L_law) 321 = .ok (.aload_n 2, 1) := by decide +kernel
theorem d_L_law_322 : decode (qMc M_L_law) 322 = .ok (.aload_n 0, 1) := by decide +kernel
theorem d_L_law_323 : decode (qMc M_L_law) 323 = .ok (.iload_n 3, 1) := by decide +kernel
theorem d_L_law_324 : decode (qMc M_L_law) 324 = .ok (.iconst 1, 1) := by decide +kernel
theorem d_L_law_325 : decode (qMc M_L_law) 325 = .ok (.iadd, 1) := by decide +kernel
theorem d_L_law_326 : decode (qMc M_L_law) 326 = .ok (.iaload, 1) := by decide +kernel
theorem d_L_law_327 : decode (qMc M_L_law) 327 = .ok (.invokevirtual 27, 3) := by decide +kernel
theorem d_L_law_330 : decode (qMc M_L_law) 330 = .ok (.if_icmp .eq 1421, 3) := by decide +kernel
theorem d_L_law_333 : decode (qMc M_L_law) 333 = .ok (.iconst 0, 1) := by decide +kernel
theorem d_L_law_334 : decode (qMc M_L_law) 334 = .ok (.ireturn, 1) := by decide +kernel
theorem d_L_law_335 : decode (qMc M_L_law) 335 = .ok (.aload_n 1, 1) := by decide +kernel
theorem d_L_law_336 : decode (qMc M_L_law) 336 = .ok (.aload_n 0, 1) := by decide +kernel
theorem d_L_law_337 : decode (qMc M_L_law) 337 = .ok (.iload_n 3, 1) := by decide +kernel
theorem d_L_law_338 : decode (qMc M_L_law) 338 = .ok (.iconst 1, 1) := by decide +kernel
theorem d_L_law_339 : decode (qMc M_L_law) 339 = .ok (.iadd, 1) := by decide +kernel
theorem d_L_law_340 : decode (qMc M_L_law) 340 = .ok (.iaload, 1) := by decide +kernel
theorem d_L_law_341 : decode (qMc M_L_law) 341 = .ok (.aload_n 0, 1) := by decide +kernel
theorem d_L_law_342 : decode (qMc M_L_law) 342 = .ok (.iload_n 3, 1) := by decide +kernel
theorem d_L_law_343 : decode (qMc M_L_law) 343 = .ok (.iconst 2, 1) := by decide +kernel
theorem d_L_law_344 : decode (qMc M_L_law) 344 = .ok (.iadd, 1) := by decide +kernel
theorem d_L_law_345 : decode (qMc M_L_law) 345 = .ok (.iaload, 1) := by decide +kernel
theorem d_L_law_346 : decode (qMc M_L_law) 346 = .ok (.aload_n 0, 1) := by decide +kernel
theorem d_L_law_347 : decode (qMc M_L_law) 347 = .ok (.iload_n 3, 1) := by decide +kernel
theorem d_L_law_348 : decode (qMc M_L_law) 348 = .ok (.iconst 3, 1) := by decide +kernel
theorem d_L_law_349 : decode (qMc M_L_law) 349 = .ok (.iadd, 1) := by decide +kernel
theorem d_L_law_350 : decode (qMc M_L_law) 350 = .ok (.iaload, 1) := by decide +kernel
theorem d_L_law_351 : decode (qMc M_L_law) 351 = .ok (.aload_n 0, 1) := by decide +kernel
theorem d_L_law_352 : decode (qMc M_L_law) 352 = .ok (.iload_n 3, 1) := by decide +kernel
theorem d_L_law_353 : decode (qMc M_L_law) 353 = .ok (.iconst 4, 1) := by decide +kernel
theorem d_L_law_354 : decode (qMc M_L_law) 354 = .ok (.iadd, 1) := by decide +kernel
theorem d_L_law_355 : decode (qMc M_L_law) 355 = .ok (.iaload, 1) := by decide +kernel
theorem d_L_law_356 : decode (qMc M_L_law) 356 = .ok (.aload_n 0, 1) := by decide +kernel
theorem d_L_law_357 : decode (qMc M_L_law) 357 = .ok (.iload_n 3, 1) := by decide +kernel
theorem d_L_law_358 : decode (qMc M_L_law) 358 = .ok (.iconst 5, 1) := by decide +kernel
theorem d_L_law_359 : decode (qMc M_L_law) 359 = .ok (.iadd, 1) := by decide +kernel
theorem d_L_law_360 : decode (qMc M_L_law) 360 = .ok (.iaload, 1) := by decide +kernel
theorem d_L_law_361 : decode (qMc M_L_law) 361 = .ok (.invokevirtual 28, 3) := by decide +kernel
theorem d_L_law_364 : decode (qMc M_L_law) 364 = .ok (.aload_n 2, 1) := by decide +kernel
theorem d_L_law_365 : decode (qMc M_L_law) 365 = .ok (.aload_n 0, 1) := by decide +kernel
theorem d_L_law_366 : decode (qMc M_L_law) 366 = .ok (.iload_n 3, 1) := by decide +kernel
theorem d_L_law_367 : decode (qMc M_L_law) 367 = .ok (.iconst 1, 1) := by decide +kernel
theorem d_L_law_368 : decode (qMc M_L_law) 368 = .ok (.iadd, 1) := by decide +kernel
theorem d_L_law_369 : decode (qMc M_L_law) 369 = .ok (.iaload, 1) := by decide +kernel
theorem d_L_law_370 : decode (qMc M_L_law) 370 = .ok (.aload_n 0, 1) := by decide +kernel
theorem d_L_law_371 : decode (qMc M_L_law) 371 = .ok (.iload_n 3, 1) := by decide +kernel
theorem d_L_law_372 : decode (qMc M_L_law) 372 = .ok (.iconst 2, 1) := by decide +kernel
theorem d_L_law_373 : decode (qMc M_L_law) 373 = .ok (.iadd, 1) := by decide +kernel
theorem d_L_law_374 : decode (qMc M_L_law) 374 = .ok (.iaload, 1) := by decide +kernel
theorem d_L_law_375 : decode (qMc M_L_law) 375 = .ok (.aload_n 0, 1) := by decide +kernel
theorem d_L_law_376 : decode (qMc M_L_law) 376 = .ok (.iload_n 3, 1) := by decide +kernel
theorem d_L_law_377 : decode (qMc M_L_law) 377 = .ok (.iconst 3, 1) := by decide +kernel
theorem d_L_law_378 : decode (qMc M_L_law) 378 = .ok (.iadd, 1) := by decide +kernel
theorem d_L_law_379 : decode (qMc M_L_law) 379 = .ok (.iaload, 1) := by decide +kernel
theorem d_L_law_380 : decode (qMc M_L_law) 380 = .ok (.aload_n 0, 1) := by decide +kernel
theorem d_L_law_381 : decode (qMc M_L_law) 381 = .ok (.iload_n 3, 1) := by decide +kernel
theorem d_L_law_382 : decode (qMc M_L_law) 382 = .ok (.iconst 4, 1) := by decide +kernel
theorem d_L_law_383 : decode (qMc M_L_law) 383 = .ok (.iadd, 1) := by decide +kernel
theorem d_L_law_384 : decode (qMc M_L_law) 384 = .ok (.iaload, 1) := by decide +kernel
theorem d_L_law_385 : decode (qMc M_L_law) 385 = .ok (.aload_n 0, 1) := by decide +kernel
theorem d_L_law_386 : decode (qMc M_L_law) 386 = .ok (.iload_n 3, 1) := by decide +kernel
theorem d_L_law_387 : decode (qMc M_L_law) 387 = .ok (.iconst 5, 1) := by decide +kernel
theorem d_L_law_388 : decode (qMc M_L_law) 388 = .ok (.iadd, 1) := by decide +kernel
theorem d_L_law_389 : decode (qMc M_L_law) 389 = .ok (.iaload, 1) := by decide +kernel
theorem d_L_law_390 : decode (qMc M_L_law) 390 = .ok (.invokevirtual 32, 3) := by decide +kernel
theorem d_L_law_393 : decode (qMc M_L_law) 393 = .ok (.if_icmp .eq 1358, 3) := by decide +kernel
theorem d_L_law_396 : decode (qMc M_L_law) 396 = .ok (.iconst 0, 1) := by decide +kernel
theorem d_L_law_397 : decode (qMc M_L_law) 397 = .ok (.ireturn, 1) := by decide +kernel
theorem d_L_law_398 : decode (qMc M_L_law) 398 = .ok (.aload_n 1, 1) := by decide +kernel
theorem d_L_law_399 : decode (qMc M_L_law) 399 = .ok (.aload_n 0, 1) := by decide +kernel
theorem d_L_law_400 : decode (qMc M_L_law) 400 = .ok (.iload_n 3, 1) := by decide +kernel
theorem d_L_law_401 : decode (qMc M_L_law) 401 = .ok (.iconst 1, 1) := by decide +kernel
theorem d_L_law_402 : decode (qMc M_L_law) 402 = .ok (.iadd, 1) := by decide +kernel
theorem d_L_law_403 : decode (qMc M_L_law) 403 = .ok (.iaload, 1) := by decide +kernel
theorem d_L_law_404 : decode (qMc M_L_law) 404 = .ok (.invokevirtual 33, 3) := by decide +kernel
theorem d_L_law_407 : decode (qMc M_L_law) 407 = .ok (.aload_n 2, 1) := by decide +kernel
theorem d_L_law_408 : decode (qMc M_L_law) 408 = .ok (.aload_n 0, 1) := by decide +kernel
theorem d_L_law_409 : decode (qMc M_L_law) 409 = .ok (.iload_n 3, 1) := by decide +kernel
theorem d_L_law_410 : decode (qMc M_L_law) 410 = .ok (.iconst 1, 1) := by decide +kernel
theorem d_L_law_411 : decode (qMc M_L_law) 411 = .ok (.iadd, 1) := by decide +kernel
theorem d_L_law_412 : decode (qMc M_L_law) 412 = .ok (.iaload, 1) := by decide +kernel
theorem d_L_law_413 : decode (qMc M_L_law) 413 = .ok (.invokevirtual 37, 3) := by decide +kernel
theorem d_L_law_416 : decode (qMc M_L_law) 416 = .ok (.if_icmp .eq 1335, 3) := by decide +kernel
theorem d_L_law_419 : decode (qMc M_L_law) 419 = .ok (.iconst 0, 1) := by decide +kernel
theorem d_L_law_420 : decode (qMc M_L_law) 420 = .ok (.ireturn, 1) := by decide +kernel
theorem d_L_law_421 : decode (qMc M_L_law) 421 = .ok (.aload_n 1, 1) := by decide +kernel
theorem d_L_law_422 : decode (qMc M_L_law) 422 = .ok (.aload_n 0, 1) := by decide +kernel
theorem d_L_law_423 : decode (qMc M_L_law) 423 = .ok (.iload_n 3, 1) := by decide +kernel
theorem d_L_law_424 : decode (qMc M_L_law) 424 = .ok (.iconst 1, 1) := by decide +kernel
theorem d_L_law_425 : decode (qMc M_L_law) 425 = .ok (.iadd, 1) := by decide +kernel
theorem d_L_law_426 : decode (qMc M_L_law) 426 = .ok (.iaload, 1) := by decide +kernel
theorem d_L_law_427 : decode (qMc M_L_law) 427 = .ok (.invokevirtual 38, 3) := by decide +kernel
theorem d_L_law_430 : decode (qMc M_L_law) 430 = .ok (.aload_n 2, 1) := by decide +kernel
theorem d_L_law_431 : decode (qMc M_L_law) 431 = .ok (.aload_n 0, 1) := by decide +kernel
theorem d_L_law_432 : decode (qMc M_L_law) 432 = .ok (.iload_n 3, 1) := by decide +kernel
theorem d_L_law_433 : decode (qMc M_L_law) 433 = .ok (.iconst 1, 1) := by decide +kernel
theorem d_L_law_434 : decode (qMc M_L_law) 434 = .ok (.iadd, 1) := by decide +kernel
theorem d_L_law_435 : decode (qMc M_L_law) 435 = .ok (.iaload, 1) := by decide +kernel
theorem d_L_law_436 : decode (qMc M_L_law) 436 = .ok (.invokevirtual 41, 3) := by decide +kernel
theorem d_L_law_439 : decode (qMc M_L_law) 439 = .ok (.if_icmp .eq 1312, 3) := by decide +kernel
theorem d_L_law_442 : decode (qMc M_L_law) 442 = .ok (.iconst 0, 1) := by decide +kernel
theorem d_L_law_443 : decode (qMc M_L_law) 443 = .ok (.ireturn, 1) := by decide +kernel
theorem d_L_law_444 : decode (qMc M_L_law) 444 = .ok (.aload_n 1, 1) := by decide +kernel
theorem d_L_law_445 : decode (qMc M_L_law) 445 = .ok (.aload_n 0, 1) := by decide +kernel
theorem d_L_law_446 : decode (qMc M_L_law) 446 = .ok (.iload_n 3, 1) := by decide +kernel
theorem d_L_law_447 : decode (qMc M_L_law) 447 = .ok (.iconst 1, 1) := by decide +kernel
theorem d_L_law_448 : decode (qMc M_L_law) 448 = .ok (.iadd, 1) := by decide +kernel
theorem d_L_law_449 : decode (qMc M_L_law) 449 = .ok (.iaload, 1) := by decide +kernel
theorem d_L_law_450 : decode (qMc M_L_law) 450 = .ok (.invokevirtual 42, 3) := by decide +kernel
theorem d_L_law_453 : decode (qMc M_L_law) 453 = .ok (.aload_n 2, 1) := by decide +kernel
theorem d_L_law_454 : decode (qMc M_L_law) 454 = .ok (.aload_n 0, 1) := by decide +kernel
theorem d_L_law_455 : decode (qMc M_L_law) 455 = .ok (.iload_n 3, 1) := by decide +kernel
theorem d_L_law_456 : decode (qMc M_L_law) 456 = .ok (.iconst 1, 1) := by decide +kernel
theorem d_L_law_457 : decode (qMc M_L_law) 457 = .ok (.iadd, 1) := by decide +kernel
theorem d_L_law_458 : decode (qMc M_L_law) 458 = .ok (.iaload, 1) := by decide +kernel
theorem d_L_law_459 : decode (qMc M_L_law) 459 = .ok (.invokevirtual 45, 3) := by decide +kernel
theorem d_L_law_462 : decode (qMc M_L_law) 462 = .ok (.if_icmp .eq 1289, 3) := by decide +kernel
theorem d_L_law_465 : decode (qMc M_L_law) 465 = .ok (.iconst 0, 1) := by decide +kernel
theorem d_L_law_466 : decode (qMc M_L_law) 466 = .ok (.ireturn, 1) := by decide +kernel
theorem d_L_law_467 : decode (qMc M_L_law) 467 = .ok (.aload_n 1, 1) := by decide +kernel
theorem d_L_law_468 : decode (qMc M_L_law) 468 = .ok (.aload_n 0, 1) := by decide +kernel
theorem d_L_law_469 : decode (qMc M_L_law) 469 = .ok (.iload_n 3, 1) := by decide +kernel
theorem d_L_law_470 : decode (qMc M_L_law) 470 = .ok (.iconst 1, 1) := by decide +kernel
theorem d_L_law_471 : decode (qMc M_L_law) 471 = .ok (.iadd, 1) := by decide +kernel
theorem d_L_law_472 : decode (qMc M_L_law) 472 = .ok (.iaload, 1) := by decide +kernel
theorem d_L_law_473 : decode (qMc M_L_law) 473 = .ok (.aload_n 0, 1) := by decide +kernel
theorem d_L_law_474 : decode (qMc M_L_law) 474 = .ok (.iload_n 3, 1) := by decide +kernel
theorem d_L_law_475 : decode (qMc M_L_law) 475 = .ok (.iconst 2, 1) := by decide +kernel
theorem d_L_law_476 : decode (qMc M_L_law) 476 = .ok (.iadd, 1) := by decide +kernel
theorem d_L_law_477 : decode (qMc M_L_law) 477 = .ok (.iaload, 1) := by decide +kernel
theorem d_L_law_478 : decode (qMc M_L_law) 478 = .ok (.invokevirtual 46, 3) := by decide +kernel
theorem d_L_law_481 : decode (qMc M_L_law) 481 = .ok (.aload_n 2, 1) := by decide +kernel
theorem d_L_law_482 : decode (qMc M_L_law) 482 = .ok (.aload_n 0, 1) := by decide +kernel
theorem d_L_law_483 : decode (qMc M_L_law) 483 = .ok (.iload_n 3, 1) := by decide +kernel
theorem d_L_law_484 : decode (qMc M_L_law) 484 = .ok (.iconst 1, 1) := by decide +kernel
theorem d_L_law_485 : decode (qMc M_L_law) 485 = .ok (.iadd, 1) := by decide +kernel
theorem d_L_law_486 : decode (qMc M_L_law) 486 = .ok (.iaload, 1) := by decide +kernel
theorem d_L_law_487 : decode (qMc M_L_law) 487 = .ok (.aload_n 0, 1) := by decide +kernel
theorem d_L_law_488 : decode (qMc M_L_law) 488 = .ok (.iload_n 3, 1) := by decide +kernel
theorem d_L_law_489 : decode (qMc M_L_law) 489 = .ok (.iconst 2, 1) := by decide +kernel
theorem d_L_law_490 : decode (qMc M_L_law) 490 = .ok (.iadd, 1) := by decide +kernel
theorem d_L_law_491 : decode (qMc M_L_law) 491 = .ok (.iaload, 1) := by decide +kernel
theorem d_L_law_492 : decode (qMc M_L_law) 492 = .ok (.invokevirtual 50, 3) := by decide +kernel
theorem d_L_law_495 : decode (qMc M_L_law) 495 = .ok (.if_icmp .eq 1256, 3) := by decide +kernel
theorem d_L_law_498 : decode (qMc M_L_law) 498 = .ok (.iconst 0, 1) := by decide +kernel
theorem d_L_law_499 : decode (qMc M_L_law) 499 = .ok (.ireturn, 1) := by decide +kernel
theorem d_L_law_500 : decode (qMc M_L_law) 500 = .ok (.aload_n 1, 1) := by decide +kernel
theorem d_L_law_501 : decode (qMc M_L_law) 501 = .ok (.aload_n 0, 1) := by decide +kernel
theorem d_L_law_502 : decode (qMc M_L_law) 502 = .ok (.iload_n 3, 1) := by decide +kernel
theorem d_L_law_503 : decode (qMc M_L_law) 503 = .ok (.iconst 1, 1) := by decide +kernel
theorem d_L_law_504 : decode (qMc M_L_law) 504 = .ok (.iadd, 1) := by decide +kernel
theorem d_L_law_505 : decode (qMc M_L_law) 505 = .ok (.iaload, 1) := by decide +kernel
theorem d_L_law_506 : decode (qMc M_L_law) 506 = .ok (.aload_n 0, 1) := by decide +kernel
theorem d_L_law_507 : decode (qMc M_L_law) 507 = .ok (.iload_n 3, 1) := by decide +kernel
theorem d_L_law_508 : decode (qMc M_L_law) 508 = .ok (.iconst 2, 1) := by decide +kernel
theorem d_L_law_509 : decode (qMc M_L_law) 509 = .ok (.iadd, 1) := by decide +kernel
theorem d_L_law_510 : decode (qMc M_L_law) 510 = .ok (.iaload, 1) := by decide +kernel
theorem d_L_law_511 : decode (qMc M_L_law) 511 = .ok (.aload_n 0, 1) := by decide +kernel
theorem d_L_law_512 : decode (qMc M_L_law) 512 = .ok (.iload_n 3, 1) := by decide +kernel
theorem d_L_law_513 : decode (qMc M_L_law) 513 = .ok (.iconst 3, 1) := by decide +kernel
theorem d_L_law_514 : decode (qMc M_L_law) 514 = .ok (.iadd, 1) := by decide +kernel
theorem d_L_law_515 : decode (qMc M_L_law) 515 = .ok (.iaload, 1) := by decide +kernel
theorem d_L_law_516 : decode (qMc M_L_law) 516 = .ok (.aload_n 0, 1) := by decide +kernel
theorem d_L_law_517 : decode (qMc M_L_law) 517 = .ok (.iload_n 3, 1) := by decide +kernel
theorem d_L_law_518 : decode (qMc M_L_law) 518 = .ok (.iconst 4, 1) := by decide +kernel
theorem d_L_law_519 : decode (qMc M_L_law) 519 = .ok (.iadd, 1) := by decide +kernel
theorem d_L_law_520 : decode (qMc M_L_law) 520 = .ok (.iaload, 1) := by decide +kernel
theorem d_L_law_521 : decode (qMc M_L_law) 521 = .ok (.invokevirtual 51, 3) := by decide +kernel
theorem d_L_law_524 : decode (qMc M_L_law) 524 = .ok (.aload_n 2, 1) := by decide +kernel
theorem d_L_law_525 : decode (qMc M_L_law) 525 = .ok (.aload_n 0, 1) := by decide +kernel
theorem d_L_law_526 : decode (qMc M_L_law) 526 = .ok (.iload_n 3, 1) := by decide +kernel
theorem d_L_law_527 : decode (qMc M_L_law) 527 = .ok (.iconst 1, 1) := by decide +kernel
theorem d_L_law_528 : decode (qMc M_L_law) 528 = .ok (.iadd, 1) := by decide +kernel
theorem d_L_law_529 : decode (qMc M_L_law) 529 = .ok (.iaload, 1) := by decide +kernel
theorem d_L_law_530 : decode (qMc M_L_law) 530 = .ok (.aload_n 0, 1) := by decide +kernel
theorem d_L_law_531 : decode (qMc M_L_law) 531 = .ok (.iload_n 3, 1) := by decide +kernel
theorem d_L_law_532 : decode (qMc M_L_law) 532 = .ok (.iconst 2, 1) := by decide +kernel
theorem d_L_law_533 : decode (qMc M_L_law) 533 = .ok (.iadd, 1) := by decide +kernel
theorem d_L_law_534 : decode (qMc M_L_law) 534 = .ok (.iaload, 1) := by decide +kernel
theorem d_L_law_535 : decode (qMc M_L_law) 535 = .ok (.aload_n 0, 1) := by decide +kernel
theorem d_L_law_536 : decode (qMc M_L_law) 536 = .ok (.iload_n 3, 1) := by decide +kernel
theorem d_L_law_537 : decode (qMc M_L_law) 537 = .ok (.iconst 3, 1) := by decide +kernel
theorem d_L_law_538 : decode (qMc M_L_law) 538 = .ok (.iadd, 1) := by decide +kernel
theorem d_L_law_539 : decode (qMc M_L_law) 539 = .ok (.iaload, 1) := by decide +kernel
theorem d_L_law_540 : decode (qMc M_L_law) 540 = .ok (.aload_n 0, 1) := by decide +kernel
theorem d_L_law_541 : decode (qMc M_L_law) 541 = .ok (.iload_n 3, 1) := by decide +kernel
theorem d_L_law_542 : decode (qMc M_L_law) 542 = .ok (.iconst 4, 1) := by decide +kernel
theorem d_L_law_543 : decode (qMc M_L_law) 543 = .ok (.iadd, 1) := by decide +kernel
theorem d_L_law_544 : decode (qMc M_L_law) 544 = .ok (.iaload, 1) := by decide +kernel
theorem d_L_law_545 : decode (qMc M_L_law) 545 = .ok (.invokevirtual 55, 3) := by decide +kernel
theorem d_L_law_548 : decode (qMc M_L_law) 548 = .ok (.if_icmp .eq 1203, 3) := by decide +kernel
theorem d_L_law_551 : decode (qMc M_L_law) 551 = .ok (.iconst 0, 1) := by decide +kernel
theorem d_L_law_552 : decode (qMc M_L_law) 552 = .ok (.ireturn, 1) := by decide +kernel
theorem d_L_law_553 : decode (qMc M_L_law) 553 = .ok (.aload_n 1, 1) := by decide +kernel
theorem d_L_law_554 : decode (qMc M_L_law) 554 = .ok (.aload_n 0, 1) := by decide +kernel
theorem d_L_law_555 : decode (qMc M_L_law) 555 = .ok (.iload_n 3, 1) := by decide +kernel
theorem d_L_law_556 : decode (qMc M_L_law) 556 = .ok (.iconst 1, 1) := by decide +kernel
theorem d_L_law_557 : decode (qMc M_L_law) 557 = .ok (.iadd, 1) := by decide +kernel
theorem d_L_law_558 : decode (qMc M_L_law) 558 = .ok (.iaload, 1) := by decide +kernel
theorem d_L_law_559 : decode (qMc M_L_law) 559 = .ok (.aload_n 0, 1) := by decide +kernel
theorem d_L_law_560 : decode (qMc M_L_law) 560 = .ok (.iload_n 3, 1) := by decide +kernel
theorem d_L_law_561 : decode (qMc M_L_law) 561 = .ok (.iconst 2, 1) := by decide +kernel
theorem d_L_law_562 : decode (qMc M_L_law) 562 = .ok (.iadd, 1) := by decide +kernel
theorem d_L_law_563 : decode (qMc M_L_law) 563 = .ok (.iaload, 1) := by decide +kernel
theorem d_L_law_564 : decode (qMc M_L_law) 564 = .ok (.invokevirtual 56, 3) := by decide +kernel
theorem d_L_law_567 : decode (qMc M_L_law) 567 = .ok (.aload_n 2, 1) := by decide +kernel
theorem d_L_law_568 : decode (qMc M_L_law) 568 = .ok (.aload_n 0, 1) := by decide +kernel
theorem d_L_law_569 : decode (qMc M_L_law) 569 = .ok (.iload_n 3, 1) := by decide +kernel
theorem d_L_law_570 : decode (qMc M_L_law) 570 = .ok (.iconst 1, 1) := by decide +kernel
theorem d_L_law_571 : decode (qMc M_L_law) 571 = .ok (.iadd, 1) := by decide +kernel
theorem d_L_law_572 : decode (qMc M_L_law) 572 = .ok (.iaload, 1) := by decide +kernel
theorem d_L_law_573 : decode (qMc M_L_law) 573 = .ok (.aload_n 0, 1) := by decide +kernel
theorem d_L_law_574 : decode (qMc M_L_law) 574 = .ok (.iload_n 3, 1) := by decide +kernel
theorem d_L_law_575 : decode (qMc M_L_law) 575 = .ok (.iconst 2, 1) := by decide +kernel
theorem d_L_law_576 : decode (qMc M_L_law) 576 = .ok (.iadd, 1) := by decide +kernel
theorem d_L_law_577 : decode (qMc M_L_law) 577 = .ok (.iaload, 1) := by decide +kernel
theorem d_L_law_578 : decode (qMc M_L_law) 578 = .ok (.invokevirtual 59, 3) := by decide +kernel
theorem d_L_law_581 : decode (qMc M_L_law) 581 = .ok (.if_icmp .eq 1170, 3) := by decide +kernel
theorem d_L_law_584 : decode (qMc M_L_law) 584 = .ok (.iconst 0, 1) := by decide +kernel
theorem d_L_law_585 : decode (qMc M_L_law) 585 = .ok (.ireturn, 1) := by decide +kernel
theorem d_L_law_586 : decode (qMc M_L_law) 586 = .ok (.aload_n 1, 1) := by decide +kernel
theorem d_L_law_587 : decode (qMc M_L_law) 587 = .ok (.aload_n 0, 1) := by decide +kernel
theorem d_L_law_588 : decode (qMc M_L_law) 588 = .ok (.iload_n 3, 1) := by decide +kernel
theorem d_L_law_589 : decode (qMc M_L_law) 589 = .ok (.iconst 1, 1) := by decide +kernel
theorem d_L_law_590 : decode (qMc M_L_law) 590 = .ok (.iadd, 1) := by decide +kernel
theorem d_L_law_591 : decode (qMc M_L_law) 591 = .ok (.iaload, 1) := by decide +kernel
theorem d_L_law_592 : decode (qMc M_L_law) 592 = .ok (.aload_n 0, 1) := by decide +kernel
theorem d_L_law_593 : decode (qMc M_L_law) 593 = .ok (.iload_n 3, 1) := by decide +kernel
theorem d_L_law_594 : decode (qMc M_L_law) 594 = .ok (.iconst 2, 1) := by decide +kernel
theorem d_L_law_595 : decode (qMc M_L_law) 595 = .ok (.iadd, 1) := by decide +kernel
theorem d_L_law_596 : decode (qMc M_L_law) 596 = .ok (.iaload, 1) := by decide +kernel
theorem d_L_law_597 : decode (qMc M_L_law) 597 = .ok (.aload_n 0, 1) := by decide +kernel
theorem d_L_law_598 : decode (qMc M_L_law) 598 = .ok (.iload_n 3, 1) := by decide +kernel
theorem d_L_law_599 : decode (qMc M_L_law) 599 = .ok (.iconst 3, 1) := by decide +kernel
theorem d_L_law_600 : decode (qMc M_L_law) 600 = .ok (.iadd, 1) := by decide +kernel
theorem d_L_law_601 : decode (qMc M_L_law) 601 = .ok (.iaload, 1) := by decide +kernel
theorem d_L_law_602 : decode (qMc M_L_law) 602 = .ok (.invokevirtual 60, 3) := by decide +kernel
theorem d_L_law_605 : decode (qMc M_L_law) 605 = .ok (.aload_n 2, 1) := by decide +kernel
theorem d_L_law_606 : decode (qMc M_L_law) 606 = .ok (.aload_n 0, 1) := by decide +kernel
theorem d_L_law_607 : decode (qMc M_L_law) 607 = .ok (.iload_n 3, 1) := by decide +kernel
theorem d_L_law_608 : decode (qMc M_L_law) 608 = .ok (.iconst 1, 1) := by decide +kernel
theorem d_L_law_609 : decode (qMc M_L_law) 609 = .ok (.iadd, 1) := by decide +kernel
theorem d_L_law_610 : decode (qMc M_L_law) 610 = .ok (.iaload, 1) := by decide +kernel
theorem d_L_law_611 : decode (qMc M_L_law) 611 = .ok (.aload_n 0, 1) := by decide +kernel
theorem d_L_law_612 : decode (qMc M_L_law) 612 = .ok (.iload_n 3, 1) := by decide +kernel
theorem d_L_law_613 : decode (qMc M_L_law) 613 = .ok (.iconst 2, 1) := by decide +kernel
theorem d_L_law_614 : decode (qMc M_L_law) 614 = .ok (.iadd, 1) := by decide +kernel
theorem d_L_law_615 : decode (qMc M_L_law) 615 = .ok (.iaload, 1) := by decide +kernel
theorem d_L_law_616 : decode (qMc M_L_law) 616 = .ok (.aload_n 0, 1) := by decide +kernel
theorem d_L_law_617 : decode (qMc M_L_law) 617 = .ok (.iload_n 3, 1) := by decide +kernel
theorem d_L_law_618 : decode (qMc M_L_law) 618 = .ok (.iconst 3, 1) := by decide +kernel
theorem d_L_law_619 : decode (qMc M_L_law) 619 = .ok (.iadd, 1) := by decide +kernel
theorem d_L_law_620 : decode (qMc M_L_law) 620 = .ok (.iaload, 1) := by decide +kernel
theorem d_L_law_621 : decode (qMc M_L_law) 621 = .ok (.invokevirtual 64, 3) := by decide +kernel
theorem d_L_law_624 : decode (qMc M_L_law) 624 = .ok (.if_icmp .eq 1127, 3) := by decide +kernel
theorem d_L_law_627 : decode (qMc M_L_law) 627 = .ok (.iconst 0, 1) := by decide +kernel
theorem d_L_law_628 : decode (qMc M_L_law) 628 = .ok (.ireturn, 1) := by decide +kernel
theorem d_L_law_629 : decode (qMc M_L_law) 629 = .ok (.aload_n 1, 1) := by decide +kernel
theorem d_L_law_630 : decode (qMc M_L_law) 630 = .ok (.aload_n 0, 1) := by decide +kernel
theorem d_L_law_631 : decode (qMc M_L_law) 631 = .ok (.iload_n 3, 1) := by decide +kernel
theorem d_L_law_632 : decode (qMc M_L_law) 632 = .ok (.iconst 1, 1) := by decide +kernel
theorem d_L_law_633 : decode (qMc M_L_law) 633 = .ok (.iadd, 1) := by decide +kernel
theorem d_L_law_634 : decode (qMc M_L_law) 634 = .ok (.iaload, 1) := by decide +kernel
theorem d_L_law_635 : decode (qMc M_L_law) 635 = .ok (.aload_n 0, 1) := by decide +kernel
theorem d_L_law_636 : decode (qMc M_L_law) 636 = .ok (.iload_n 3, 1) := by decide +kernel
theorem d_L_law_637 : decode (qMc M_L_law) 637 = .ok (.iconst 2, 1) := by decide +kernel
theorem d_L_law_638 : decode (qMc M_L_law) 638 = .ok (.iadd, 1) := by decide +kernel
theorem d_L_law_639 : decode (qMc M_L_law) 639 = .ok (.iaload, 1) := by decide +kernel
theorem d_L_law_640 : decode (qMc M_L_law) 640 = .ok (.invokevirtual 65, 3) := by decide +kernel
theorem d_L_law_643 : decode (qMc M_L_law) 643 = .ok (.aload_n 2, 1) := by decide +kernel
theorem d_L_law_644 : decode (qMc M_L_law) 644 = .ok (.aload_n 0, 1) := by decide +kernel
theorem d_L_law_645 : decode (qMc M_L_law) 645 = .ok (.iload_n 3, 1) := by decide +kernel
theorem d_L_law_646 : decode (qMc M_L_law) 646 = .ok (.iconst 1, 1) := by decide +kernel
theorem d_L_law_647 : decode (qMc M_L_law) 647 = .ok (.iadd, 1) := by decide +kernel
theorem d_L_law_648 : decode (qMc M_L_law) 648 = .ok (.iaload, 1) := by decide +kernel
theorem d_L_law_649 : decode (qMc M_L_law) 649 = .ok (.aload_n 0, 1) := by decide +kernel
theorem d_L_law_650 : decode (qMc M_L_law) 650 = .ok (.iload_n 3, 1) := by decide +kernel
theorem d_L_law_651 : decode (qMc M_L_law) 651 = .ok (.iconst 2, 1) := by decide +kernel
theorem d_L_law_652 : decode (qMc M_L_law) 652 = .ok (.iadd, 1) := by decide +kernel
theorem d_L_law_653 : decode (qMc M_L_law) 653 = .ok (.iaload, 1) := by decide +kernel
theorem d_L_law_654 : decode (qMc M_L_law) 654 = .ok (.invokevirtual 68, 3) := by decide +kernel
theorem d_L_law_657 : decode (qMc M_L_law) 657 = .ok (.if_icmp .eq 1094, 3) := by decide +kernel
theorem d_L_law_660 : decode (qMc M_L_law) 660 = .ok (.iconst 0, 1) := by decide +kernel
theorem d_L_law_661 : decode (qMc M_L_law) 661 = .ok (.ireturn, 1) := by decide +kernel
theorem d_L_law_662 : decode (qMc M_L_law) 662 = .ok (.aload_n 1, 1) := by decide +kernel
theorem d_L_law_663 : decode (qMc M_L_law) 663 = .ok (.aload_n 0, 1) := by decide +kernel
theorem d_L_law_664 : decode (qMc M_L_law) 664 = .ok (.iload_n 3, 1) := by decide +kernel
theorem d_L_law_665 : decode (qMc M_L_law) 665 = .ok (.iconst 1, 1) := by decide +kernel
theorem d_L_law_666 : decode (qMc M_L_law) 666 = .ok (.iadd, 1) := by decide +kernel
theorem d_L_law_667 : decode (qMc M_L_law) 667 = .ok (.iaload, 1) := by decide +kernel
theorem d_L_law_668 : decode (qMc M_L_law) 668 = .ok (.aload_n 0, 1) := by decide +kernel
theorem d_L_law_669 : decode (qMc M_L_law) 669 = .ok (.iload_n 3, 1) := by decide +kernel
theorem d_L_law_670 : decode (qMc M_L_law) 670 = .ok (.iconst 2, 1) := by decide +kernel
theorem d_L_law_671 : decode (qMc M_L_law) 671 = .ok (.iadd, 1) := by decide +kernel
theorem d_L_law_672 : decode (qMc M_L_law) 672 = .ok (.iaload, 1) := by decide +kernel
theorem d_L_law_673 : decode (qMc M_L_law) 673 = .ok (.aload_n 0, 1) := by decide +kernel
theorem d_L_law_674 : decode (qMc M_L_law) 674 = .ok (.iload_n 3, 1) := by decide +kernel
theorem d_L_law_675 : decode (qMc M_L_law) 675 = .ok (.iconst 3, 1) := by decide +kernel
theorem d_L_law_676 : decode (qMc M_L_law) 676 = .ok (.iadd, 1) := by decide +kernel
theorem d_L_law_677 : decode (qMc M_L_law) 677 = .ok (.iaload, 1) := by decide +kernel
theorem d_L_law_678 : decode (qMc M_L_law) 678 = .ok (.invokevirtual 69, 3) := by decide +kernel
theorem d_L_law_681 : decode (qMc M_L_law) 681 = .ok (.aload_n 2, 1) := by decide +kernel
theorem d_L_law_682 : decode (qMc M_L_law) 682 = .ok (.aload_n 0, 1) := by decide +kernel
theorem d_L_law_683 : decode (qMc M_L_law) 683 = .ok (.iload_n 3, 1) := by decide +kernel
theorem d_L_law_684 : decode (qMc M_L_law) 684 = .ok (.iconst 1, 1) := by decide +kernel
theorem d_L_law_685 : decode (qMc M_L_law) 685 = .ok (.iadd, 1) := by decide +kernel
theorem d_L_law_686 : decode (qMc M_L_law) 686 = .ok (.iaload, 1) := by decide +kernel
theorem d_L_law_687 : decode (qMc M_L_law) 687 = .ok (.aload_n 0, 1) := by decide +kernel
theorem d_L_law_688 : decode (qMc M_L_law) 688 = .ok (.iload_n 3, 1) := by decide +kernel
theorem d_L_law_689 : decode (qMc M_L_law) 689 = .ok (.iconst 2, 1) := by decide +kernel
theorem d_L_law_690 : decode (qMc M_L_law) 690 = .ok (.iadd, 1) := by decide +kernel
theorem d_L_law_691 : decode (qMc M_L_law) 691 = .ok (.iaload, 1) := by decide +kernel
theorem d_L_law_692 : decode (qMc M_L_law) 692 = .ok (.aload_n 0, 1) := by decide +kernel
theorem d_L_law_693 : decode (qMc M_L_law) 693 = .ok (.iload_n 3, 1) := by decide +kernel
theorem d_L_law_694 : decode (qMc M_L_law) 694 = .ok (.iconst 3, 1) := by decide +kernel
theorem d_L_law_695 : decode (qMc M_L_law) 695 = .ok (.iadd, 1) := by decide +kernel
theorem d_L_law_696 : decode (qMc M_L_law) 696 = .ok (.iaload, 1) := by decide +kernel
theorem d_L_law_697 : decode (qMc M_L_law) 697 = .ok (.invokevirtual 72, 3) := by decide +kernel
theorem d_L_law_700 : decode (qMc M_L_law) 700 = .ok (.if_icmp .eq 1051, 3) := by decide +kernel
theorem d_L_law_703 : decode (qMc M_L_law) 703 = .ok (.iconst 0, 1) := by decide +kernel
theorem d_L_law_704 : decode (qMc M_L_law) 704 = .ok (.ireturn, 1) := by decide +kernel
theorem d_L_law_705 : decode (qMc M_L_law) 705 = .ok (.aload_n 1, 1) := by decide +kernel
theorem d_L_law_706 : decode (qMc M_L_law) 706 = .ok (.aload_n 0, 1) := by decide +kernel
theorem d_L_law_707 : decode (qMc M_L_law) 707 = .ok (.iload_n 3, 1) := by decide +kernel
theorem d_L_law_708 : decode (qMc M_L_law) 708 = .ok (.iconst 1, 1) := by decide +kernel
theorem d_L_law_709 : decode (qMc M_L_law) 709 = .ok (.iadd, 1) := by decide +kernel
theorem d_L_law_710 : decode (qMc M_L_law) 710 = .ok (.iaload, 1) := by decide +kernel
theorem d_L_law_711 : decode (qMc M_L_law) 711 = .ok (.aload_n 0, 1) := by decide +kernel
theorem d_L_law_712 : decode (qMc M_L_law) 712 = .ok (.iload_n 3, 1) := by decide +kernel
theorem d_L_law_713 : decode (qMc M_L_law) 713 = .ok (.iconst 2, 1) := by decide +kernel
theorem d_L_law_714 : decode (qMc M_L_law) 714 = .ok (.iadd, 1) := by decide +kernel
theorem d_L_law_715 : decode (qMc M_L_law) 715 = .ok (.iaload, 1) := by decide +kernel
theorem d_L_law_716 : decode (qMc M_L_law) 716 = .ok (.invokevirtual 73, 3) := by decide +kernel
theorem d_L_law_719 : decode (qMc M_L_law) 719 = .ok (.aload_n 2, 1) := by decide +kernel
theorem d_L_law_720 : decode (qMc M_L_law) 720 = .ok (.aload_n 0, 1) := by decide +kernel
theorem d_L_law_721 : decode (qMc M_L_law) 721 = .ok (.iload_n 3, 1) := by decide +kernel
theorem d_L_law_722 : decode (qMc M_L_law) 722 = .ok (.iconst 1, 1) := by decide +kernel
theorem d_L_law_723 : decode (qMc M_L_law) 723 = .ok (.iadd, 1) := by decide +kernel
theorem d_L_law_724 : decode (qMc M_L_law) 724 = .ok (.iaload, 1) := by decide +kernel
theorem d_L_law_725 : decode (qMc M_L_law) 725 = .ok (.aload_n 0, 1) := by decide +kernel
theorem d_L_law_726 : decode (qMc M_L_law) 726 = .ok (.iload_n 3, 1) := by decide +kernel
theorem d_L_law_727 : decode (qMc M_L_law) 727 = .ok (.iconst 2, 1) := by decide +kernel
theorem d_L_law_728 : decode (qMc M_L_law) 728 = .ok (.iadd, 1) := by decide +kernel
theorem d_L_law_729 : decode (qMc M_L_law) 729 = .ok (.iaload, 1) := by decide +kernel
theorem d_L_law_730 : decode (qMc M_L_law) 730 = .ok (.invokevirtual 76, 3) := by decide +kernel
theorem d_L_law_733 : decode (qMc M_L_law) 733 = .ok (.if_icmp .eq 1018, 3) := by decide +kernel
theorem d_L_law_736 : decode (qMc M_L_law) 736 = .ok (.iconst 0, 1) := by decide +kernel
theorem d_L_law_737 : decode (qMc M_L_law) 737 = .ok (.ireturn, 1) := by decide +kernel
theorem d_L_law_738 : decode (qMc M_L_law) 738 = .ok (.aload_n 1, 1) := by decide +kernel
theorem d_L_law_739 : decode (qMc M_L_law) 739 = .ok (.aload_n 0, 1) := by decide +kernel
theorem d_L_law_740 : decode (qMc M_L_law) 740 = .ok (.iload_n 3, 1) := by decide +kernel
theorem d_L_law_741 : decode (qMc M_L_law) 741 = .ok (.iconst 1, 1) := by decide +kernel
theorem d_L_law_742 : decode (qMc M_L_law) 742 = .ok (.iadd, 1) := by decide +kernel
theorem d_L_law_743 : decode (qMc M_L_law) 743 = .ok (.iaload, 1) := by decide +kernel
theorem d_L_law_744 : decode (qMc M_L_law) 744 = .ok (.aload_n 0, 1) := by decide +kernel
theorem d_L_law_745 : decode (qMc M_L_law) 745 = .ok (.iload_n 3, 1) := by decide +kernel
theorem d_L_law_746 : decode (qMc M_L_law) 746 = .ok (.iconst 2, 1) := by decide +kernel
theorem d_L_law_747 : decode (qMc M_L_law) 747 = .ok (.iadd, 1) := by decide +kernel
theorem d_L_law_748 : decode (qMc M_L_law) 748 = .ok (.iaload, 1) := by decide +kernel
theorem d_L_law_749 : decode (qMc M_L_law) 749 = .ok (.invokevirtual 77, 3) := by decide +kernel
theorem d_L_law_752 : decode (qMc M_L_law) 752 = .ok (.aload_n 2, 1) := by decide +kernel
theorem d_L_law_753 : decode (qMc M_L_law) 753 = .ok (.aload_n 0, 1) := by decide +kernel
theorem d_L_law_754 : decode (qMc M_L_law) 754 = .ok (.iload_n 3, 1) := by decide +kernel
theorem d_L_law_755 : decode (qMc M_L_law) 755 = .ok (.iconst 1, 1) := by decide +kernel
theorem d_L_law_756 : decode (qMc M_L_law) 756 = .ok (.iadd, 1) := by decide +kernel
theorem d_L_law_757 : decode (qMc M_L_law) 757 = .ok (.iaload, 1) := by decide +kernel
theorem d_L_law_758 : decode (qMc M_L_law) 758 = .ok (.aload_n 0, 1) := by decide +kernel
theorem d_L_law_759 : decode (qMc M_L_law) 759 = .ok (.iload_n 3, 1) := by decide +kernel
theorem d_L_law_760 : decode (qMc M_L_law) 760 = .ok (.iconst 2, 1) := by decide +kernel
theorem d_L_law_761 : decode (qMc M_L_law) 761 = .ok (.iadd, 1) := by decide +kernel
theorem d_L_law_762 : decode (qMc M_L_law) 762 = .ok (.iaload, 1) := by decide +kernel
theorem d_L_law_763 : decode (qMc M_L_law) 763 = .ok (.invokevirtual 80, 3) := by decide +kernel
theorem d_L_law_766 : decode (qMc M_L_law) 766 = .ok (.if_icmp .eq 985, 3) := by decide +kernel
theorem d_L_law_769 : decode (qMc M_L_law) 769 = .ok (.iconst 0, 1) := by decide +kernel
theorem d_L_law_770 : decode (qMc M_L_law) 770 = .ok (.ireturn, 1) := by decide +kernel
theorem d_L_law_771 : decode (qMc M_L_law) 771 = .ok (.aload_n 1, 1) := by decide +kernel
theorem d_L_law_772 : decode (qMc M_L_law) 772 = .ok (.aload_n 0, 1) := by decide +kernel
theorem d_L_law_773 : decode (qMc M_L_law) 773 = .ok (.iload_n 3, 1) := by decide +kernel
theorem d_L_law_774 : decode (qMc M_L_law) 774 = .ok (.iconst 1, 1) := by decide +kernel
theorem d_L_law_775 : decode (qMc M_L_law) 775 = .ok (.iadd, 1) := by decide +kernel
theorem d_L_law_776 : decode (qMc M_L_law) 776 = .ok (.iaload, 1) := by decide +kernel
theorem d_L_law_777 : decode (qMc M_L_law) 777 = .ok (.aload_n 0, 1) := by decide +kernel
theorem d_L_law_778 : decode (qMc M_L_law) 778 = .ok (.iload_n 3, 1) := by decide +kernel
theorem d_L_law_779 : decode (qMc M_L_law) 779 = .ok (.iconst 2, 1) := by decide +kernel
theorem d_L_law_780 : decode (qMc M_L_law) 780 = .ok (.iadd, 1) := by decide +kernel
theorem d_L_law_781 : decode (qMc M_L_law) 781 = .ok (.iaload, 1) := by decide +kernel
theorem d_L_law_782 : decode (qMc M_L_law) 782 = .ok (.invokevirtual 81, 3) := by decide +kernel
theorem d_L_law_785 : decode (qMc M_L_law) 785 = .ok (.aload_n 2, 1) := by decide +kernel
theorem d_L_law_786 : decode (qMc M_L_law) 786 = .ok (.aload_n 0, 1) := by decide +kernel
theorem d_L_law_787 : decode (qMc M_L_law) 787 = .ok (.iload_n 3, 1) := by decide +kernel
theorem d_L_law_788 : decode (qMc M_L_law) 788 = .ok (.iconst 1, 1) := by decide +kernel
theorem d_L_law_789 : decode (qMc M_L_law) 789 = .ok (.iadd, 1) := by decide +kernel
theorem d_L_law_790 : decode (qMc M_L_law) 790 = .ok (.iaload, 1) := by decide +kernel
theorem d_L_law_791 : decode (qMc M_L_law) 791 = .ok (.aload_n 0, 1) := by decide +kernel
theorem d_L_law_792 : decode (qMc M_L_law) 792 = .ok (.iload_n 3, 1) := by decide +kernel
theorem d_L_law_793 : decode (qMc M_L_law) 793 = .ok (.iconst 2, 1) := by decide +kernel
theorem d_L_law_794 : decode (qMc M_L_law) 794 = .ok (.iadd, 1) := by decide +kernel
theorem d_L_law_795 : decode (qMc M_L_law) 795 = .ok (.iaload, 1) := by decide +kernel
theorem d_L_law_796 : decode (qMc M_L_law) 796 = .ok (.invokevirtual 84, 3) := by decide +kernel
theorem d_L_law_799 : decode (qMc M_L_law) 799 = .ok (.if_icmp .eq 952, 3) := by decide +kernel
theorem d_L_law_802 : decode (qMc M_L_law) 802 = .ok (.iconst 0, 1) := by decide +kernel
theorem d_L_law_803 : decode (qMc M_L_law) 803 = .ok (.ireturn, 1) := by decide +kernel
theorem d_L_law_804 : decode (qMc M_L_law) 804 = .ok (.aload_n 1, 1) := by decide +kernel
theorem d_L_law_805 : decode (qMc M_L_law) 805 = .ok (.aload_n 0, 1) := by decide +kernel
theorem d_L_law_806 : decode (qMc M_L_law) 806 = .ok (.iload_n 3, 1) := by decide +kernel
theorem d_L_law_807 : decode (qMc M_L_law) 807 = .ok (.iconst 1, 1) := by decide +kernel
theorem d_L_law_808 : decode (qMc M_L_law) 808 = .ok (.iadd, 1) := by decide +kernel
theorem d_L_law_809 : decode (qMc M_L_law) 809 = .ok (.iaload, 1) := by decide +kernel
theorem d_L_law_810 : decode (qMc M_L_law) 810 = .ok (.aload_n 0, 1) := by decide +kernel
theorem d_L_law_811 : decode (qMc M_L_law) 811 = .ok (.iload_n 3, 1) := by decide +kernel
theorem d_L_law_812 : decode (qMc M_L_law) 812 = .ok (.iconst 2, 1) := by decide +kernel
theorem d_L_law_813 : decode (qMc M_L_law) 813 = .ok (.iadd, 1) := by decide +kernel
theorem d_L_law_814 : decode (qMc M_L_law) 814 = .ok (.iaload, 1) := by decide +kernel
theorem d_L_law_815 : decode (qMc M_L_law) 815 = .ok (.invokevirtual 85, 3) := by decide +kernel
theorem d_L_law_818 : decode (qMc M_L_law) 818 = .ok (.aload_n 2, 1) := by decide +kernel
theorem d_L_law_819 : decode (qMc M_L_law) 819 = .ok (.aload_n 0, 1) := by decide +kernel
theorem d_L_law_820 : decode (qMc M_L_law) 820 = .ok (.iload_n 3, 1) := by decide +kernel
theorem d_L_law_821 : decode (qMc M_L_law) 821 = .ok (.iconst 1, 1) := by decide +kernel
theorem d_L_law_822 : decode (qMc M_L_law) 822 = .ok (.iadd, 1) := by decide +kernel
theorem d_L_law_823 : decode (qMc M_L_law) 823 = .ok (.iaload, 1) := by decide +kernel
theorem d_L_law_824 : decode (qMc M_L_law) 824 = .ok (.aload_n 0, 1) := by decide +kernel
theorem d_L_law_825 : decode (qMc M_L_law) 825 = .ok (.iload_n 3, 1) := by decide +kernel
theorem d_L_law_826 : decode (qMc M_L_law) 826 = .ok (.iconst 2, 1) := by decide +kernel
theorem d_L_law_827 : decode (qMc M_L_law) 827 = .ok (.iadd, 1) := by decide +kernel
theorem d_L_law_828 : decode (qMc M_L_law) 828 = .ok (.iaload, 1) := by decide +kernel
theorem d_L_law_829 : decode (qMc M_L_law) 829 = .ok (.invokevirtual 88, 3) := by decide +kernel
theorem d_L_law_832 : decode (qMc M_L_law) 832 = .ok (.if_icmp .eq 919, 3) := by decide +kernel
theorem d_L_law_835 : decode (qMc M_L_law) 835 = .ok (.iconst 0, 1) := by decide +kernel
theorem d_L_law_836 : decode (qMc M_L_law) 836 = .ok (.ireturn, 1) := by decide +kernel
theorem d_L_law_837 : decode (qMc M_L_law) 837 = .ok (.aload_n 1, 1) := by decide +kernel
theorem d_L_law_838 : decode (qMc M_L_law) 838 = .ok (.aload_n 0, 1) := by decide +kernel
theorem d_L_law_839 : decode (qMc M_L_law) 839 = .ok (.iload_n 3, 1) := by decide +kernel
theorem d_L_law_840 : decode (qMc M_L_law) 840 = .ok (.iconst 1, 1) := by decide +kernel
theorem d_L_law_841 : decode (qMc M_L_law) 841 = .ok (.iadd, 1) := by decide +kernel
theorem d_L_law_842 : decode (qMc M_L_law) 842 = .ok (.iaload, 1) := by decide +kernel
theorem d_L_law_843 : decode (qMc M_L_law) 843 = .ok (.aload_n 0, 1) := by decide +kernel
theorem d_L_law_844 : decode (qMc M_L_law) 844 = .ok (.iload_n 3, 1) := by decide +kernel
theorem d_L_law_845 : decode (qMc M_L_law) 845 = .ok (.iconst 2, 1) := by decide +kernel
theorem d_L_law_846 : decode (qMc M_L_law) 846 = .ok (.iadd, 1) := by decide +kernel
theorem d_L_law_847 : decode (qMc M_L_law) 847 = .ok (.iaload, 1) := by decide +kernel
theorem d_L_law_848 : decode (qMc M_L_law) 848 = .ok (.invokevirtual 89, 3) := by decide +kernel
theorem d_L_law_851 : decode (qMc M_L_law) 851 = .ok (.aload_n 2, 1) := by decide +kernel
theorem d_L_law_852 : decode (qMc M_L_law) 852 = .ok (.aload_n 0, 1) := by decide +kernel
theorem d_L_law_853 : decode (qMc M_L_law) 853 = .ok (.iload_n 3, 1) := by decide +kernel
theorem d_L_law_854 : decode (qMc M_L_law) 854 = .ok (.iconst 1, 1) := by decide +kernel
theorem d_L_law_855 : decode (qMc M_L_law) 855 = .ok (.iadd, 1) := by decide +kernel
theorem d_L_law_856 : decode (qMc M_L_law) 856 = .ok (.iaload, 1) := by decide +kernel
theorem d_L_law_857 : decode (qMc M_L_law) 857 = .ok (.aload_n 0, 1) := by decide +kernel
theorem d_L_law_858 : decode (qMc M_L_law) 858 = .ok (.iload_n 3, 1) := by decide +kernel
theorem d_L_law_859 : decode (qMc M_L_law) 859 = .ok (.iconst 2, 1) := by decide +kernel
theorem d_L_law_860 : decode (qMc M_L_law) 860 = .ok (.iadd, 1) := by decide +kernel
theorem d_L_law_861 : decode (qMc M_L_law) 861 = .ok (.iaload, 1) := by decide +kernel
theorem d_L_law_862 : decode (qMc M_L_law) 862 = .ok (.invokevirtual 92, 3) := by decide +kernel
theorem d_L_law_865 : decode (qMc M_L_law) 865 = .ok (.if_icmp .eq 886, 3) := by decide +kernel
theorem d_L_law_868 : decode (qMc M_L_law) 868 = .ok (.iconst 0, 1) := by decide +kernel
theorem d_L_law_869 : decode (qMc M_L_law) 869 = .ok (.ireturn, 1) := by decide +kernel
theorem d_L_law_870 : decode (qMc M_L_law) 870 = .ok (.aload_n 1, 1) := by decide +kernel
theorem d_L_law_871 : decode (qMc M_L_law) 871 = .ok (.aload_n 0, 1) := by decide +kernel
theorem d_L_law_872 : decode (qMc M_L_law) 872 = .ok (.iload_n 3, 1) := by decide +kernel
theorem d_L_law_873 : decode (qMc M_L_law) 873 = .ok (.iconst 1, 1) := by decide +kernel
theorem d_L_law_874 : decode (qMc M_L_law) 874 = .ok (.iadd, 1) := by decide +kernel
theorem d_L_law_875 : decode (qMc M_L_law) 875 = .ok (.iaload, 1) := by decide +kernel
theorem d_L_law_876 : decode (qMc M_L_law) 876 = .ok (.aload_n 0, 1) := by decide +kernel
theorem d_L_law_877 : decode (qMc M_L_law) 877 = .ok (.iload_n 3, 1) := by decide +kernel
theorem d_L_law_878 : decode (qMc M_L_law) 878 = .ok (.iconst 2, 1) := by decide +kernel
theorem d_L_law_879 : decode (qMc M_L_law) 879 = .ok (.iadd, 1) := by decide +kernel
theorem d_L_law_880 : decode (qMc M_L_law) 880 = .ok (.iaload, 1) := by decide +kernel
theorem d_L_law_881 : decode (qMc M_L_law) 881 = .ok (.aload_n 0, 1) := by decide +kernel
theorem d_L_law_882 : decode (qMc M_L_law) 882 = .ok (.iload_n 3, 1) := by decide +kernel
theorem d_L_law_883 : decode (qMc M_L_law) 883 = .ok (.iconst 3, 1) := by decide +kernel
theorem d_L_law_884 : decode (qMc M_L_law) 884 = .ok (.iadd, 1) := by decide +kernel
theorem d_L_law_885 : decode (qMc M_L_law) 885 = .ok (.iaload, 1) := by decide +kernel
theorem d_L_law_886 : decode (qMc M_L_law) 886 = .ok (.invokevirtual 93, 3) := by decide +kernel
theorem d_L_law_889 : decode (qMc M_L_law) 889 = .ok (.aload_n 2, 1) := by decide +kernel
theorem d_L_law_890 : decode (qMc M_L_law) 890 = .ok (.aload_n 0, 1) := by decide +kernel
theorem d_L_law_891 : decode (qMc M_L_law) 891 = .ok (.iload_n 3, 1) := by decide +kernel
theorem d_L_law_892 : decode (qMc M_L_law) 892 = .ok (.iconst 1, 1) := by decide +kernel
theorem d_L_law_893 : decode (qMc M_L_law) 893 = .ok (.iadd, 1) := by decide +kernel
theorem d_L_law_894 : decode (qMc M_L_law) 894 = .ok (.iaload, 1) := by decide +kernel
theorem d_L_law_895 : decode (qMc M_L_law) 895 = .ok (.aload_n 0, 1) := by decide +kernel
theorem d_L_law_896 : decode (qMc M_L_law) 896 = .ok (.iload_n 3, 1) := by decide +kernel
theorem d_L_law_897 : decode (qMc M_L_law) 897 = .ok (.iconst 2, 1) := by decide +kernel
theorem d_L_law_898 : decode (qMc M_L_law) 898 = .ok (.iadd, 1) := by decide +kernel
theorem d_L_law_899 : decode (qMc M_L_law) 899 = .ok (.iaload, 1) := by decide +kernel
theorem d_L_law_900 : decode (qMc M_L_law) 900 = .ok (.aload_n 0, 1) := by decide +kernel
theorem d_L_law_901 : decode (qMc M_L_law) 901 = .ok (.iload_n 3, 1) := by decide +kernel
theorem d_L_law_902 : decode (qMc M_L_law) 902 = .ok (.iconst 3, 1) := by decide +kernel
theorem d_L_law_903 : decode (qMc M_L_law) 903 = .ok (.iadd, 1) := by decide +kernel
theorem d_L_law_904 : decode (qMc M_L_law) 904 = .ok (.iaload, 1) := by decide +kernel
theorem d_L_law_905 : decode (qMc M_L_law) 905 = .ok (.invokevirtual 96, 3) := by decide +kernel
theorem d_L_law_908 : decode (qMc M_L_law) 908 = .ok (.if_icmp .eq 843, 3) := by decide +kernel
theorem d_L_law_911 : decode (qMc M_L_law) 911 = .ok (.iconst 0, 1) := by decide +kernel
theorem d_L_law_912 : decode (qMc M_L_law) 912 = .ok (.ireturn, 1) := by decide +kernel
theorem d_L_law_913 : decode (qMc M_L_law) 913 = .ok (.aload_n 1, 1) := by decide +kernel
theorem d_L_law_914 : decode (qMc M_L_law) 914 = .ok (.aload_n 0, 1) := by decide +kernel
theorem d_L_law_915 : decode (qMc M_L_law) 915 = .ok (.iload_n 3, 1) := by decide +kernel
theorem d_L_law_916 : decode (qMc M_L_law) 916 = .ok (.iconst 1, 1) := by decide +kernel
theorem d_L_law_917 : decode (qMc M_L_law) 917 = .ok (.iadd, 1) := by decide +kernel
theorem d_L_law_918 : decode (qMc M_L_law) 918 = .ok (.iaload, 1) := by decide +kernel
theorem d_L_law_919 : decode (qMc M_L_law) 919 = .ok (.aload_n 0, 1) := by decide +kernel
theorem d_L_law_920 : decode (qMc M_L_law) 920 = .ok (.iload_n 3, 1) := by decide +kernel
theorem d_L_law_921 : decode (qMc M_L_law) 921 = .ok (.iconst 2, 1) := by decide +kernel
theorem d_L_law_922 : decode (qMc M_L_law) 922 = .ok (.iadd, 1) := by decide +kernel
theorem d_L_law_923 : decode (qMc M_L_law) 923 = .ok (.iaload, 1) := by decide +kernel
theorem d_L_law_924 : decode (qMc M_L_law) 924 = .ok (.aload_n 0, 1) := by decide +kernel
theorem d_L_law_925 : decode (qMc M_L_law) 925 = .ok (.iload_n 3, 1) := by decide +kernel
theorem d_L_law_926 : decode (qMc M_L_law) 926 = .ok (.iconst 3, 1) := by decide +kernel
theorem d_L_law_927 : decode (qMc M_L_law) 927 = .ok (.iadd, 1) := by decide +kernel
theorem d_L_law_928 : decode (qMc M_L_law) 928 = .ok (.iaload, 1) := by decide +kernel
theorem d_L_law_929 : decode (qMc M_L_law) 929 = .ok (.invokevirtual 97, 3) := by decide +kernel
theorem d_L_law_932 : decode (qMc M_L_law) 932 = .ok (.aload_n 2, 1) := by decide +kernel
theorem d_L_law_933 : decode (qMc M_L_law) 933 = .ok (.aload_n 0, 1) := by decide +kernel
theorem d_L_law_934 : decode (qMc M_L_law) 934 = .ok (.iload_n 3, 1) := by decide +kernel
theorem d_L_law_935 : decode (qMc M_L_law) 935 = .ok (.iconst 1, 1) := by decide +kernel
theorem d_L_law_936 : decode (qMc M_L_law) 936 = .ok (.iadd, 1) := by decide +kernel
theorem d_L_law_937 : decode (qMc M_L_law) 937 = .ok (.iaload, 1) := by decide +kernel
theorem d_L_law_938 : decode (qMc M_L_law) 938 = .ok (.aload_n 0, 1) := by decide +kernel
theorem d_L_law_939 : decode (qMc M_L_law) 939 = .ok (.iload_n 3, 1) := by decide +kernel
theorem d_L_law_940 : decode (qMc M_L_law) 940 = .ok (.iconst 2, 1) := by decide +kernel
theorem d_L_law_941 : decode (qMc M_L_law) 941 = .ok (.iadd, 1) := by decide +kernel
theorem d_L_law_942 : decode (qMc M_L_law) 942 = .ok (.iaload, 1) := by decide +kernel
theorem d_L_law_943 : decode (qMc M_L_law) 943 = .ok (.aload_n 0, 1) := by decide +kernel
theorem d_L_law_944 : decode (qMc M_L_law) 944 = .ok (.iload_n 3, 1) := by decide +kernel
theorem d_L_law_945 : decode (qMc M_L_law) 945 = .ok (.iconst 3, 1) := by decide +kernel
theorem d_L_law_946 : decode (qMc M_L_law) 946 = .ok (.iadd, 1) := by decide +kernel
theorem d_L_law_947 : decode (qMc M_L_law) 947 = .ok (.iaload, 1) := by decide +kernel
theorem d_L_law_948 : decode (qMc M_L_law) 948 = .ok (.invokevirtual 100, 3) := by decide +kernel
theorem d_L_law_951 : decode (qMc M_L_law) 951 = .ok (.if_icmp .eq 800, 3) := by decide +kernel
theorem d_L_law_954 : decode (qMc M_L_law) 954 = .ok (.iconst 0, 1) := by decide +kernel
theorem d_L_law_955 : decode (qMc M_L_law) 955 = .ok (.ireturn, 1) := by decide +kernel
theorem d_L_law_956 : decode (qMc M_L_law) 956 = .ok (.aload_n 1, 1) := by decide +kernel
theorem d_L_law_957 : decode (qMc M_L_law) 957 = .ok (.aload_n 0, 1) := by decide +kernel
theorem d_L_law_958 : decode (qMc M_L_law) 958 = .ok (.iload_n 3, 1) := by decide +kernel
theorem d_L_law_959 : decode (qMc M_L_law) 959 = .ok (.iconst 1, 1) := by decide +kernel
theorem d_L_law_960 : decode (qMc M_L_law) 960 = .ok (.iadd, 1) := by decide +kernel
theorem d_L_law_961 : decode (qMc M_L_law) 961 = .ok (.iaload, 1) := by decide +kernel
theorem d_L_law_962 : decode (qMc M_L_law) 962 = .ok (.invokevirtual 101, 3) := by decide +kernel
theorem d_L_law_965 : decode (qMc M_L_law) 965 = .ok (.aload_n 2, 1) := by decide +kernel
theorem d_L_law_966 : decode (qMc M_L_law) 966 = .ok (.aload_n 0, 1) := by decide +kernel
theorem d_L_law_967 : decode (qMc M_L_law) 967 = .ok (.iload_n 3, 1) := by decide +kernel
theorem d_L_law_968 : decode (qMc M_L_law) 968 = .ok (.iconst 1, 1) := by decide +kernel
theorem d_L_law_969 : decode (qMc M_L_law) 969 = .ok (.iadd, 1) := by decide +kernel
theorem d_L_law_970 : decode (qMc M_L_law) 970 = .ok (.iaload, 1) := by decide +kernel
theorem d_L_law_971 : decode (qMc M_L_law) 971 = .ok (.invokevirtual 104, 3) := by decide +kernel
theorem d_L_law_974 : decode (qMc M_L_law) 974 = .ok (.if_icmp .eq 777, 3) := by decide +kernel
theorem d_L_law_977 : decode (qMc M_L_law) 977 = .ok (.iconst 0, 1) := by decide +kernel
theorem d_L_law_978 : decode (qMc M_L_law) 978 = .ok (.ireturn, 1) := by decide +kernel
theorem d_L_law_979 : decode (qMc M_L_law) 979 = .ok (.aload_n 1, 1) := by decide +kernel
theorem d_L_law_980 : decode (qMc M_L_law) 980 = .ok (.invokevirtual 105, 3) := by decide +kernel
theorem d_L_law_983 : decode (qMc M_L_law) 983 = .ok (.aload_n 2, 1) := by decide +kernel
theorem d_L_law_984 : decode (qMc M_L_law) 984 = .ok (.invokevirtual 109, 3) := by decide +kernel
theorem d_L_law_987 : decode (qMc M_L_law) 987 = .ok (.if_icmp .eq 764, 3) := by decide +kernel
theorem d_L_law_990 : decode (qMc M_L_law) 990 = .ok (.iconst 0, 1) := by decide +kernel
theorem d_L_law_991 : decode (qMc M_L_law) 991 = .ok (.ireturn, 1) := by decide +kernel
theorem d_L_law_992 : decode (qMc M_L_law) 992 = .ok (.aload_n 1, 1) := by decide +kernel
theorem d_L_law_993 : decode (qMc M_L_law) 993 = .ok (.aload_n 0, 1) := by decide +kernel
theorem d_L_law_994 : decode (qMc M_L_law) 994 = .ok (.iload_n 3, 1) := by decide +kernel
theorem d_L_law_995 : decode (qMc M_L_law) 995 = .ok (.iconst 1, 1) := by decide +kernel
theorem d_L_law_996 : decode (qMc M_L_law) 996 = .ok (.iadd, 1) := by decide +kernel
theorem d_L_law_997 : decode (qMc M_L_law) 997 = .ok (.iaload, 1) := by decide +kernel
theorem d_L_law_998 : decode (qMc M_L_law) 998 = .ok (.aload_n 0, 1) := by decide +kernel
theorem d_L_law_999 : decode (qMc M_L_law) 999 = .ok (.iload_n 3, 1) := by decide +kernel
theorem d_L_law_1000 : decode (qMc M_L_law) 1000 = .ok (.iconst 2, 1) := by decide +kernel
theorem d_L_law_1001 : decode (qMc M_L_law) 1001 = .ok (.iadd, 1) := by decide +kernel
theorem d_L_law_1002 : decode (qMc M_L_law) 1002 = .ok (.iaload, 1) := by decide +kernel
theorem d_L_law_1003 : decode (qMc M_L_law) 1003 = .ok (.invokevirtual 110, 3) := by decide +kernel
theorem d_L_law_1006 : decode (qMc M_L_law) 1006 = .ok (.aload_n 2, 1) := by decide +kernel
theorem d_L_law_1007 : decode (qMc M_L_law) 1007 = .ok (.aload_n 0, 1) := by decide +kernel
theorem d_L_law_1008 : decode (qMc M_L_law) 1008 = .ok (.iload_n 3, 1) := by decide +kernel
theorem d_L_law_1009 : decode (qMc M_L_law) 1009 = .ok (.iconst 1, 1) := by decide +kernel
theorem d_L_law_1010 : decode (qMc M_L_law) 1010 = .ok (.iadd, 1) := by decide +kernel
theorem d_L_law_1011 : decode (qMc M_L_law) 1011 = .ok (.iaload, 1) := by decide +kernel
theorem d_L_law_1012 : decode (qMc M_L_law) 1012 = .ok (.aload_n 0, 1) := by decide +kernel
theorem d_L_law_1013 : decode (qMc M_L_law) 1013 = .ok (.iload_n 3, 1) := by decide +kernel
theorem d_L_law_1014 : decode (qMc M_L_law) 1014 = .ok (.iconst 2, 1) := by decide +kernel
theorem d_L_law_1015 : decode (qMc M_L_law) 1015 = .ok (.iadd, 1) := by decide +kernel
theorem d_L_law_1016 : decode (qMc M_L_law) 1016 = .ok (.iaload, 1) := by decide +kernel
theorem d_L_law_1017 : decode (qMc M_L_law) 1017 = .ok (.invokevirtual 113, 3) := by decide +kernel
theorem d_L_law_1020 : decode (qMc M_L_law) 1020 = .ok (.if_icmp .eq 731, 3) := by decide +kernel
theorem d_L_law_1023 : decode (qMc M_L_law) 1023 = .ok (.iconst 0, 1) := by decide +kernel
theorem d_L_law_1024 : decode (qMc M_L_law) 1024 = .ok (.ireturn, 1) := by decide +kernel
theorem d_L_law_1025 : decode (qMc M_L_law) 1025 = .ok (.aload_n 1, 1) := by decide +kernel
theorem d_L_law_1026 : decode (qMc M_L_law) 1026 = .ok (.aload_n 0, 1) := by decide +kernel
theorem d_L_law_1027 : decode (qMc M_L_law) 1027 = .ok (.iload_n 3, 1) := by decide +kernel
theorem d_L_law_1028 : decode (qMc M_L_law) 1028 = .ok (.iconst 1, 1) := by decide +kernel
theorem d_L_law_1029 : decode (qMc M_L_law) 1029 = .ok (.iadd, 1) := by decide +kernel
theorem d_L_law_1030 : decode (qMc M_L_law) 1030 = .ok (.iaload, 1) := by decide +kernel
theorem d_L_law_1031 : decode (qMc M_L_law) 1031 = .ok (.aload_n 0, 1) := by decide +kernel
theorem d_L_law_1032 : decode (qMc M_L_law) 1032 = .ok (.iload_n 3, 1) := by decide +kernel
theorem d_L_law_1033 : decode (qMc M_L_law) 1033 = .ok (.iconst 2, 1) := by decide +kernel
theorem d_L_law_1034 : decode (qMc M_L_law) 1034 = .ok (.iadd, 1) := by decide +kernel
theorem d_L_law_1035 : decode (qMc M_L_law) 1035 = .ok (.iaload, 1) := by decide +kernel
theorem d_L_law_1036 : decode (qMc M_L_law) 1036 = .ok (.aload_n 0, 1) := by decide +kernel
theorem d_L_law_1037 : decode (qMc M_L_law) 1037 = .ok (.iload_n 3, 1) := by decide +kernel
theorem d_L_law_1038 : decode (qMc M_L_law) 1038 = .ok (.iconst 3, 1) := by decide +kernel
theorem d_L_law_1039 : decode (qMc M_L_law) 1039 = .ok (.iadd, 1) := by decide +kernel
theorem d_L_law_1040 : decode (qMc M_L_law) 1040 = .ok (.iaload, 1) := by decide +kernel
theorem d_L_law_1041 : decode (qMc M_L_law) 1041 = .ok (.aload_n 0, 1) := by decide +kernel
theorem d_L_law_1042 : decode (qMc M_L_law) 1042 = .ok (.iload_n 3, 1) := by decide +kernel
theorem d_L_law_1043 : decode (qMc M_L_law) 1043 = .ok (.iconst 4, 1) := by decide +kernel
theorem d_L_law_1044 : decode (qMc M_L_law) 1044 = .ok (.iadd, 1) := by decide +kernel
theorem d_L_law_1045 : decode (qMc M_L_law) 1045 = .ok (.iaload, 1) := by decide +kernel
theorem d_L_law_1046 : decode (qMc M_L_law) 1046 = .ok (.invokevirtual 114, 3) := by decide +kernel
theorem d_L_law_1049 : decode (qMc M_L_law) 1049 = .ok (.aload_n 2, 1) := by decide +kernel
theorem d_L_law_1050 : decode (qMc M_L_law) 1050 = .ok (.aload_n 0, 1) := by decide +kernel
theorem d_L_law_1051 : decode (qMc M_L_law) 1051 = .ok (.iload_n 3, 1) := by decide +kernel
theorem d_L_law_1052 : decode (qMc M_L_law) 1052 = .ok (.iconst 1, 1) := by decide +kernel
theorem d_L_law_1053 : decode (qMc M_L_law) 1053 = .ok (.iadd, 1) := by decide +kernel
theorem d_L_law_1054 : decode (qMc M_L_law) 1054 = .ok (.iaload, 1) := by decide +kernel
theorem d_L_law_1055 : decode (qMc M_L_law) 1055 = .ok (.aload_n 0, 1) := by decide +kernel
theorem d_L_law_1056 : decode (qMc M_L_law) 1056 = .ok (.iload_n 3, 1) := by decide +kernel
theorem d_L_law_1057 : decode (qMc M_L_law) 1057 = .ok (.iconst 2, 1) := by decide +kernel
theorem d_L_law_1058 : decode (qMc M_L_law) 1058 = .ok (.iadd, 1) := by decide +kernel
theorem d_L_law_1059 : decode (qMc M_L_law) 1059 = .ok (.iaload, 1) := by decide +kernel
theorem d_L_law_1060 : decode (qMc M_L_law) 1060 = .ok (.aload_n 0, 1) := by decide +kernel
theorem d_L_law_1061 : decode (qMc M_L_law) 1061 = .ok (.iload_n 3, 1) := by decide +kernel
theorem d_L_law_1062 : decode (qMc M_L_law) 1062 = .ok (.iconst 3, 1) := by decide +kernel
theorem d_L_law_1063 : decode (qMc M_L_law) 1063 = .ok (.iadd, 1) := by decide +kernel
theorem d_L_law_1064 : decode (qMc M_L_law) 1064 = .ok (.iaload, 1) := by decide +kernel
theorem d_L_law_1065 : decode (qMc M_L_law) 1065 = .ok (.aload_n 0, 1) := by decide +kernel
theorem d_L_law_1066 : decode (qMc M_L_law) 1066 = .ok (.iload_n 3, 1) := by decide +kernel
theorem d_L_law_1067 : decode (qMc M_L_law) 1067 = .ok (.iconst 4, 1) := by decide +kernel
theorem d_L_law_1068 : decode (qMc M_L_law) 1068 = .ok (.iadd, 1) := by decide +kernel
theorem d_L_law_1069 : decode (qMc M_L_law) 1069 = .ok (.iaload, 1) := by decide +kernel
theorem d_L_law_1070 : decode (qMc M_L_law) 1070 = .ok (.invokevirtual 117, 3) := by decide +kernel
theorem d_L_law_1073 : decode (qMc M_L_law) 1073 = .ok (.if_icmp .eq 678, 3) := by decide +kernel
theorem d_L_law_1076 : decode (qMc M_L_law) 1076 = .ok (.iconst 0, 1) := by decide +kernel
theorem d_L_law_1077 : decode (qMc M_L_law) 1077 = .ok (.ireturn, 1) := by decide +kernel
theorem d_L_law_1078 : decode (qMc M_L_law) 1078 = .ok (.aload_n 1, 1) := by decide +kernel
theorem d_L_law_1079 : decode (qMc M_L_law) 1079 = .ok (.aload_n 0, 1) := by decide +kernel
theorem d_L_law_1080 : decode (qMc M_L_law) 1080 = .ok (.iload_n 3, 1) := by decide +kernel
theorem d_L_law_1081 : decode (qMc M_L_law) 1081 = .ok (.iconst 1, 1) := by decide +kernel
theorem d_L_law_1082 : decode (qMc M_L_law) 1082 = .ok (.iadd, 1) := by decide +kernel
theorem d_L_law_1083 : decode (qMc M_L_law) 1083 = .ok (.iaload, 1) := by decide +kernel
theorem d_L_law_1084 : decode (qMc M_L_law) 1084 = .ok (.aload_n 0, 1) := by decide +kernel
theorem d_L_law_1085 : decode (qMc M_L_law) 1085 = .ok (.iload_n 3, 1) := by decide +kernel
theorem d_L_law_1086 : decode (qMc M_L_law) 1086 = .ok (.iconst 2, 1) := by decide +kernel
theorem d_L_law_1087 : decode (qMc M_L_law) 1087 = .ok (.iadd, 1) := by decide +kernel
theorem d_L_law_1088 : decode (qMc M_L_law) 1088 = .ok (.iaload, 1) := by decide +kernel
theorem d_L_law_1089 : decode (qMc M_L_law) 1089 = .ok (.aload_n 0, 1) := by decide +kernel
theorem d_L_law_1090 : decode (qMc M_L_law) 1090 = .ok (.iload_n 3, 1) := by decide +kernel
theorem d_L_law_1091 : decode (qMc M_L_law) 1091 = .ok (.iconst 3, 1) := by decide +kernel
theorem d_L_law_1092 : decode (qMc M_L_law) 1092 = .ok (.iadd, 1) := by decide +kernel
theorem d_L_law_1093 : decode (qMc M_L_law) 1093 = .ok (.iaload, 1) := by decide +kernel
theorem d_L_law_1094 : decode (qMc M_L_law) 1094 = .ok (.aload_n 0, 1) := by decide +kernel
theorem d_L_law_1095 : decode (qMc M_L_law) 1095 = .ok (.iload_n 3, 1) := by decide +kernel
theorem d_L_law_1096 : decode (qMc M_L_law) 1096 = .ok (.iconst 4, 1) := by decide +kernel
theorem d_L_law_1097 : decode (qMc M_L_law) 1097 = .ok (.iadd, 1) := by decide +kernel
theorem d_L_law_1098 : decode (qMc M_L_law) 1098 = .ok (.iaload, 1) := by decide +kernel
theorem d_L_law_1099 : decode (qMc M_L_law) 1099 = .ok (.invokevirtual 118, 3) := by decide +kernel
theorem d_L_law_1102 : decode (qMc M_L_law) 1102 = .ok (.aload_n 2, 1) := by decide +kernel
theorem d_L_law_1103 : decode (qMc M_L_law) 1103 = .ok (.aload_n 0, 1) := by decide +kernel
theorem d_L_law_1104 : decode (qMc M_L_law) 1104 = .ok (.iload_n 3, 1) := by decide +kernel
theorem d_L_law_1105 : decode (qMc M_L_law) 1105 = .ok (.iconst 1, 1) := by decide +kernel
theorem d_L_law_1106 : decode (qMc M_L_law) 1106 = .ok (.iadd, 1) := by decide +kernel
theorem d_L_law_1107 : decode (qMc M_L_law) 1107 = .ok (.iaload, 1) := by decide +kernel
theorem d_L_law_1108 : decode (qMc M_L_law) 1108 = .ok (.aload_n 0, 1) := by decide +kernel
theorem d_L_law_1109 : decode (qMc M_L_law) 1109 = .ok (.iload_n 3, 1) := by decide +kernel
theorem d_L_law_1110 : decode (qMc M_L_law) 1110 = .ok (.iconst 2, 1) := by decide +kernel
theorem d_L_law_1111 : decode (qMc M_L_law) 1111 = .ok (.iadd, 1) := by decide +kernel
theorem d_L_law_1112 : decode (qMc M_L_law) 1112 = .ok (.iaload, 1) := by decide +kernel
theorem d_L_law_1113 : decode (qMc M_L_law) 1113 = .ok (.aload_n 0, 1) := by decide +kernel
theorem d_L_law_1114 : decode (qMc M_L_law) 1114 = .ok (.iload_n 3, 1) := by decide +kernel
theorem d_L_law_1115 : decode (qMc M_L_law) 1115 = .ok (.iconst 3, 1) := by decide +kernel
theorem d_L_law_1116 : decode (qMc M_L_law) 1116 = .ok (.iadd, 1) := by decide +kernel
theorem d_L_law_1117 : decode (qMc M_L_law) 1117 = .ok (.iaload, 1) := by decide +kernel
theorem d_L_law_1118 : decode (qMc M_L_law) 1118 = .ok (.aload_n 0, 1) := by decide +kernel
theorem d_L_law_1119 : decode (qMc M_L_law) 1119 = .ok (.iload_n 3, 1) := by decide +kernel
theorem d_L_law_1120 : decode (qMc M_L_law) 1120 = .ok (.iconst 4, 1) := by decide +kernel
theorem d_L_law_1121 : decode (qMc M_L_law) 1121 = .ok (.iadd, 1) := by decide +kernel
theorem d_L_law_1122 : decode (qMc M_L_law) 1122 = .ok (.iaload, 1) := by decide +kernel
theorem d_L_law_1123 : decode (qMc M_L_law) 1123 = .ok (.invokevirtual 121, 3) := by decide +kernel
theorem d_L_law_1126 : decode (qMc M_L_law) 1126 = .ok (.if_icmp .eq 625, 3) := by decide +kernel
theorem d_L_law_1129 : decode (qMc M_L_law) 1129 = .ok (.iconst 0, 1) := by decide +kernel
theorem d_L_law_1130 : decode (qMc M_L_law) 1130 = .ok (.ireturn, 1) := by decide +kernel
theorem d_L_law_1131 : decode (qMc M_L_law) 1131 = .ok (.aload_n 1, 1) := by decide +kernel
theorem d_L_law_1132 : decode (qMc M_L_law) 1132 = .ok (.invokevirtual 122, 3) := by decide +kernel
theorem d_L_law_1135 : decode (qMc M_L_law) 1135 = .ok (.aload_n 2, 1) := by decide +kernel
theorem d_L_law_1136 : decode (qMc M_L_law) 1136 = .ok (.invokevirtual 125, 3) := by decide +kernel
theorem d_L_law_1139 : decode (qMc M_L_law) 1139 = .ok (.if_icmp .eq 612, 3) := by decide +kernel
theorem d_L_law_1142 : decode (qMc M_L_law) 1142 = .ok (.iconst 0, 1) := by decide +kernel
theorem d_L_law_1143 : decode (qMc M_L_law) 1143 = .ok (.ireturn, 1) := by decide +kernel
theorem d_L_law_1144 : decode (qMc M_L_law) 1144 = .ok (.aload_n 1, 1) := by decide +kernel
theorem d_L_law_1145 : decode (qMc M_L_law) 1145 = .ok (.aload_n 0, 1) := by decide +kernel
theorem d_L_law_1146 : decode (qMc M_L_law) 1146 = .ok (.iload_n 3, 1) := by decide +kernel
theorem d_L_law_1147 : decode (qMc M_L_law) 1147 = .ok (.iconst 1, 1) := by decide +kernel
theorem d_L_law_1148 : decode (qMc M_L_law) 1148 = .ok (.iadd, 1) := by decide +kernel
theorem d_L_law_1149 : decode (qMc M_L_law) 1149 = .ok (.iaload, 1) := by decide +kernel
theorem d_L_law_1150 : decode (qMc M_L_law) 1150 = .ok (.invokevirtual 126, 3) := by decide +kernel
theorem d_L_law_1153 : decode (qMc M_L_law) 1153 = .ok (.aload_n 2, 1) := by decide +kernel
theorem d_L_law_1154 : decode (qMc M_L_law) 1154 = .ok (.aload_n 0, 1) := by decide +kernel
theorem d_L_law_1155 : decode (qMc M_L_law) 1155 = .ok (.iload_n 3, 1) := by decide +kernel
theorem d_L_law_1156 : decode (qMc M_L_law) 1156 = .ok (.iconst 1, 1) := by decide +kernel
theorem d_L_law_1157 : decode (qMc M_L_law) 1157 = .ok (.iadd, 1) := by decide +kernel
theorem d_L_law_1158 : decode (qMc M_L_law) 1158 = .ok (.iaload, 1) := by decide +kernel
theorem d_L_law_1159 : decode (qMc M_L_law) 1159 = .ok (.invokevirtual 129, 3) := by decide +kernel
theorem d_L_law_1162 : decode (qMc M_L_law) 1162 = .ok (.if_icmp .eq 589, 3) := by decide +kernel
theorem d_L_law_1165 : decode (qMc M_L_law) 1165 = .ok (.iconst 0, 1) := by decide +kernel
theorem d_L_law_1166 : decode (qMc M_L_law) 1166 = .ok (.ireturn, 1) := by decide +kernel
theorem d_L_law_1167 : decode (qMc M_L_law) 1167 = .ok (.aload_n 1, 1) := by decide +kernel
theorem d_L_law_1168 : decode (qMc M_L_law) 1168 = .ok (.aload_n 0, 1) := by decide +kernel
theorem d_L_law_1169 : decode (qMc M_L_law) 1169 = .ok (.iload_n 3, 1) := by decide +kernel
theorem d_L_law_1170 : decode (qMc M_L_law) 1170 = .ok (.iconst 1, 1) := by decide +kernel
theorem d_L_law_1171 : decode (qMc M_L_law) 1171 = .ok (.iadd, 1) := by decide +kernel
theorem d_L_law_1172 : decode (qMc M_L_law) 1172 = .ok (.iaload, 1) := by decide +kernel
theorem d_L_law_1173 : decode (qMc M_L_law) 1173 = .ok (.aload_n 0, 1) := by decide +kernel
theorem d_L_law_1174 : decode (qMc M_L_law) 1174 = .ok (.iload_n 3, 1) := by decide +kernel
theorem d_L_law_1175 : decode (qMc M_L_law) 1175 = .ok (.iconst 2, 1) := by decide +kernel
theorem d_L_law_1176 : decode (qMc M_L_law) 1176 = .ok (.iadd, 1) := by decide +kernel
theorem d_L_law_1177 : decode (qMc M_L_law) 1177 = .ok (.iaload, 1) := by decide +kernel
theorem d_L_law_1178 : decode (qMc M_L_law) 1178 = .ok (.aload_n 0, 1) := by decide +kernel
theorem d_L_law_1179 : decode (qMc M_L_law) 1179 = .ok (.iload_n 3, 1) := by decide +kernel
theorem d_L_law_1180 : decode (qMc M_L_law) 1180 = .ok (.iconst 3, 1) := by decide +kernel
theorem d_L_law_1181 : decode (qMc M_L_law) 1181 = .ok (.iadd, 1) := by decide +kernel
theorem d_L_law_1182 : decode (qMc M_L_law) 1182 = .ok (.iaload, 1) := by decide +kernel
theorem d_L_law_1183 : decode (qMc M_L_law) 1183 = .ok (.invokevirtual 130, 3) := by decide +kernel
theorem d_L_law_1186 : decode (qMc M_L_law) 1186 = .ok (.aload_n 2, 1) := by decide +kernel
theorem d_L_law_1187 : decode (qMc M_L_law) 1187 = .ok (.aload_n 0, 1) := by decide +kernel
theorem d_L_law_1188 : decode (qMc M_L_law) 1188 = .ok (.iload_n 3, 1) := by decide +kernel
theorem d_L_law_1189 : decode (qMc M_L_law) 1189 = .ok (.iconst 1, 1) := by decide +kernel
theorem d_L_law_1190 : decode (qMc M_L_law) 1190 = .ok (.iadd, 1) := by decide +kernel
theorem d_L_law_1191 : decode (qMc M_L_law) 1191 = .ok (.iaload, 1) := by decide +kernel
theorem d_L_law_1192 : decode (qMc M_L_law) 1192 = .ok (.aload_n 0, 1) := by decide +kernel
theorem d_L_law_1193 : decode (qMc M_L_law) 1193 = .ok (.iload_n 3, 1) := by decide +kernel
theorem d_L_law_1194 : decode (qMc M_L_law) 1194 = .ok (.iconst 2, 1) := by decide +kernel
theorem d_L_law_1195 : decode (qMc M_L_law) 1195 = .ok (.iadd, 1) := by decide +kernel
theorem d_L_law_1196 : decode (qMc M_L_law) 1196 = .ok (.iaload, 1) := by decide +kernel
theorem d_L_law_1197 : decode (qMc M_L_law) 1197 = .ok (.aload_n 0, 1) := by decide +kernel
theorem d_L_law_1198 : decode (qMc M_L_law) 1198 = .ok (.iload_n 3, 1) := by decide +kernel
theorem d_L_law_1199 : decode (qMc M_L_law) 1199 = .ok (.iconst 3, 1) := by decide +kernel
theorem d_L_law_1200 : decode (qMc M_L_law) 1200 = .ok (.iadd, 1) := by decide +kernel
theorem d_L_law_1201 : decode (qMc M_L_law) 1201 = .ok (.iaload, 1) := by decide +kernel
theorem d_L_law_1202 : decode (qMc M_L_law) 1202 = .ok (.invokevirtual 133, 3) := by decide +kernel
theorem d_L_law_1205 : decode (qMc M_L_law) 1205 = .ok (.if_icmp .eq 546, 3) := by decide +kernel
theorem d_L_law_1208 : decode (qMc M_L_law) 1208 = .ok (.iconst 0, 1) := by decide +kernel
theorem d_L_law_1209 : decode (qMc M_L_law) 1209 = .ok (.ireturn, 1) := by decide +kernel
theorem d_L_law_1210 : decode (qMc M_L_law) 1210 = .ok (.aload_n 1, 1) := by decide +kernel
theorem d_L_law_1211 : decode (qMc M_L_law) 1211 = .ok (.aload_n 0, 1) := by decide +kernel
theorem d_L_law_1212 : decode (qMc M_L_law) 1212 = .ok (.iload_n 3, 1) := by decide +kernel
theorem d_L_law_1213 : decode (qMc M_L_law) 1213 = .ok (.iconst 1, 1) := by decide +kernel
theorem d_L_law_1214 : decode (qMc M_L_law) 1214 = .ok (.iadd, 1) := by decide +kernel
theorem d_L_law_1215 : decode (qMc M_L_law) 1215 = .ok (.iaload, 1) := by decide +kernel
theorem d_L_law_1216 : decode (qMc M_L_law) 1216 = .ok (.invokevirtual 134, 3) := by decide +kernel
theorem d_L_law_1219 : decode (qMc M_L_law) 1219 = .ok (.aload_n 2, 1) := by decide +kernel
theorem d_L_law_1220 : decode (qMc M_L_law) 1220 = .ok (.aload_n 0, 1) := by decide +kernel
theorem d_L_law_1221 : decode (qMc M_L_law) 1221 = .ok (.iload_n 3, 1) := by decide +kernel
theorem d_L_law_1222 : decode (qMc M_L_law) 1222 = .ok (.iconst 1, 1) := by decide +kernel
theorem d_L_law_1223 : decode (qMc M_L_law) 1223 = .ok (.iadd, 1) := by decide +kernel
theorem d_L_law_1224 : decode (qMc M_L_law) 1224 = .ok (.iaload, 1) := by decide +kernel
theorem d_L_law_1225 : decode (qMc M_L_law) 1225 = .ok (.invokevirtual 137, 3) := by decide +kernel
theorem d_L_law_1228 : decode (qMc M_L_law) 1228 = .ok (.if_icmp .eq 523, 3) := by decide +kernel
theorem d_L_law_1231 : decode (qMc M_L_law) 1231 = .ok (.iconst 0, 1) := by decide +kernel
theorem d_L_law_1232 : decode (qMc M_L_law) 1232 = .ok (.ireturn, 1) := by decide +kernel
theorem d_L_law_1233 : decode (qMc M_L_law) 1233 = .ok (.aload_n 1, 1) := by decide +kernel
theorem d_L_law_1234 : decode (qMc M_L_law) 1234 = .ok (.aload_n 0, 1) := by decide +kernel
theorem d_L_law_1235 : decode (qMc M_L_law) 1235 = .ok (.iload_n 3, 1) := by decide +kernel
theorem d_L_law_1236 : decode (qMc M_L_law) 1236 = .ok (.iconst 1, 1) := by decide +kernel
theorem d_L_law_1237 : decode (qMc M_L_law) 1237 = .ok (.iadd, 1) := by decide +kernel
theorem d_L_law_1238 : decode (qMc M_L_law) 1238 = .ok (.iaload, 1) := by decide +kernel
theorem d_L_law_1239 : decode (qMc M_L_law) 1239 = .ok (.invokevirtual 138, 3) := by decide +kernel
theorem d_L_law_1242 : decode (qMc M_L_law) 1242 = .ok (.aload_n 2, 1) := by decide +kernel
theorem d_L_law_1243 : decode (qMc M_L_law) 1243 = .ok (.aload_n 0, 1) := by decide +kernel
theorem d_L_law_1244 : decode (qMc M_L_law) 1244 = .ok (.iload_n 3, 1) := by decide +kernel
theorem d_L_law_1245 : decode (qMc M_L_law) 1245 = .ok (.iconst 1, 1) := by decide +kernel
theorem d_L_law_1246 : decode (qMc M_L_law) 1246 = .ok (.iadd, 1) := by decide +kernel
theorem d_L_law_1247 : decode (qMc M_L_law) 1247 = .ok (.iaload, 1) := by decide +kernel
theorem d_L_law_1248 : decode (qMc M_L_law) 1248 = .ok (.invokevirtual 141, 3) := by decide +kernel
theorem d_L_law_1251 : decode (qMc M_L_law) 1251 = .ok (.if_icmp .eq 500, 3) := by decide +kernel
theorem d_L_law_1254 : decode (qMc M_L_law) 1254 = .ok (.iconst 0, 1) := by decide +kernel
theorem d_L_law_1255 : decode (qMc M_L_law) 1255 = .ok (.ireturn, 1) := by decide +kernel
theorem d_L_law_1256 : decode (qMc M_L_law) 1256 = .ok (.aload_n 1, 1) := by decide +kernel
theorem d_L_law_1257 : decode (qMc M_L_law) 1257 = .ok (.aload_n 0, 1) := by decide +kernel
theorem d_L_law_1258 : decode (qMc M_L_law) 1258 = .ok (.iload_n 3, 1) := by decide +kernel
theorem d_L_law_1259 : decode (qMc M_L_law) 1259 = .ok (.iconst 1, 1) := by decide +kernel
theorem d_L_law_1260 : decode (qMc M_L_law) 1260 = .ok (.iadd, 1) := by decide +kernel
theorem d_L_law_1261 : decode (qMc M_L_law) 1261 = .ok (.iaload, 1) := by decide +kernel
theorem d_L_law_1262 : decode (qMc M_L_law) 1262 = .ok (.invokevirtual 142, 3) := by decide +kernel
theorem d_L_law_1265 : decode (qMc M_L_law) 1265 = .ok (.aload_n 2, 1) := by decide +kernel
theorem d_L_law_1266 : decode (qMc M_L_law) 1266 = .ok (.aload_n 0, 1) := by decide +kernel
theorem d_L_law_1267 : decode (qMc M_L_law) 1267 = .ok (.iload_n 3, 1) := by decide +kernel
theorem d_L_law_1268 : decode (qMc M_L_law) 1268 = .ok (.iconst 1, 1) := by decide +kernel
theorem d_L_law_1269 : decode (qMc M_L_law) 1269 = .ok (.iadd, 1) := by decide +kernel
theorem d_L_law_1270 : decode (qMc M_L_law) 1270 = .ok (.iaload, 1) := by decide +kernel
theorem d_L_law_1271 : decode (qMc M_L_law) 1271 = .ok (.invokevirtual 145, 3) := by decide +kernel
theorem d_L_law_1274 : decode (qMc M_L_law) 1274 = .ok (.if_icmp .eq 477, 3) := by decide +kernel
theorem d_L_law_1277 : decode (qMc M_L_law) 1277 = .ok (.iconst 0, 1) := by decide +kernel
theorem d_L_law_1278 : decode (qMc M_L_law) 1278 = .ok (.ireturn, 1) := by decide +kernel
theorem d_L_law_1279 : decode (qMc M_L_law) 1279 = .ok (.aload_n 1, 1) := by decide +kernel
theorem d_L_law_1280 : decode (qMc M_L_law) 1280 = .ok (.aload_n 0, 1) := by decide +kernel
theorem d_L_law_1281 : decode (qMc M_L_law) 1281 = .ok (.iload_n 3, 1) := by decide +kernel
theorem d_L_law_1282 : decode (qMc M_L_law) 1282 = .ok (.iconst 1, 1) := by decide +kernel
theorem d_L_law_1283 : decode (qMc M_L_law) 1283 = .ok (.iadd, 1) := by decide +kernel
theorem d_L_law_1284 : decode (qMc M_L_law) 1284 = .ok (.iaload, 1) := by decide +kernel
theorem d_L_law_1285 : decode (qMc M_L_law) 1285 = .ok (.aload_n 0, 1) := by decide +kernel
theorem d_L_law_1286 : decode (qMc M_L_law) 1286 = .ok (.iload_n 3, 1) := by decide +kernel
theorem d_L_law_1287 : decode (qMc M_L_law) 1287 = .ok (.iconst 2, 1) := by decide +kernel
theorem d_L_law_1288 : decode (qMc M_L_law) 1288 = .ok (.iadd, 1) := by decide +kernel
theorem d_L_law_1289 : decode (qMc M_L_law) 1289 = .ok (.iaload, 1) := by decide +kernel
theorem d_L_law_1290 : decode (qMc M_L_law) 1290 = .ok (.aload_n 0, 1) := by decide +kernel
theorem d_L_law_1291 : decode (qMc M_L_law) 1291 = .ok (.iload_n 3, 1) := by decide +kernel
theorem d_L_law_1292 : decode (qMc M_L_law) 1292 = .ok (.iconst 3, 1) := by decide +kernel
theorem d_L_law_1293 : decode (qMc M_L_law) 1293 = .ok (.iadd, 1) := by decide +kernel
theorem d_L_law_1294 : decode (qMc M_L_law) 1294 = .ok (.iaload, 1) := by decide +kernel
theorem d_L_law_1295 : decode (qMc M_L_law) 1295 = .ok (.aload_n 0, 1) := by decide +kernel
theorem d_L_law_1296 : decode (qMc M_L_law) 1296 = .ok (.iload_n 3, 1) := by decide +kernel
theorem d_L_law_1297 : decode (qMc M_L_law) 1297 = .ok (.iconst 4, 1) := by decide +kernel
theorem d_L_law_1298 : decode (qMc M_L_law) 1298 = .ok (.iadd, 1) := by decide +kernel
theorem d_L_law_1299 : decode (qMc M_L_law) 1299 = .ok (.iaload, 1) := by decide +kernel
theorem d_L_law_1300 : decode (qMc M_L_law) 1300 = .ok (.invokevirtual 146, 3) := by decide +kernel
theorem d_L_law_1303 : decode (qMc M_L_law) 1303 = .ok (.aload_n 2, 1) := by decide +kernel
theorem d_L_law_1304 : decode (qMc M_L_law) 1304 = .ok (.aload_n 0, 1) := by decide +kernel
theorem d_L_law_1305 : decode (qMc M_L_law) 1305 = .ok (.iload_n 3, 1) := by decide +kernel
theorem d_L_law_1306 : decode (qMc M_L_law) 1306 = .ok (.iconst 1, 1) := by decide +kernel
theorem d_L_law_1307 : decode (qMc M_L_law) 1307 = .ok (.iadd, 1) := by decide +kernel
theorem d_L_law_1308 : decode (qMc M_L_law) 1308 = .ok (.iaload, 1) := by decide +kernel
theorem d_L_law_1309 : decode (qMc M_L_law) 1309 = .ok (.aload_n 0, 1) := by decide +kernel
theorem d_L_law_1310 : decode (qMc M_L_law) 1310 = .ok (.iload_n 3, 1) := by decide +kernel
theorem d_L_law_1311 : decode (qMc M_L_law) 1311 = .ok (.iconst 2, 1) := by decide +kernel
theorem d_L_law_1312 : decode (qMc M_L_law) 1312 = .ok (.iadd, 1) := by decide +kernel
theorem d_L_law_1313 : decode (qMc M_L_law) 1313 = .ok (.iaload, 1) := by decide +kernel
theorem d_L_law_1314 : decode (qMc M_L_law) 1314 = .ok (.aload_n 0, 1) := by decide +kernel
theorem d_L_law_1315 : decode (qMc M_L_law) 1315 = .ok (.iload_n 3, 1) := by decide +kernel
theorem d_L_law_1316 : decode (qMc M_L_law) 1316 = .ok (.iconst 3, 1) := by decide +kernel
theorem d_L_law_1317 : decode (qMc M_L_law) 1317 = .ok (.iadd, 1) := by decide +kernel
theorem d_L_law_1318 : decode (qMc M_L_law) 1318 = .ok (.iaload, 1) := by decide +kernel
theorem d_L_law_1319 : decode (qMc M_L_law) 1319 = .ok (.aload_n 0, 1) := by decide +kernel
theorem d_L_law_1320 : decode (qMc M_L_law) 1320 = .ok (.iload_n 3, 1) := by decide +kernel
theorem d_L_law_1321 : decode (qMc M_L_law) 1321 = .ok (.iconst 4, 1) := by decide +kernel
theorem d_L_law_1322 : decode (qMc M_L_law) 1322 = .ok (.iadd, 1) := by decide +kernel
theorem d_L_law_1323 : decode (qMc M_L_law) 1323 = .ok (.iaload, 1) := by decide +kernel
theorem d_L_law_1324 : decode (qMc M_L_law) 1324 = .ok (.invokevirtual 149, 3) := by decide +kernel
theorem d_L_law_1327 : decode (qMc M_L_law) 1327 = .ok (.if_icmp .eq 424, 3) := by decide +kernel
theorem d_L_law_1330 : decode (qMc M_L_law) 1330 = .ok (.iconst 0, 1) := by decide +kernel
theorem d_L_law_1331 : decode (qMc M_L_law) 1331 = .ok (.ireturn, 1) := by decide +kernel
theorem d_L_law_1332 : decode (qMc M_L_law) 1332 = .ok (.aload_n 1, 1) := by decide +kernel
theorem d_L_law_1333 : decode (qMc M_L_law) 1333 = .ok (.aload_n 0, 1) := by decide +kernel
theorem d_L_law_1334 : decode (qMc M_L_law) 1334 = .ok (.iload_n 3, 1) := by decide +kernel
theorem d_L_law_1335 : decode (qMc M_L_law) 1335 = .ok (.iconst 1, 1) := by decide +kernel
theorem d_L_law_1336 : decode (qMc M_L_law) 1336 = .ok (.iadd, 1) := by decide +kernel
theorem d_L_law_1337 : decode (qMc M_L_law) 1337 = .ok (.iaload, 1) := by decide +kernel
theorem d_L_law_1338 : decode (qMc M_L_law) 1338 = .ok (.aload_n 0, 1) := by decide +kernel
theorem d_L_law_1339 : decode (qMc M_L_law) 1339 = .ok (.iload_n 3, 1) := by decide +kernel
theorem d_L_law_1340 : decode (qMc M_L_law) 1340 = .ok (.iconst 2, 1) := by decide +kernel
theorem d_L_law_1341 : decode (qMc M_L_law) 1341 = .ok (.iadd, 1) := by decide +kernel
theorem d_L_law_1342 : decode (qMc M_L_law) 1342 = .ok (.iaload, 1) := by decide +kernel
theorem d_L_law_1343 : decode (qMc M_L_law) 1343 = .ok (.aload_n 0, 1) := by decide +kernel
theorem d_L_law_1344 : decode (qMc M_L_law) 1344 = .ok (.iload_n 3, 1) := by decide +kernel
theorem d_L_law_1345 : decode (qMc M_L_law) 1345 = .ok (.iconst 3, 1) := by decide +kernel
theorem d_L_law_1346 : decode (qMc M_L_law) 1346 = .ok (.iadd, 1) := by decide +kernel
theorem d_L_law_1347 : decode (qMc M_L_law) 1347 = .ok (.iaload, 1) := by decide +kernel
theorem d_L_law_1348 : decode (qMc M_L_law) 1348 = .ok (.invokevirtual 150, 3) := by decide +kernel
theorem d_L_law_1351 : decode (qMc M_L_law) 1351 = .ok (.aload_n 2, 1) := by decide +kernel
theorem d_L_law_1352 : decode (qMc M_L_law) 1352 = .ok (.aload_n 0, 1) := by decide +kernel
theorem d_L_law_1353 : decode (qMc M_L_law) 1353 = .ok (.iload_n 3, 1) := by decide +kernel
theorem d_L_law_1354 : decode (qMc M_L_law) 1354 = .ok (.iconst 1, 1) := by decide +kernel
theorem d_L_law_1355 : decode (qMc M_L_law) 1355 = .ok (.iadd, 1) := by decide +kernel
theorem d_L_law_1356 : decode (qMc M_L_law) 1356 = .ok (.iaload, 1) := by decide +kernel
theorem d_L_law_1357 : decode (qMc M_L_law) 1357 = .ok (.aload_n 0, 1) := by decide +kernel
theorem d_L_law_1358 : decode (qMc M_L_law) 1358 = .ok (.iload_n 3, 1) := by decide +kernel
theorem d_L_law_1359 : decode (qMc M_L_law) 1359 = .ok (.iconst 2, 1) := by decide +kernel
theorem d_L_law_1360 : decode (qMc M_L_law) 1360 = .ok (.iadd, 1) := by decide +kernel
theorem d_L_law_1361 : decode (qMc M_L_law) 1361 = .ok (.iaload, 1) := by decide +kernel
theorem d_L_law_1362 : decode (qMc M_L_law) 1362 = .ok (.aload_n 0, 1) := by decide +kernel
theorem d_L_law_1363 : decode (qMc M_L_law) 1363 = .ok (.iload_n 3, 1) := by decide +kernel
theorem d_L_law_1364 : decode (qMc M_L_law) 1364 = .ok (.iconst 3, 1) := by decide +kernel
theorem d_L_law_1365 : decode (qMc M_L_law) 1365 = .ok (.iadd, 1) := by decide +kernel
theorem d_L_law_1366 : decode (qMc M_L_law) 1366 = .ok (.iaload, 1) := by decide +kernel
theorem d_L_law_1367 : decode (qMc M_L_law) 1367 = .ok (.invokevirtual 153, 3) := by decide +kernel
theorem d_L_law_1370 : decode (qMc M_L_law) 1370 = .ok (.if_icmp .eq 381, 3) := by decide +kernel
theorem d_L_law_1373 : decode (qMc M_L_law) 1373 = .ok (.iconst 0, 1) := by decide +kernel
theorem d_L_law_1374 : decode (qMc M_L_law) 1374 = .ok (.ireturn, 1) := by decide +kernel
theorem d_L_law_1375 : decode (qMc M_L_law) 1375 = .ok (.aload_n 1, 1) := by decide +kernel
theorem d_L_law_1376 : decode (qMc M_L_law) 1376 = .ok (.aload_n 0, 1) := by decide +kernel
theorem d_L_law_1377 : decode (qMc M_L_law) 1377 = .ok (.iload_n 3, 1) := by decide +kernel
theorem d_L_law_1378 : decode (qMc M_L_law) 1378 = .ok (.iconst 1, 1) := by decide +kernel
theorem d_L_law_1379 : decode (qMc M_L_law) 1379 = .ok (.iadd, 1) := by decide +kernel
theorem d_L_law_1380 : decode (qMc M_L_law) 1380 = .ok (.iaload, 1) := by decide +kernel
theorem d_L_law_1381 : decode (qMc M_L_law) 1381 = .ok (.aload_n 0, 1) := by decide +kernel
theorem d_L_law_1382 : decode (qMc M_L_law) 1382 = .ok (.iload_n 3, 1) := by decide +kernel
theorem d_L_law_1383 : decode (qMc M_L_law) 1383 = .ok (.iconst 2, 1) := by decide +kernel
theorem d_L_law_1384 : decode (qMc M_L_law) 1384 = .ok (.iadd, 1) := by decide +kernel
theorem d_L_law_1385 : decode (qMc M_L_law) 1385 = .ok (.iaload, 1) := by decide +kernel
theorem d_L_law_1386 : decode (qMc M_L_law) 1386 = .ok (.aload_n 0, 1) := by decide +kernel
theorem d_L_law_1387 : decode (qMc M_L_law) 1387 = .ok (.iload_n 3, 1) := by decide +kernel
theorem d_L_law_1388 : decode (qMc M_L_law) 1388 = .ok (.iconst 3, 1) := by decide +kernel
theorem d_L_law_1389 : decode (qMc M_L_law) 1389 = .ok (.iadd, 1) := by decide +kernel
theorem d_L_law_1390 : decode (qMc M_L_law) 1390 = .ok (.iaload, 1) := by decide +kernel
theorem d_L_law_1391 : decode (qMc M_L_law) 1391 = .ok (.aload_n 0, 1) := by decide +kernel
theorem d_L_law_1392 : decode (qMc M_L_law) 1392 = .ok (.iload_n 3, 1) := by decide +kernel
theorem d_L_law_1393 : decode (qMc M_L_law) 1393 = .ok (.iconst 4, 1) := by decide +kernel
theorem d_L_law_1394 : decode (qMc M_L_law) 1394 = .ok (.iadd, 1) := by decide +kernel
theorem d_L_law_1395 : decode (qMc M_L_law) 1395 = .ok (.iaload, 1) := by decide +kernel
theorem d_L_law_1396 : decode (qMc M_L_law) 1396 = .ok (.invokevirtual 154, 3) := by decide +kernel
theorem d_L_law_1399 : decode (qMc M_L_law) 1399 = .ok (.aload_n 2, 1) := by decide +kernel
theorem d_L_law_1400 : decode (qMc M_L_law) 1400 = .ok (.aload_n 0, 1) := by decide +kernel
theorem d_L_law_1401 : decode (qMc M_L_law) 1401 = .ok (.iload_n 3, 1) := by decide +kernel
theorem d_L_law_1402 : decode (qMc M_L_law) 1402 = .ok (.iconst 1, 1) := by decide +kernel
theorem d_L_law_1403 : decode (qMc M_L_law) 1403 = .ok (.iadd, 1) := by decide +kernel
theorem d_L_law_1404 : decode (qMc M_L_law) 1404 = .ok (.iaload, 1) := by decide +kernel
theorem d_L_law_1405 : decode (qMc M_L_law) 1405 = .ok (.aload_n 0, 1) := by decide +kernel
theorem d_L_law_1406 : decode (qMc M_L_law) 1406 = .ok (.iload_n 3, 1) := by decide +kernel
theorem d_L_law_1407 : decode (qMc M_L_law) 1407 = .ok (.iconst 2, 1) := by decide +kernel
theorem d_L_law_1408 : decode (qMc M_L_law) 1408 = .ok (.iadd, 1) := by decide +kernel
theorem d_L_law_1409 : decode (qMc M_L_law) 1409 = .ok (.iaload, 1) := by decide +kernel
theorem d_L_law_1410 : decode (qMc M_L_law) 1410 = .ok (.aload_n 0, 1) := by decide +kernel
theorem d_L_law_1411 : decode (qMc M_L_law) 1411 = .ok (.iload_n 3, 1) := by decide +kernel
theorem d_L_law_1412 : decode (qMc M_L_law) 1412 = .ok (.iconst 3, 1) := by decide +kernel
theorem d_L_law_1413 : decode (qMc M_L_law) 1413 = .ok (.iadd, 1) := by decide +kernel
theorem d_L_law_1414 : decode (qMc M_L_law) 1414 = .ok (.iaload, 1) := by decide +kernel
theorem d_L_law_1415 : decode (qMc M_L_law) 1415 = .ok (.aload_n 0, 1) := by decide +kernel
theorem d_L_law_1416 : decode (qMc M_L_law) 1416 = .ok (.iload_n 3, 1) := by decide +kernel
theorem d_L_law_1417 : decode (qMc M_L_law) 1417 = .ok (.iconst 4, 1) := by decide +kernel
theorem d_L_law_1418 : decode (qMc M_L_law) 1418 = .ok (.iadd, 1) := by decide +kernel
theorem d_L_law_1419 : decode (qMc M_L_law) 1419 = .ok (.iaload, 1) := by decide +kernel
theorem d_L_law_1420 : decode (qMc M_L_law) 1420 = .ok (.invokevirtual 157, 3) := by decide +kernel
theorem d_L_law_1423 : decode (qMc M_L_law) 1423 = .ok (.if_icmp .eq 328, 3) := by decide +kernel
theorem d_L_law_1426 : decode (qMc M_L_law) 1426 = .ok (.iconst 0, 1) := by decide +kernel
theorem d_L_law_1427 : decode (qMc M_L_law) 1427 = .ok (.ireturn, 1) := by decide +kernel
theorem d_L_law_1428 : decode (qMc M_L_law) 1428 = .ok (.aload_n 1, 1) := by decide +kernel
theorem d_L_law_1429 : decode (qMc M_L_law) 1429 = .ok (.aload_n 0, 1) := by decide +kernel
theorem d_L_law_1430 : decode (qMc M_L_law) 1430 = .ok (.iload_n 3, 1) := by decide +kernel
theorem d_L_law_1431 : decode (qMc M_L_law) 1431 = .ok (.iconst 1, 1) := by decide +kernel
theorem d_L_law_1432 : decode (qMc M_L_law) 1432 = .ok (.iadd, 1) := by decide +kernel
theorem d_L_law_1433 : decode (qMc M_L_law) 1433 = .ok (.iaload, 1) := by decide +kernel
theorem d_L_law_1434 : decode (qMc M_L_law) 1434 = .ok (.aload_n 0, 1) := by decide +kernel
theorem d_L_law_1435 : decode (qMc M_L_law) 1435 = .ok (.iload_n 3, 1) := by decide +kernel
theorem d_L_law_1436 : decode (qMc M_L_law) 1436 = .ok (.iconst 2, 1) := by decide +kernel
theorem d_L_law_1437 : decode (qMc M_L_law) 1437 = .ok (.iadd, 1) := by decide +kernel
theorem d_L_law_1438 : decode (qMc M_L_law) 1438 = .ok (.iaload, 1) := by decide +kernel
theorem d_L_law_1439 : decode (qMc M_L_law) 1439 = .ok (.aload_n 0, 1) := by decide +kernel
theorem d_L_law_1440 : decode (qMc M_L_law) 1440 = .ok (.iload_n 3, 1) := by decide +kernel
theorem d_L_law_1441 : decode (qMc M_L_law) 1441 = .ok (.iconst 3, 1) := by decide +kernel
theorem d_L_law_1442 : decode (qMc M_L_law) 1442 = .ok (.iadd, 1) := by decide +kernel
theorem d_L_law_1443 : decode (qMc M_L_law) 1443 = .ok (.iaload, 1) := by decide +kernel
theorem d_L_law_1444 : decode (qMc M_L_law) 1444 = .ok (.invokevirtual 158, 3) := by decide +kernel
theorem d_L_law_1447 : decode (qMc M_L_law) 1447 = .ok (.aload_n 2, 1) := by decide +kernel
theorem d_L_law_1448 : decode (qMc M_L_law) 1448 = .ok (.aload_n 0, 1) := by decide +kernel
theorem d_L_law_1449 : decode (qMc M_L_law) 1449 = .ok (.iload_n 3, 1) := by decide +kernel
theorem d_L_law_1450 : decode (qMc M_L_law) 1450 = .ok (.iconst 1, 1) := by decide +kernel
theorem d_L_law_1451 : decode (qMc M_L_law) 1451 = .ok (.iadd, 1) := by decide +kernel
theorem d_L_law_1452 : decode (qMc M_L_law) 1452 = .ok (.iaload, 1) := by decide +kernel
theorem d_L_law_1453 : decode (qMc M_L_law) 1453 = .ok (.aload_n 0, 1) := by decide +kernel
theorem d_L_law_1454 : decode (qMc M_L_law) 1454 = .ok (.iload_n 3, 1) := by decide +kernel
theorem d_L_law_1455 : decode (qMc M_L_law) 1455 = .ok (.iconst 2, 1) := by decide +kernel
theorem d_L_law_1456 : decode (qMc M_L_law) 1456 = .ok (.iadd, 1) := by decide +kernel
theorem d_L_law_1457 : decode (qMc M_L_law) 1457 = .ok (.iaload, 1) := by decide +kernel
theorem d_L_law_1458 : decode (qMc M_L_law) 1458 = .ok (.aload_n 0, 1) := by decide +kernel
theorem d_L_law_1459 : decode (qMc M_L_law) 1459 = .ok (.iload_n 3, 1) := by decide +kernel
theorem d_L_law_1460 : decode (qMc M_L_law) 1460 = .ok (.iconst 3, 1) := by decide +kernel
theorem d_L_law_1461 : decode (qMc M_L_law) 1461 = .ok (.iadd, 1) := by decide +kernel
theorem d_L_law_1462 : decode (qMc M_L_law) 1462 = .ok (.iaload, 1) := by decide +kernel
theorem d_L_law_1463 : decode (qMc M_L_law) 1463 = .ok (.invokevirtual 161, 3) := by decide +kernel
theorem d_L_law_1466 : decode (qMc M_L_law) 1466 = .ok (.if_icmp .eq 285, 3) := by decide +kernel
theorem d_L_law_1469 : decode (qMc M_L_law) 1469 = .ok (.iconst 0, 1) := by decide +kernel
theorem d_L_law_1470 : decode (qMc M_L_law) 1470 = .ok (.ireturn, 1) := by decide +kernel
theorem d_L_law_1471 : decode (qMc M_L_law) 1471 = .ok (.aload_n 1, 1) := by decide +kernel
theorem d_L_law_1472 : decode (qMc M_L_law) 1472 = .ok (.aload_n 0, 1) := by decide +kernel
theorem d_L_law_1473 : decode (qMc M_L_law) 1473 = .ok (.iload_n 3, 1) := by decide +kernel
theorem d_L_law_1474 : decode (qMc M_L_law) 1474 = .ok (.iconst 1, 1) := by decide +kernel
theorem d_L_law_1475 : decode (qMc M_L_law) 1475 = .ok (.iadd, 1) := by decide +kernel
theorem d_L_law_1476 : decode (qMc M_L_law) 1476 = .ok (.iaload, 1) := by decide +kernel
theorem d_L_law_1477 : decode (qMc M_L_law) 1477 = .ok (.aload_n 0, 1) := by decide +kernel
theorem d_L_law_1478 : decode (qMc M_L_law) 1478 = .ok (.iload_n 3, 1) := by decide +kernel
theorem d_L_law_1479 : decode (qMc M_L_law) 1479 = .ok (.iconst 2, 1) := by decide +kernel
theorem d_L_law_1480 : decode (qMc M_L_law) 1480 = .ok (.iadd, 1) := by decide +kernel
theorem d_L_law_1481 : decode (qMc M_L_law) 1481 = .ok (.iaload, 1) := by decide +kernel
theorem d_L_law_1482 : decode (qMc M_L_law) 1482 = .ok (.aload_n 0, 1) := by decide +kernel
theorem d_L_law_1483 : decode (qMc M_L_law) 1483 = .ok (.iload_n 3, 1) := by decide +kernel
theorem d_L_law_1484 : decode (qMc M_L_law) 1484 = .ok (.iconst 3, 1) := by decide +kernel
theorem d_L_law_1485 : decode (qMc M_L_law) 1485 = .ok (.iadd, 1) := by decide +kernel
theorem d_L_law_1486 : decode (qMc M_L_law) 1486 = .ok (.iaload, 1) := by decide +kernel
theorem d_L_law_1487 : decode (qMc M_L_law) 1487 = .ok (.invokevirtual 162, 3) := by decide +kernel
theorem d_L_law_1490 : decode (qMc M_L_law) 1490 = .ok (.aload_n 2, 1) := by decide +kernel
theorem d_L_law_1491 : decode (qMc M_L_law) 1491 = .ok (.aload_n 0, 1) := by decide +kernel
theorem d_L_law_1492 : decode (qMc M_L_law) 1492 = .ok (.iload_n 3, 1) := by decide +kernel
theorem d_L_law_1493 : decode (qMc M_L_law) 1493 = .ok (.iconst 1, 1) := by decide +kernel
theorem d_L_law_1494 : decode (qMc M_L_law) 1494 = .ok (.iadd, 1) := by decide +kernel
theorem d_L_law_1495 : decode (qMc M_L_law) 1495 = .ok (.iaload, 1) := by decide +kernel
theorem d_L_law_1496 : decode (qMc M_L_law) 1496 = .ok (.aload_n 0, 1) := by decide +kernel
theorem d_L_law_1497 : decode (qMc M_L_law) 1497 = .ok (.iload_n 3, 1) := by decide +kernel
theorem d_L_law_1498 : decode (qMc M_L_law) 1498 = .ok (.iconst 2, 1) := by decide +kernel
theorem d_L_law_1499 : decode (qMc M_L_law) 1499 = .ok (.iadd, 1) := by decide +kernel
theorem d_L_law_1500 : decode (qMc M_L_law) 1500 = .ok (.iaload, 1) := by decide +kernel
theorem d_L_law_1501 : decode (qMc M_L_law) 1501 = .ok (.aload_n 0, 1) := by decide +kernel
theorem d_L_law_1502 : decode (qMc M_L_law) 1502 = .ok (.iload_n 3, 1) := by decide +kernel
theorem d_L_law_1503 : decode (qMc M_L_law) 1503 = .ok (.iconst 3, 1) := by decide +kernel
theorem d_L_law_1504 : decode (qMc M_L_law) 1504 = .ok (.iadd, 1) := by decide +kernel
theorem d_L_law_1505 : decode (qMc M_L_law) 1505 = .ok (.iaload, 1) := by decide +kernel
theorem d_L_law_1506 : decode (qMc M_L_law) 1506 = .ok (.invokevirtual 165, 3) := by decide +kernel
theorem d_L_law_1509 : decode (qMc M_L_law) 1509 = .ok (.if_icmp .eq 242, 3) := by decide +kernel
theorem d_L_law_1512 : decode (qMc M_L_law) 1512 = .ok (.iconst 0, 1) := by decide +kernel
theorem d_L_law_1513 : decode (qMc M_L_law) 1513 = .ok (.ireturn, 1) := by decide +kernel
theorem d_L_law_1514 : decode (qMc M_L_law) 1514 = .ok (.aload_n 1, 1) := by decide +kernel
theorem d_L_law_1515 : decode (qMc M_L_law) 1515 = .ok (.aload_n 0, 1) := by decide +kernel
theorem d_L_law_1516 : decode (qMc M_L_law) 1516 = .ok (.iload_n 3, 1) := by decide +kernel
theorem d_L_law_1517 : decode (qMc M_L_law) 1517 = .ok (.iconst 1, 1) := by decide +kernel
theorem d_L_law_1518 : decode (qMc M_L_law) 1518 = .ok (.iadd, 1) := by decide +kernel
theorem d_L_law_1519 : decode (qMc M_L_law) 1519 = .ok (.iaload, 1) := by decide +kernel
theorem d_L_law_1520 : decode (qMc M_L_law) 1520 = .ok (.aload_n 0, 1) := by decide +kernel
theorem d_L_law_1521 : decode (qMc M_L_law) 1521 = .ok (.iload_n 3, 1) := by decide +kernel
theorem d_L_law_1522 : decode (qMc M_L_law) 1522 = .ok (.iconst 2, 1) := by decide +kernel
theorem d_L_law_1523 : decode (qMc M_L_law) 1523 = .ok (.iadd, 1) := by decide +kernel
theorem d_L_law_1524 : decode (qMc M_L_law) 1524 = .ok (.iaload, 1) := by decide +kernel
theorem d_L_law_1525 : decode (qMc M_L_law) 1525 = .ok (.aload_n 0, 1) := by decide +kernel
theorem d_L_law_1526 : decode (qMc M_L_law) 1526 = .ok (.iload_n 3, 1) := by decide +kernel
theorem d_L_law_1527 : decode (qMc M_L_law) 1527 = .ok (.iconst 3, 1) := by decide +kernel
theorem d_L_law_1528 : decode (qMc M_L_law) 1528 = .ok (.iadd, 1) := by decide +kernel
theorem d_L_law_1529 : decode (qMc M_L_law) 1529 = .ok (.iaload, 1) := by decide +kernel
theorem d_L_law_1530 : decode (qMc M_L_law) 1530 = .ok (.aload_n 0, 1) := by decide +kernel
theorem d_L_law_1531 : decode (qMc M_L_law) 1531 = .ok (.iload_n 3, 1) := by decide +kernel
theorem d_L_law_1532 : decode (qMc M_L_law) 1532 = .ok (.iconst 4, 1) := by decide +kernel
theorem d_L_law_1533 : decode (qMc M_L_law) 1533 = .ok (.iadd, 1) := by decide +kernel
theorem d_L_law_1534 : decode (qMc M_L_law) 1534 = .ok (.iaload, 1) := by decide +kernel
theorem d_L_law_1535 : decode (qMc M_L_law) 1535 = .ok (.invokevirtual 166, 3) := by decide +kernel
theorem d_L_law_1538 : decode (qMc M_L_law) 1538 = .ok (.aload_n 2, 1) := by decide +kernel
theorem d_L_law_1539 : decode (qMc M_L_law) 1539 = .ok (.aload_n 0, 1) := by decide +kernel
theorem d_L_law_1540 : decode (qMc M_L_law) 1540 = .ok (.iload_n 3, 1) := by decide +kernel
theorem d_L_law_1541 : decode (qMc M_L_law) 1541 = .ok (.iconst 1, 1) := by decide +kernel
theorem d_L_law_1542 : decode (qMc M_L_law) 1542 = .ok (.iadd, 1) := by decide +kernel
theorem d_L_law_1543 : decode (qMc M_L_law) 1543 = .ok (.iaload, 1) := by decide +kernel
theorem d_L_law_1544 : decode (qMc M_L_law) 1544 = .ok (.aload_n 0, 1) := by decide +kernel
theorem d_L_law_1545 : decode (qMc M_L_law) 1545 = .ok (.iload_n 3, 1) := by decide +kernel
theorem d_L_law_1546 : decode (qMc M_L_law) 1546 = .ok (.iconst 2, 1) := by decide +kernel
theorem d_L_law_1547 : decode (qMc M_L_law) 1547 = .ok (.iadd, 1) := by decide +kernel
theorem d_L_law_1548 : decode (qMc M_L_law) 1548 = .ok (.iaload, 1) := by decide +kernel
theorem d_L_law_1549 : decode (qMc M_L_law) 1549 = .ok (.aload_n 0, 1) := by decide +kernel
theorem d_L_law_1550 : decode (qMc M_L_law) 1550 = .ok (.iload_n 3, 1) := by decide +kernel
theorem d_L_law_1551 : decode (qMc M_L_law) 1551 = .ok (.iconst 3, 1) := by decide +kernel
theorem d_L_law_1552 : decode (qMc M_L_law) 1552 = .ok (.iadd, 1) := by decide +kernel
theorem d_L_law_1553 : decode (qMc M_L_law) 1553 = .ok (.iaload, 1) := by decide +kernel
theorem d_L_law_1554 : decode (qMc M_L_law) 1554 = .ok (.aload_n 0, 1) := by decide +kernel
theorem d_L_law_1555 : decode (qMc M_L_law) 1555 = .ok (.iload_n 3, 1) := by decide +kernel
theorem d_L_law_1556 : decode (qMc M_L_law) 1556 = .ok (.iconst 4, 1) := by decide +kernel
theorem d_L_law_1557 : decode (qMc M_L_law) 1557 = .ok (.iadd, 1) := by decide +kernel
theorem d_L_law_1558 : decode (qMc M_L_law) 1558 = .ok (.iaload, 1) := by decide +kernel
theorem d_L_law_1559 : decode (qMc M_L_law) 1559 = .ok (.invokevirtual 169, 3) := by decide +kernel
theorem d_L_law_1562 : decode (qMc M_L_law) 1562 = .ok (.if_icmp .eq 189, 3) := by decide +kernel
theorem d_L_law_1565 : decode (qMc M_L_law) 1565 = .ok (.iconst 0, 1) := by decide +kernel
theorem d_L_law_1566 : decode (qMc M_L_law) 1566 = .ok (.ireturn, 1) := by decide +kernel
theorem d_L_law_1567 : decode (qMc M_L_law) 1567 = .ok (.aload_n 1, 1) := by decide +kernel
theorem d_L_law_1568 : decode (qMc M_L_law) 1568 = .ok (.aload_n 0, 1) := by decide +kernel
theorem d_L_law_1569 : decode (qMc M_L_law) 1569 = .ok (.iload_n 3, 1) := by decide +kernel
theorem d_L_law_1570 : decode (qMc M_L_law) 1570 = .ok (.iconst 1, 1) := by decide +kernel
theorem d_L_law_1571 : decode (qMc M_L_law) 1571 = .ok (.iadd, 1) := by decide +kernel
theorem d_L_law_1572 : decode (qMc M_L_law) 1572 = .ok (.iaload, 1) := by decide +kernel
theorem d_L_law_1573 : decode (qMc M_L_law) 1573 = .ok (.aload_n 0, 1) := by decide +kernel
theorem d_L_law_1574 : decode (qMc M_L_law) 1574 = .ok (.iload_n 3, 1) := by decide +kernel
theorem d_L_law_1575 : decode (qMc M_L_law) 1575 = .ok (.iconst 2, 1) := by decide +kernel
theorem d_L_law_1576 : decode (qMc M_L_law) 1576 = .ok (.iadd, 1) := by decide +kernel
theorem d_L_law_1577 : decode (qMc M_L_law) 1577 = .ok (.iaload, 1) := by decide +kernel
theorem d_L_law_1578 : decode (qMc M_L_law) 1578 = .ok (.invokevirtual 170, 3) := by decide +kernel
theorem d_L_law_1581 : decode (qMc M_L_law) 1581 = .ok (.aload_n 2, 1) := by decide +kernel
theorem d_L_law_1582 : decode (qMc M_L_law) 1582 = .ok (.aload_n 0, 1) := by decide +kernel
theorem d_L_law_1583 : decode (qMc M_L_law) 1583 = .ok (.iload_n 3, 1) := by decide +kernel
theorem d_L_law_1584 : decode (qMc M_L_law) 1584 = .ok (.iconst 1, 1) := by decide +kernel
theorem d_L_law_1585 : decode (qMc M_L_law) 1585 = .ok (.iadd, 1) := by decide +kernel
theorem d_L_law_1586 : decode (qMc M_L_law) 1586 = .ok (.iaload, 1) := by decide +kernel
theorem d_L_law_1587 : decode (qMc M_L_law) 1587 = .ok (.aload_n 0, 1) := by decide +kernel
theorem d_L_law_1588 : decode (qMc M_L_law) 1588 = .ok (.iload_n 3, 1) := by decide +kernel
theorem d_L_law_1589 : decode (qMc M_L_law) 1589 = .ok (.iconst 2, 1) := by decide +kernel
theorem d_L_law_1590 : decode (qMc M_L_law) 1590 = .ok (.iadd, 1) := by decide +kernel
theorem d_L_law_1591 : decode (qMc M_L_law) 1591 = .ok (.iaload, 1) := by decide +kernel
theorem d_L_law_1592 : decode (qMc M_L_law) 1592 = .ok (.invokevirtual 173, 3) := by decide +kernel
theorem d_L_law_1595 : decode (qMc M_L_law) 1595 = .ok (.if_icmp .eq 156, 3) := by decide +kernel
theorem d_L_law_1598 : decode (qMc M_L_law) 1598 = .ok (.iconst 0, 1) := by decide +kernel
theorem d_L_law_1599 : decode (qMc M_L_law) 1599 = .ok (.ireturn, 1) := by decide +kernel
theorem d_L_law_1600 : decode (qMc M_L_law) 1600 = .ok (.aload_n 1, 1) := by decide +kernel
theorem d_L_law_1601 : decode (qMc M_L_law) 1601 = .ok (.aload_n 0, 1) := by decide +kernel
theorem d_L_law_1602 : decode (qMc M_L_law) 1602 = .ok (.iload_n 3, 1) := by decide +kernel
theorem d_L_law_1603 : decode (qMc M_L_law) 1603 = .ok (.iconst 1, 1) := by decide +kernel
theorem d_L_law_1604 : decode (qMc M_L_law) 1604 = .ok (.iadd, 1) := by decide +kernel
theorem d_L_law_1605 : decode (qMc M_L_law) 1605 = .ok (.iaload, 1) := by decide +kernel
theorem d_L_law_1606 : decode (qMc M_L_law) 1606 = .ok (.aload_n 0, 1) := by decide +kernel
theorem d_L_law_1607 : decode (qMc M_L_law) 1607 = .ok (.iload_n 3, 1) := by decide +kernel
theorem d_L_law_1608 : decode (qMc M_L_law) 1608 = .ok (.iconst 2, 1) := by decide +kernel
theorem d_L_law_1609 : decode (qMc M_L_law) 1609 = .ok (.iadd, 1) := by decide +kernel
theorem d_L_law_1610 : decode (qMc M_L_law) 1610 = .ok (.iaload, 1) := by decide +kernel
theorem d_L_law_1611 : decode (qMc M_L_law) 1611 = .ok (.invokevirtual 174, 3) := by decide +kernel
theorem d_L_law_1614 : decode (qMc M_L_law) 1614 = .ok (.aload_n 2, 1) := by decide +kernel
theorem d_L_law_1615 : decode (qMc M_L_law) 1615 = .ok (.aload_n 0, 1) := by decide +kernel
theorem d_L_law_1616 : decode (qMc M_L_law) 1616 = .ok (.iload_n 3, 1) := by decide +kernel
theorem d_L_law_1617 : decode (qMc M_L_law) 1617 = .ok (.iconst 1, 1) := by decide +kernel
theorem d_L_law_1618 : decode (qMc M_L_law) 1618 = .ok (.iadd, 1) := by decide +kernel
theorem d_L_law_1619 : decode (qMc M_L_law) 1619 = .ok (.iaload, 1) := by decide +kernel
theorem d_L_law_1620 : decode (qMc M_L_law) 1620 = .ok (.aload_n 0, 1) := by decide +kernel
theorem d_L_law_1621 : decode (qMc M_L_law) 1621 = .ok (.iload_n 3, 1) := by decide +kernel
theorem d_L_law_1622 : decode (qMc M_L_law) 1622 = .ok (.iconst 2, 1) := by decide +kernel
theorem d_L_law_1623 : decode (qMc M_L_law) 1623 = .ok (.iadd, 1) := by decide +kernel
theorem d_L_law_1624 : decode (qMc M_L_law) 1624 = .ok (.iaload, 1) := by decide +kernel
theorem d_L_law_1625 : decode (qMc M_L_law) 1625 = .ok (.invokevirtual 177, 3) := by decide +kernel
theorem d_L_law_1628 : decode (qMc M_L_law) 1628 = .ok (.if_icmp .eq 123, 3) := by decide +kernel
theorem d_L_law_1631 : decode (qMc M_L_law) 1631 = .ok (.iconst 0, 1) := by decide +kernel
theorem d_L_law_1632 : decode (qMc M_L_law) 1632 = .ok (.ireturn, 1) := by decide +kernel
theorem d_L_law_1633 : decode (qMc M_L_law) 1633 = .ok (.aload_n 1, 1) := by decide +kernel
theorem d_L_law_1634 : decode (qMc M_L_law) 1634 = .ok (.aload_n 0, 1) := by decide +kernel
theorem d_L_law_1635 : decode (qMc M_L_law) 1635 = .ok (.iload_n 3, 1) := by decide +kernel
theorem d_L_law_1636 : decode (qMc M_L_law) 1636 = .ok (.iconst 1, 1) := by decide +kernel
theorem d_L_law_1637 : decode (qMc M_L_law) 1637 = .ok (.iadd, 1) := by decide +kernel
theorem d_L_law_1638 : decode (qMc M_L_law) 1638 = .ok (.iaload, 1) := by decide +kernel
theorem d_L_law_1639 : decode (qMc M_L_law) 1639 = .ok (.aload_n 0, 1) := by decide +kernel
theorem d_L_law_1640 : decode (qMc M_L_law) 1640 = .ok (.iload_n 3, 1) := by decide +kernel
theorem d_L_law_1641 : decode (qMc M_L_law) 1641 = .ok (.iconst 2, 1) := by decide +kernel
theorem d_L_law_1642 : decode (qMc M_L_law) 1642 = .ok (.iadd, 1) := by decide +kernel
theorem d_L_law_1643 : decode (qMc M_L_law) 1643 = .ok (.iaload, 1) := by decide +kernel
theorem d_L_law_1644 : decode (qMc M_L_law) 1644 = .ok (.aload_n 0, 1) := by decide +kernel
theorem d_L_law_1645 : decode (qMc M_L_law) 1645 = .ok (.iload_n 3, 1) := by decide +kernel
theorem d_L_law_1646 : decode (qMc M_L_law) 1646 = .ok (.iconst 3, 1) := by decide +kernel
theorem d_L_law_1647 : decode (qMc M_L_law) 1647 = .ok (.iadd, 1) := by decide +kernel
theorem d_L_law_1648 : decode (qMc M_L_law) 1648 = .ok (.iaload, 1) := by decide +kernel
theorem d_L_law_1649 : decode (qMc M_L_law) 1649 = .ok (.invokevirtual 178, 3) := by decide +kernel
theorem d_L_law_1652 : decode (qMc M_L_law) 1652 = .ok (.aload_n 2, 1) := by decide +kernel
theorem d_L_law_1653 : decode (qMc M_L_law) 1653 = .ok (.aload_n 0, 1) := by decide +kernel
theorem d_L_law_1654 : decode (qMc M_L_law) 1654 = .ok (.iload_n 3, 1) := by decide +kernel
theorem d_L_law_1655 : decode (qMc M_L_law) 1655 = .ok (.iconst 1, 1) := by decide +kernel
theorem d_L_law_1656 : decode (qMc M_L_law) 1656 = .ok (.iadd, 1) := by decide +kernel
theorem d_L_law_1657 : decode (qMc M_L_law) 1657 = .ok (.iaload, 1) := by decide +kernel
theorem d_L_law_1658 : decode (qMc M_L_law) 1658 = .ok (.aload_n 0, 1) := by decide +kernel
theorem d_L_law_1659 : decode (qMc M_L_law) 1659 = .ok (.iload_n 3, 1) := by decide +kernel
theorem d_L_law_1660 : decode (qMc M_L_law) 1660 = .ok (.iconst 2, 1) := by decide +kernel
theorem d_L_law_1661 : decode (qMc M_L_law) 1661 = .ok (.iadd, 1) := by decide +kernel
theorem d_L_law_1662 : decode (qMc M_L_law) 1662 = .ok (.iaload, 1) := by decide +kernel
theorem d_L_law_1663 : decode (qMc M_L_law) 1663 = .ok (.aload_n 0, 1) := by decide +kernel
theorem d_L_law_1664 : decode (qMc M_L_law) 1664 = .ok (.iload_n 3, 1) := by decide +kernel
theorem d_L_law_1665 : decode (qMc M_L_law) 1665 = .ok (.iconst 3, 1) := by decide +kernel
theorem d_L_law_1666 : decode (qMc M_L_law) 1666 = .ok (.iadd, 1) := by decide +kernel
theorem d_L_law_1667 : decode (qMc M_L_law) 1667 = .ok (.iaload, 1) := by decide +kernel
theorem d_L_law_1668 : decode (qMc M_L_law) 1668 = .ok (.invokevirtual 181, 3) := by decide +kernel
theorem d_L_law_1671 : decode (qMc M_L_law) 1671 = .ok (.if_icmp .eq 80, 3) := by decide +kernel
theorem d_L_law_1674 : decode (qMc M_L_law) 1674 = .ok (.iconst 0, 1) := by decide +kernel
theorem d_L_law_1675 : decode (qMc M_L_law) 1675 = .ok (.ireturn, 1) := by decide +kernel
theorem d_L_law_1676 : decode (qMc M_L_law) 1676 = .ok (.aload_n 1, 1) := by decide +kernel
theorem d_L_law_1677 : decode (qMc M_L_law) 1677 = .ok (.invokevirtual 182, 3) := by decide +kernel
theorem d_L_law_1680 : decode (qMc M_L_law) 1680 = .ok (.aload_n 2, 1) := by decide +kernel
theorem d_L_law_1681 : decode (qMc M_L_law) 1681 = .ok (.invokevirtual 186, 3) := by decide +kernel
theorem d_L_law_1684 : decode (qMc M_L_law) 1684 = .ok (.if_icmp .eq 67, 3) := by decide +kernel
theorem d_L_law_1687 : decode (qMc M_L_law) 1687 = .ok (.iconst 0, 1) := by decide +kernel
theorem d_L_law_1688 : decode (qMc M_L_law) 1688 = .ok (.ireturn, 1) := by decide +kernel
theorem d_L_law_1689 : decode (qMc M_L_law) 1689 = .ok (.aload_n 1, 1) := by decide +kernel
theorem d_L_law_1690 : decode (qMc M_L_law) 1690 = .ok (.aload_n 0, 1) := by decide +kernel
theorem d_L_law_1691 : decode (qMc M_L_law) 1691 = .ok (.iload_n 3, 1) := by decide +kernel
theorem d_L_law_1692 : decode (qMc M_L_law) 1692 = .ok (.iconst 1, 1) := by decide +kernel
theorem d_L_law_1693 : decode (qMc M_L_law) 1693 = .ok (.iadd, 1) := by decide +kernel
theorem d_L_law_1694 : decode (qMc M_L_law) 1694 = .ok (.iaload, 1) := by decide +kernel
theorem d_L_law_1695 : decode (qMc M_L_law) 1695 = .ok (.ifCond .eq 7, 3) := by decide +kernel
theorem d_L_law_1698 : decode (qMc M_L_law) 1698 = .ok (.iconst 1, 1) := by decide +kernel
theorem d_L_law_1699 : decode (qMc M_L_law) 1699 = .ok (.goto 4, 3) := by decide +kernel
theorem d_L_law_1702 : decode (qMc M_L_law) 1702 = .ok (.iconst 0, 1) := by decide +kernel
theorem d_L_law_1703 : decode (qMc M_L_law) 1703 = .ok (.invokevirtual 187, 3) := by decide +kernel
theorem d_L_law_1706 : decode (qMc M_L_law) 1706 = .ok (.aload_n 2, 1) := by decide +kernel
theorem d_L_law_1707 : decode (qMc M_L_law) 1707 = .ok (.aload_n 0, 1) := by decide +kernel
theorem d_L_law_1708 : decode (qMc M_L_law) 1708 = .ok (.iload_n 3, 1) := by decide +kernel
theorem d_L_law_1709 : decode (qMc M_L_law) 1709 = .ok (.iconst 1, 1) := by decide +kernel
theorem d_L_law_1710 : decode (qMc M_L_law) 1710 = .ok (.iadd, 1) := by decide +kernel
theorem d_L_law_1711 : decode (qMc M_L_law) 1711 = .ok (.iaload, 1) := by decide +kernel
theorem d_L_law_1712 : decode (qMc M_L_law) 1712 = .ok (.ifCond .eq 7, 3) := by decide +kernel
theorem d_L_law_1715 : decode (qMc M_L_law) 1715 = .ok (.iconst 1, 1) := by decide +kernel
theorem d_L_law_1716 : decode (qMc M_L_law) 1716 = .ok (.goto 4, 3) := by decide +kernel
theorem d_L_law_1719 : decode (qMc M_L_law) 1719 = .ok (.iconst 0, 1) := by decide +kernel
theorem d_L_law_1720 : decode (qMc M_L_law) 1720 = .ok (.invokevirtual 191, 3) := by decide +kernel
theorem d_L_law_1723 : decode (qMc M_L_law) 1723 = .ok (.if_icmp .eq 28, 3) := by decide +kernel
theorem d_L_law_1726 : decode (qMc M_L_law) 1726 = .ok (.iconst 0, 1) := by decide +kernel
theorem d_L_law_1727 : decode (qMc M_L_law) 1727 = .ok (.ireturn, 1) := by decide +kernel
theorem d_L_law_1728 : decode (qMc M_L_law) 1728 = .ok (.aload_n 1, 1) := by decide +kernel
theorem d_L_law_1729 : decode (qMc M_L_law) 1729 = .ok (.aload_n 0, 1) := by decide +kernel
theorem d_L_law_1730 : decode (qMc M_L_law) 1730 = .ok (.iload_n 3, 1) := by decide +kernel
theorem d_L_law_1731 : decode (qMc M_L_law) 1731 = .ok (.iconst 1, 1) := by decide +kernel
theorem d_L_law_1732 : decode (qMc M_L_law) 1732 = .ok (.iadd, 1) := by decide +kernel
theorem d_L_law_1733 : decode (qMc M_L_law) 1733 = .ok (.iaload, 1) := by decide +kernel
theorem d_L_law_1734 : decode (qMc M_L_law) 1734 = .ok (.invokevirtual 192, 3) := by decide +kernel
theorem d_L_law_1737 : decode (qMc M_L_law) 1737 = .ok (.aload_n 2, 1) := by decide +kernel
theorem d_L_law_1738 : decode (qMc M_L_law) 1738 = .ok (.aload_n 0, 1) := by decide +kernel
theorem d_L_law_1739 : decode (qMc M_L_law) 1739 = .ok (.iload_n 3, 1) := by decide +kernel
theorem d_L_law_1740 : decode (qMc M_L_law) 1740 = .ok (.iconst 1, 1) := by decide +kernel
theorem d_L_law_1741 : decode (qMc M_L_law) 1741 = .ok (.iadd, 1) := by decide +kernel
theorem d_L_law_1742 : decode (qMc M_L_law) 1742 = .ok (.iaload, 1) := by decide +kernel
theorem d_L_law_1743 : decode (qMc M_L_law) 1743 = .ok (.invokevirtual 195, 3) := by decide +kernel
theorem d_L_law_1746 : decode (qMc M_L_law) 1746 = .ok (.if_icmp .eq 5, 3) := by decide +kernel
theorem d_L_law_1749 : decode (qMc M_L_law) 1749 = .ok (.iconst 0, 1) := by decide +kernel
theorem d_L_law_1750 : decode (qMc M_L_law) 1750 = .ok (.ireturn, 1) := by decide +kernel
theorem d_L_law_1751 : decode (qMc M_L_law) 1751 = .ok (.iinc 3 6, 3) := by decide +kernel
theorem d_L_law_1754 : decode (qMc M_L_law) 1754 = .ok (.goto (-1736), 3) := by decide +kernel
theorem d_L_law_1757 : decode (qMc M_L_law) 1757 = .ok (.iconst 1, 1) := by decide +kernel
theorem d_L_law_1758 : decode (qMc M_L_law) 1758 = .ok (.ireturn, 1) := by decide +kernel
