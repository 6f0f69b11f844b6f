theorem d_X4_passOr_0 : decode (qMc M_X4_passOr) 0 = .ok (.aload_n 0, 1) := by decide +kernel
theorem d_X4_passOr_1 : decode (qMc M_X4_passOr) 1 = .ok (.getfield 31, 3) := by decide +kernel
theorem d_X4_passOr_4 : decode (qMc M_X4_passOr) 4 = .ok (.iload_n 1, 1) := by decide +kernel
theorem d_X4_passOr_5 : decode (qMc M_X4_passOr) 5 = .ok (.if_icmp .ne 7, 3) := by decide +kernel
theorem d_X4_passOr_8 : decode (qMc M_X4_passOr) 8 = .ok (.iload_n 2, 1) := by decide +kernel
theorem d_X4_passOr_9 : decode (qMc M_X4_passOr) 9 = .ok (.goto 10, 3) := by decide +kernel
theorem d_X4_passOr_12 : decode (qMc M_X4_passOr) 12 = .ok (.aload_n 0, 1) := by decide +kernel
theorem d_X4_passOr_13 : decode (qMc M_X4_passOr) 13 = .ok (.iconst 0, 1) := by decide +kernel
theorem d_X4_passOr_14 : decode (qMc M_X4_passOr) 14 = .ok (.bipush 7, 2) := by decide +kernel
theorem d_X4_passOr_16 : decode (qMc M_X4_passOr) 16 = .ok (.invokevirtual 117, 3) := by decide +kernel
theorem d_X4_passOr_19 : decode (qMc M_X4_passOr) 19 = .ok (.istore_n 3, 1) := by decide +kernel
theorem d_X4_passOr_20 : decode (qMc M_X4_passOr) 20 = .ok (.iload_n 3, 1) := by decide +kernel
theorem d_X4_passOr_21 : decode (qMc M_X4_passOr) 21 = .ok (.iconst (-1), 1) := by decide +kernel
theorem d_X4_passOr_22 : decode (qMc M_X4_passOr) 22 = .ok (.if_icmp .eq 7, 3) := by decide +kernel
theorem d_X4_passOr_25 : decode (qMc M_X4_passOr) 25 = .ok (.aload_n 0, 1) := by decide +kernel
theorem d_X4_passOr_26 : decode (qMc M_X4_passOr) 26 = .ok (.invokevirtual 114, 3) := by decide +kernel
theorem d_X4_passOr_29 : decode (qMc M_X4_passOr) 29 = .ok (.iload_n 3, 1) := by decide +kernel
theorem d_X4_passOr_30 : decode (qMc M_X4_passOr) 30 = .ok (.ireturn, 1) := by decide +kernel
theorem d_X4_readPlan_0 : decode (qMc M_X4_readPlan) 0 = .ok (.iconst 0, 1) := by decide +kernel
theorem d_X4_readPlan_1 : decode (qMc M_X4_readPlan) 1 = .ok (.istore_n 1, 1) := by decide +kernel
theorem d_X4_readPlan_2 : decode (qMc M_X4_readPlan) 2 = .ok (.iload_n 1, 1) := by decide +kernel
theorem d_X4_readPlan_3 : decode (qMc M_X4_readPlan) 3 = .ok (.bipush 16, 2) := by decide +kernel
theorem d_X4_readPlan_5 : decode (qMc M_X4_readPlan) 5 = .ok (.if_icmp .gt 25, 3) := by decide +kernel
theorem d_X4_readPlan_8 : decode (qMc M_X4_readPlan) 8 = .ok (.aload_n 0, 1) := by decide +kernel
theorem d_X4_readPlan_9 : decode (qMc M_X4_readPlan) 9 = .ok (.getfield 31, 3) := by decide +kernel
theorem d_X4_readPlan_12 : decode (qMc M_X4_readPlan) 12 = .ok (.ifCond .eq 18, 3) := by decide +kernel
theorem d_X4_readPlan_15 : decode (qMc M_X4_readPlan) 15 = .ok (.aload_n 0, 1) := by decide +kernel
theorem d_X4_readPlan_16 : decode (qMc M_X4_readPlan) 16 = .ok (.invokevirtual 144, 3) := by decide +kernel
theorem d_X4_readPlan_19 : decode (qMc M_X4_readPlan) 19 = .ok (.ifCond .ne 5, 3) := by decide +kernel
theorem d_X4_readPlan_22 : decode (qMc M_X4_readPlan) 22 = .ok (.iconst 0, 1) := by decide +kernel
theorem d_X4_readPlan_23 : decode (qMc M_X4_readPlan) 23 = .ok (.ireturn, 1) := by decide +kernel
theorem d_X4_readPlan_24 : decode (qMc M_X4_readPlan) 24 = .ok (.iinc 1 1, 3) := by decide +kernel
theorem d_X4_readPlan_27 : decode (qMc M_X4_readPlan) 27 = .ok (.goto (-25), 3) := by decide +kernel
theorem d_X4_readPlan_30 : decode (qMc M_X4_readPlan) 30 = .ok (.iconst 1, 1) := by decide +kernel
theorem d_X4_readPlan_31 : decode (qMc M_X4_readPlan) 31 = .ok (.ireturn, 1) := by decide +kernel
theorem d_X4_readPlanLine_0 : decode (qMc M_X4_readPlanLine) 0 = .ok (.aload_n 0, 1) := by decide +kernel
theorem d_X4_readPlanLine_1 : decode (qMc M_X4_readPlanLine) 1 = .ok (.getfield 31, 3) := by decide +kernel
theorem d_X4_readPlanLine_4 : decode (qMc M_X4_readPlanLine) 4 = .ok (.bipush 10, 2) := by decide +kernel
theorem d_X4_readPlanLine_6 : decode (qMc M_X4_readPlanLine) 6 = .ok (.if_icmp .ne 19, 3) := by decide +kernel
theorem d_X4_readPlanLine_9 : decode (qMc M_X4_readPlanLine) 9 = .ok (.aload_n 0, 1) := by decide +kernel
theorem d_X4_readPlanLine_10 : decode (qMc M_X4_readPlanLine) 10 = .ok (.getfield 52, 3) := by decide +kernel
theorem d_X4_readPlanLine_13 : decode (qMc M_X4_readPlanLine) 13 = .ok (.invokevirtual 147, 3) := by decide +kernel
theorem d_X4_readPlanLine_16 : decode (qMc M_X4_readPlanLine) 16 = .ok (.ifCond .eq 9, 3) := by decide +kernel
theorem d_X4_readPlanLine_19 : decode (qMc M_X4_readPlanLine) 19 = .ok (.aload_n 0, 1) := by decide +kernel
theorem d_X4_readPlanLine_20 : decode (qMc M_X4_readPlanLine) 20 = .ok (.iconst 3, 1) := by decide +kernel
theorem d_X4_readPlanLine_21 : decode (qMc M_X4_readPlanLine) 21 = .ok (.invokevirtual 111, 3) := by decide +kernel
theorem d_X4_readPlanLine_24 : decode (qMc M_X4_readPlanLine) 24 = .ok (.ireturn, 1) := by decide +kernel
theorem d_X4_readPlanLine_25 : decode (qMc M_X4_readPlanLine) 25 = .ok (.aload_n 0, 1) := by decide +kernel
theorem d_X4_readPlanLine_26 : decode (qMc M_X4_readPlanLine) 26 = .ok (.bipush 10, 2) := by decide +kernel
theorem d_X4_readPlanLine_28 : decode (qMc M_X4_readPlanLine) 28 = .ok (.invokevirtual 134, 3) := by decide +kernel
theorem d_X4_readPlanLine_31 : decode (qMc M_X4_readPlanLine) 31 = .ok (.ifCond .ne 5, 3) := by decide +kernel
theorem d_X4_readPlanLine_34 : decode (qMc M_X4_readPlanLine) 34 = .ok (.iconst 0, 1) := by decide +kernel
theorem d_X4_readPlanLine_35 : decode (qMc M_X4_readPlanLine) 35 = .ok (.ireturn, 1) := by decide +kernel
theorem d_X4_readPlanLine_36 : decode (qMc M_X4_readPlanLine) 36 = .ok (.aload_n 0, 1) := by decide +kernel
theorem d_X4_readPlanLine_37 : decode (qMc M_X4_readPlanLine) 37 = .ok (.iconst 0, 1) := by decide +kernel
theorem d_X4_readPlanLine_38 : decode (qMc M_X4_readPlanLine) 38 = .ok (.sipush 999, 3) := by decide +kernel
theorem d_X4_readPlanLine_41 : decode (qMc M_X4_readPlanLine) 41 = .ok (.invokevirtual 150, 3) := by decide +kernel
theorem d_X4_readPlanLine_44 : decode (qMc M_X4_readPlanLine) 44 = .ok (.istore_n 1, 1) := by decide +kernel
theorem d_X4_readPlanLine_45 : decode (qMc M_X4_readPlanLine) 45 = .ok (.iload_n 1, 1) := by decide +kernel
theorem d_X4_readPlanLine_46 : decode (qMc M_X4_readPlanLine) 46 = .ok (.iconst (-1), 1) := by decide +kernel
theorem d_X4_readPlanLine_47 : decode (qMc M_X4_readPlanLine) 47 = .ok (.if_icmp .ne 5, 3) := by decide +kernel
theorem d_X4_readPlanLine_50 : decode (qMc M_X4_readPlanLine) 50 = .ok (.iconst 0, 1) := by decide +kernel
theorem d_X4_readPlanLine_51 : decode (qMc M_X4_readPlanLine) 51 = .ok (.ireturn, 1) := by decide +kernel
theorem d_X4_readPlanLine_52 : decode (qMc M_X4_readPlanLine) 52 = .ok (.aload_n 0, 1) := by decide +kernel
theorem d_X4_readPlanLine_53 : decode (qMc M_X4_readPlanLine) 53 = .ok (.getfield 31, 3) := by decide +kernel
theorem d_X4_readPlanLine_56 : decode (qMc M_X4_readPlanLine) 56 = .ok (.bipush 11, 2) := by decide +kernel
theorem d_X4_readPlanLine_58 : decode (qMc M_X4_readPlanLine) 58 = .ok (.bipush 16, 2) := by decide +kernel
theorem d_X4_readPlanLine_60 : decode (qMc M_X4_readPlanLine) 60 = .ok (.invokestatic 59, 3) := by decide +kernel
theorem d_X4_readPlanLine_63 : decode (qMc M_X4_readPlanLine) 63 = .ok (.ifCond .ne 9, 3) := by decide +kernel
theorem d_X4_readPlanLine_66 : decode (qMc M_X4_readPlanLine) 66 = .ok (.aload_n 0, 1) := by decide +kernel
theorem d_X4_readPlanLine_67 : decode (qMc M_X4_readPlanLine) 67 = .ok (.iconst 1, 1) := by decide +kernel
theorem d_X4_readPlanLine_68 : decode (qMc M_X4_readPlanLine) 68 = .ok (.invokevirtual 111, 3) := by decide +kernel
theorem d_X4_readPlanLine_71 : decode (qMc M_X4_readPlanLine) 71 = .ok (.ireturn, 1) := by decide +kernel
theorem d_X4_readPlanLine_72 : decode (qMc M_X4_readPlanLine) 72 = .ok (.aload_n 0, 1) := by decide +kernel
theorem d_X4_readPlanLine_73 : decode (qMc M_X4_readPlanLine) 73 = .ok (.getfield 31, 3) := by decide +kernel
theorem d_X4_readPlanLine_76 : decode (qMc M_X4_readPlanLine) 76 = .ok (.bipush 11, 2) := by decide +kernel
theorem d_X4_readPlanLine_78 : decode (qMc M_X4_readPlanLine) 78 = .ok (.isub, 1) := by decide +kernel
theorem d_X4_readPlanLine_79 : decode (qMc M_X4_readPlanLine) 79 = .ok (.istore_n 2, 1) := by decide +kernel
theorem d_X4_readPlanLine_80 : decode (qMc M_X4_readPlanLine) 80 = .ok (.aload_n 0, 1) := by decide +kernel
theorem d_X4_readPlanLine_81 : decode (qMc M_X4_readPlanLine) 81 = .ok (.invokevirtual 114, 3) := by decide +kernel
theorem d_X4_readPlanLine_84 : decode (qMc M_X4_readPlanLine) 84 = .ok (.aload_n 0, 1) := by decide +kernel
theorem d_X4_readPlanLine_85 : decode (qMc M_X4_readPlanLine) 85 = .ok (.iconst 0, 1) := by decide +kernel
theorem d_X4_readPlanLine_86 : decode (qMc M_X4_readPlanLine) 86 = .ok (.bipush 31, 2) := by decide +kernel
theorem d_X4_readPlanLine_88 : decode (qMc M_X4_readPlanLine) 88 = .ok (.invokevirtual 150, 3) := by decide +kernel
theorem d_X4_readPlanLine_91 : decode (qMc M_X4_readPlanLine) 91 = .ok (.istore_n 3, 1) := by decide +kernel
theorem d_X4_readPlanLine_92 : decode (qMc M_X4_readPlanLine) 92 = .ok (.iload_n 3, 1) := by decide +kernel
theorem d_X4_readPlanLine_93 : decode (qMc M_X4_readPlanLine) 93 = .ok (.iconst (-1), 1) := by decide +kernel
theorem d_X4_readPlanLine_94 : decode (qMc M_X4_readPlanLine) 94 = .ok (.if_icmp .ne 7, 3) := by decide +kernel
theorem d_X4_readPlanLine_97 : decode (qMc M_X4_readPlanLine) 97 = .ok (.iconst (-1), 1) := by decide +kernel
theorem d_X4_readPlanLine_98 : decode (qMc M_X4_readPlanLine) 98 = .ok (.goto 8, 3) := by decide +kernel
theorem d_X4_readPlanLine_101 : decode (qMc M_X4_readPlanLine) 101 = .ok (.aload_n 0, 1) := by decide +kernel
theorem d_X4_readPlanLine_102 : decode (qMc M_X4_readPlanLine) 102 = .ok (.iload_n 2, 1) := by decide +kernel
theorem d_X4_readPlanLine_103 : decode (qMc M_X4_readPlanLine) 103 = .ok (.invokevirtual 153, 3) := by decide +kernel
theorem d_X4_readPlanLine_106 : decode (qMc M_X4_readPlanLine) 106 = .ok (.istore 4, 2) := by decide +kernel
theorem d_X4_readPlanLine_108 : decode (qMc M_X4_readPlanLine) 108 = .ok (.iload 4, 2) := by decide +kernel
theorem d_X4_readPlanLine_110 : decode (qMc M_X4_readPlanLine) 110 = .ok (.iconst (-1), 1) := by decide +kernel
theorem d_X4_readPlanLine_111 : decode (qMc M_X4_readPlanLine) 111 = .ok (.if_icmp .eq 11, 3) := by decide +kernel
theorem d_X4_readPlanLine_114 : decode (qMc M_X4_readPlanLine) 114 = .ok (.aload_n 0, 1) := by decide +kernel
theorem d_X4_readPlanLine_115 : decode (qMc M_X4_readPlanLine) 115 = .ok (.iconst 3, 1) := by decide +kernel
theorem d_X4_readPlanLine_116 : decode (qMc M_X4_readPlanLine) 116 = .ok (.invokevirtual 134, 3) := by decide +kernel
theorem d_X4_readPlanLine_119 : decode (qMc M_X4_readPlanLine) 119 = .ok (.ifCond .ne 5, 3) := by decide +kernel
theorem d_X4_readPlanLine_122 : decode (qMc M_X4_readPlanLine) 122 = .ok (.iconst 0, 1) := by decide +kernel
theorem d_X4_readPlanLine_123 : decode (qMc M_X4_readPlanLine) 123 = .ok (.ireturn, 1) := by decide +kernel
theorem d_X4_readPlanLine_124 : decode (qMc M_X4_readPlanLine) 124 = .ok (.aload_n 0, 1) := by decide +kernel
theorem d_X4_readPlanLine_125 : decode (qMc M_X4_readPlanLine) 125 = .ok (.getfield 52, 3) := by decide +kernel
theorem d_X4_readPlanLine_128 : decode (qMc M_X4_readPlanLine) 128 = .ok (.iload_n 1, 1) := by decide +kernel
theorem d_X4_readPlanLine_129 : decode (qMc M_X4_readPlanLine) 129 = .ok (.iload_n 2, 1) := by decide +kernel
theorem d_X4_readPlanLine_130 : decode (qMc M_X4_readPlanLine) 130 = .ok (.iload_n 3, 1) := by decide +kernel
theorem d_X4_readPlanLine_131 : decode (qMc M_X4_readPlanLine) 131 = .ok (.iload 4, 2) := by decide +kernel
theorem d_X4_readPlanLine_133 : decode (qMc M_X4_readPlanLine) 133 = .ok (.invokevirtual 156, 3) := by decide +kernel
theorem d_X4_readPlanLine_136 : decode (qMc M_X4_readPlanLine) 136 = .ok (.ireturn, 1) := by decide +kernel
theorem d_X4_passMuch_0 : decode (qMc M_X4_passMuch) 0 = .ok (.iload_n 1, 1) := by decide +kernel
theorem d_X4_passMuch_1 : decode (qMc M_X4_passMuch) 1 = .ok (.ifCond .ne 11, 3) := by decide +kernel
theorem d_X4_passMuch_4 : decode (qMc M_X4_passMuch) 4 = .ok (.aload_n 0, 1) := by decide +kernel
theorem d_X4_passMuch_5 : decode (qMc M_X4_passMuch) 5 = .ok (.iconst 0, 1) := by decide +kernel
theorem d_X4_passMuch_6 : decode (qMc M_X4_passMuch) 6 = .ok (.bipush 7, 2) := by decide +kernel
theorem d_X4_passMuch_8 : decode (qMc M_X4_passMuch) 8 = .ok (.invokevirtual 150, 3) := by decide +kernel
theorem d_X4_passMuch_11 : decode (qMc M_X4_passMuch) 11 = .ok (.ireturn, 1) := by decide +kernel
theorem d_X4_passMuch_12 : decode (qMc M_X4_passMuch) 12 = .ok (.iload_n 1, 1) := by decide +kernel
theorem d_X4_passMuch_13 : decode (qMc M_X4_passMuch) 13 = .ok (.iconst 5, 1) := by decide +kernel
theorem d_X4_passMuch_14 : decode (qMc M_X4_passMuch) 14 = .ok (.if_icmp .ne 12, 3) := by decide +kernel
theorem d_X4_passMuch_17 : decode (qMc M_X4_passMuch) 17 = .ok (.aload_n 0, 1) := by decide +kernel
theorem d_X4_passMuch_18 : decode (qMc M_X4_passMuch) 18 = .ok (.iconst 0, 1) := by decide +kernel
theorem d_X4_passMuch_19 : decode (qMc M_X4_passMuch) 19 = .ok (.iconst 3, 1) := by decide +kernel
theorem d_X4_passMuch_20 : decode (qMc M_X4_passMuch) 20 = .ok (.invokevirtual 150, 3) := by decide +kernel
theorem d_X4_passMuch_23 : decode (qMc M_X4_passMuch) 23 = .ok (.goto 4, 3) := by decide +kernel
theorem d_X4_passMuch_26 : decode (qMc M_X4_passMuch) 26 = .ok (.iconst 0, 1) := by decide +kernel
theorem d_X4_passMuch_27 : decode (qMc M_X4_passMuch) 27 = .ok (.ireturn, 1) := by decide +kernel
theorem d_X4_readTree_0 : decode (qMc M_X4_readTree) 0 = .ok (.iconst 0, 1) := by decide +kernel
theorem d_X4_readTree_1 : decode (qMc M_X4_readTree) 1 = .ok (.istore_n 1, 1) := by decide +kernel
theorem d_X4_readTree_2 : decode (qMc M_X4_readTree) 2 = .ok (.iload_n 1, 1) := by decide +kernel
theorem d_X4_readTree_3 : decode (qMc M_X4_readTree) 3 = .ok (.bipush 16, 2) := by decide +kernel
theorem d_X4_readTree_5 : decode (qMc M_X4_readTree) 5 = .ok (.if_icmp .gt 25, 3) := by decide +kernel
theorem d_X4_readTree_8 : decode (qMc M_X4_readTree) 8 = .ok (.aload_n 0, 1) := by decide +kernel
theorem d_X4_readTree_9 : decode (qMc M_X4_readTree) 9 = .ok (.getfield 31, 3) := by decide +kernel
theorem d_X4_readTree_12 : decode (qMc M_X4_readTree) 12 = .ok (.ifCond .eq 18, 3) := by decide +kernel
theorem d_X4_readTree_15 : decode (qMc M_X4_readTree) 15 = .ok (.aload_n 0, 1) := by decide +kernel
theorem d_X4_readTree_16 : decode (qMc M_X4_readTree) 16 = .ok (.invokevirtual 159, 3) := by decide +kernel
theorem d_X4_readTree_19 : decode (qMc M_X4_readTree) 19 = .ok (.ifCond .ne 5, 3) := by decide +kernel
theorem d_X4_readTree_22 : decode (qMc M_X4_readTree) 22 = .ok (.iconst 0, 1) := by decide +kernel
theorem d_X4_readTree_23 : decode (qMc M_X4_readTree) 23 = .ok (.ireturn, 1) := by decide +kernel
theorem d_X4_readTree_24 : decode (qMc M_X4_readTree) 24 = .ok (.iinc 1 1, 3) := by decide +kernel
theorem d_X4_readTree_27 : decode (qMc M_X4_readTree) 27 = .ok (.goto (-25), 3) := by decide +kernel
theorem d_X4_readTree_30 : decode (qMc M_X4_readTree) 30 = .ok (.iconst 1, 1) := by decide +kernel
theorem d_X4_readTree_31 : decode (qMc M_X4_readTree) 31 = .ok (.ireturn, 1) := by decide +kernel
theorem d_X4_readTreeLine_0 : decode (qMc M_X4_readTreeLine) 0 = .ok (.aload_n 0, 1) := by decide +kernel
theorem d_X4_readTreeLine_1 : decode (qMc M_X4_readTreeLine) 1 = .ok (.getfield 31, 3) := by decide +kernel
theorem d_X4_readTreeLine_4 : decode (qMc M_X4_readTreeLine) 4 = .ok (.bipush 17, 2) := by decide +kernel
theorem d_X4_readTreeLine_6 : decode (qMc M_X4_readTreeLine) 6 = .ok (.if_icmp .ne 19, 3) := by decide +kernel
theorem d_X4_readTreeLine_9 : decode (qMc M_X4_readTreeLine) 9 = .ok (.aload_n 0, 1) := by decide +kernel
theorem d_X4_readTreeLine_10 : decode (qMc M_X4_readTreeLine) 10 = .ok (.getfield 52, 3) := by decide +kernel
theorem d_X4_readTreeLine_13 : decode (qMc M_X4_readTreeLine) 13 = .ok (.invokevirtual 147, 3) := by decide +kernel
theorem d_X4_readTreeLine_16 : decode (qMc M_X4_readTreeLine) 16 = .ok (.ifCond .eq 9, 3) := by decide +kernel
theorem d_X4_readTreeLine_19 : decode (qMc M_X4_readTreeLine) 19 = .ok (.aload_n 0, 1) := by decide +kernel
theorem d_X4_readTreeLine_20 : decode (qMc M_X4_readTreeLine) 20 = .ok (.iconst 3, 1) := by decide +kernel
theorem d_X4_readTreeLine_21 : decode (qMc M_X4_readTreeLine) 21 = .ok (.invokevirtual 111, 3) := by decide +kernel
theorem d_X4_readTreeLine_24 : decode (qMc M_X4_readTreeLine) 24 = .ok (.ireturn, 1) := by decide +kernel
theorem d_X4_readTreeLine_25 : decode (qMc M_X4_readTreeLine) 25 = .ok (.aload_n 0, 1) := by decide +kernel
theorem d_X4_readTreeLine_26 : decode (qMc M_X4_readTreeLine) 26 = .ok (.bipush 17, 2) := by decide +kernel
theorem d_X4_readTreeLine_28 : decode (qMc M_X4_readTreeLine) 28 = .ok (.invokevirtual 134, 3) := by decide +kernel
theorem d_X4_readTreeLine_31 : decode (qMc M_X4_readTreeLine) 31 = .ok (.ifCond .ne 5, 3) := by decide +kernel
theorem d_X4_readTreeLine_34 : decode (qMc M_X4_readTreeLine) 34 = .ok (.iconst 0, 1) := by decide +kernel
theorem d_X4_readTreeLine_35 : decode (qMc M_X4_readTreeLine) 35 = .ok (.ireturn, 1) := by decide +kernel
theorem d_X4_readTreeLine_36 : decode (qMc M_X4_readTreeLine) 36 = .ok (.aload_n 0, 1) := by decide +kernel
theorem d_X4_readTreeLine_37 : decode (qMc M_X4_readTreeLine) 37 = .ok (.iconst 1, 1) := by decide +kernel
theorem d_X4_readTreeLine_38 : decode (qMc M_X4_readTreeLine) 38 = .ok (.bipush 15, 2) := by decide +kernel
theorem d_X4_readTreeLine_40 : decode (qMc M_X4_readTreeLine) 40 = .ok (.invokevirtual 117, 3) := by decide +kernel
theorem d_X4_readTreeLine_43 : decode (qMc M_X4_readTreeLine) 43 = .ok (.istore_n 1, 1) := by decide +kernel
theorem d_X4_readTreeLine_44 : decode (qMc M_X4_readTreeLine) 44 = .ok (.iload_n 1, 1) := by decide +kernel
theorem d_X4_readTreeLine_45 : decode (qMc M_X4_readTreeLine) 45 = .ok (.iconst (-1), 1) := by decide +kernel
theorem d_X4_readTreeLine_46 : decode (qMc M_X4_readTreeLine) 46 = .ok (.if_icmp .ne 5, 3) := by decide +kernel
theorem d_X4_readTreeLine_49 : decode (qMc M_X4_readTreeLine) 49 = .ok (.iconst 0, 1) := by decide +kernel
theorem d_X4_readTreeLine_50 : decode (qMc M_X4_readTreeLine) 50 = .ok (.ireturn, 1) := by decide +kernel
theorem d_X4_readTreeLine_51 : decode (qMc M_X4_readTreeLine) 51 = .ok (.aload_n 0, 1) := by decide +kernel
theorem d_X4_readTreeLine_52 : decode (qMc M_X4_readTreeLine) 52 = .ok (.iload_n 1, 1) := by decide +kernel
theorem d_X4_readTreeLine_53 : decode (qMc M_X4_readTreeLine) 53 = .ok (.invokevirtual 162, 3) := by decide +kernel
theorem d_X4_readTreeLine_56 : decode (qMc M_X4_readTreeLine) 56 = .ok (.ifCond .eq 9, 3) := by decide +kernel
theorem d_X4_readTreeLine_59 : decode (qMc M_X4_readTreeLine) 59 = .ok (.aload_n 0, 1) := by decide +kernel
theorem d_X4_readTreeLine_60 : decode (qMc M_X4_readTreeLine) 60 = .ok (.iconst 2, 1) := by decide +kernel
theorem d_X4_readTreeLine_61 : decode (qMc M_X4_readTreeLine) 61 = .ok (.invokevirtual 111, 3) := by decide +kernel
theorem d_X4_readTreeLine_64 : decode (qMc M_X4_readTreeLine) 64 = .ok (.ireturn, 1) := by decide +kernel
theorem d_X4_readTreeLine_65 : decode (qMc M_X4_readTreeLine) 65 = .ok (.aload_n 0, 1) := by decide +kernel
theorem d_X4_readTreeLine_66 : decode (qMc M_X4_readTreeLine) 66 = .ok (.invokevirtual 114, 3) := by decide +kernel
theorem d_X4_readTreeLine_69 : decode (qMc M_X4_readTreeLine) 69 = .ok (.aload_n 0, 1) := by decide +kernel
theorem d_X4_readTreeLine_70 : decode (qMc M_X4_readTreeLine) 70 = .ok (.bipush 18, 2) := by decide +kernel
theorem d_X4_readTreeLine_72 : decode (qMc M_X4_readTreeLine) 72 = .ok (.invokevirtual 134, 3) := by decide +kernel
theorem d_X4_readTreeLine_75 : decode (qMc M_X4_readTreeLine) 75 = .ok (.ifCond .ne 5, 3) := by decide +kernel
theorem d_X4_readTreeLine_78 : decode (qMc M_X4_readTreeLine) 78 = .ok (.iconst 0, 1) := by decide +kernel
theorem d_X4_readTreeLine_79 : decode (qMc M_X4_readTreeLine) 79 = .ok (.ireturn, 1) := by decide +kernel
theorem d_X4_readTreeLine_80 : decode (qMc M_X4_readTreeLine) 80 = .ok (.aload_n 0, 1) := by decide +kernel
theorem d_X4_readTreeLine_81 : decode (qMc M_X4_readTreeLine) 81 = .ok (.iconst 0, 1) := by decide +kernel
theorem d_X4_readTreeLine_82 : decode (qMc M_X4_readTreeLine) 82 = .ok (.iload_n 1, 1) := by decide +kernel
theorem d_X4_readTreeLine_83 : decode (qMc M_X4_readTreeLine) 83 = .ok (.iconst 1, 1) := by decide +kernel
theorem d_X4_readTreeLine_84 : decode (qMc M_X4_readTreeLine) 84 = .ok (.isub, 1) := by decide +kernel
theorem d_X4_readTreeLine_85 : decode (qMc M_X4_readTreeLine) 85 = .ok (.invokevirtual 150, 3) := by decide +kernel
theorem d_X4_readTreeLine_88 : decode (qMc M_X4_readTreeLine) 88 = .ok (.istore_n 2, 1) := by decide +kernel
theorem d_X4_readTreeLine_89 : decode (qMc M_X4_readTreeLine) 89 = .ok (.iload_n 2, 1) := by decide +kernel
theorem d_X4_readTreeLine_90 : decode (qMc M_X4_readTreeLine) 90 = .ok (.iconst (-1), 1) := by decide +kernel
theorem d_X4_readTreeLine_91 : decode (qMc M_X4_readTreeLine) 91 = .ok (.if_icmp .eq 11, 3) := by decide +kernel
theorem d_X4_readTreeLine_94 : decode (qMc M_X4_readTreeLine) 94 = .ok (.aload_n 0, 1) := by decide +kernel
theorem d_X4_readTreeLine_95 : decode (qMc M_X4_readTreeLine) 95 = .ok (.iconst 3, 1) := by decide +kernel
theorem d_X4_readTreeLine_96 : decode (qMc M_X4_readTreeLine) 96 = .ok (.invokevirtual 134, 3) := by decide +kernel
theorem d_X4_readTreeLine_99 : decode (qMc M_X4_readTreeLine) 99 = .ok (.ifCond .ne 5, 3) := by decide +kernel
theorem d_X4_readTreeLine_102 : decode (qMc M_X4_readTreeLine) 102 = .ok (.iconst 0, 1) := by decide +kernel
theorem d_X4_readTreeLine_103 : decode (qMc M_X4_readTreeLine) 103 = .ok (.ireturn, 1) := by decide +kernel
theorem d_X4_readTreeLine_104 : decode (qMc M_X4_readTreeLine) 104 = .ok (.aload_n 0, 1) := by decide +kernel
theorem d_X4_readTreeLine_105 : decode (qMc M_X4_readTreeLine) 105 = .ok (.getfield 52, 3) := by decide +kernel
theorem d_X4_readTreeLine_108 : decode (qMc M_X4_readTreeLine) 108 = .ok (.iload_n 1, 1) := by decide +kernel
theorem d_X4_readTreeLine_109 : decode (qMc M_X4_readTreeLine) 109 = .ok (.iload_n 2, 1) := by decide +kernel
theorem d_X4_readTreeLine_110 : decode (qMc M_X4_readTreeLine) 110 = .ok (.iconst 0, 1) := by decide +kernel
theorem d_X4_readTreeLine_111 : decode (qMc M_X4_readTreeLine) 111 = .ok (.iconst 0, 1) := by decide +kernel
theorem d_X4_readTreeLine_112 : decode (qMc M_X4_readTreeLine) 112 = .ok (.invokevirtual 156, 3) := by decide +kernel
theorem d_X4_readTreeLine_115 : decode (qMc M_X4_readTreeLine) 115 = .ok (.ireturn, 1) := by decide +kernel
theorem d_X4_isInTree_0 : decode (qMc M_X4_isInTree) 0 = .ok (.iconst 0, 1) := by decide +kernel
theorem d_X4_isInTree_1 : decode (qMc M_X4_isInTree) 1 = .ok (.istore_n 2, 1) := by decide +kernel
theorem d_X4_isInTree_2 : decode (qMc M_X4_isInTree) 2 = .ok (.iload_n 2, 1) := by decide +kernel
theorem d_X4_isInTree_3 : decode (qMc M_X4_isInTree) 3 = .ok (.aload_n 0, 1) := by decide +kernel
theorem d_X4_isInTree_4 : decode (qMc M_X4_isInTree) 4 = .ok (.getfield 52, 3) := by decide +kernel
theorem d_X4_isInTree_7 : decode (qMc M_X4_isInTree) 7 = .ok (.getfield 165, 3) := by decide +kernel
theorem d_X4_isInTree_10 : decode (qMc M_X4_isInTree) 10 = .ok (.if_icmp .ge 24, 3) := by decide +kernel
theorem d_X4_isInTree_13 : decode (qMc M_X4_isInTree) 13 = .ok (.aload_n 0, 1) := by decide +kernel
theorem d_X4_isInTree_14 : decode (qMc M_X4_isInTree) 14 = .ok (.getfield 52, 3) := by decide +kernel
theorem d_X4_isInTree_17 : decode (qMc M_X4_isInTree) 17 = .ok (.iload_n 2, 1) := by decide +kernel
theorem d_X4_isInTree_18 : decode (qMc M_X4_isInTree) 18 = .ok (.iconst 0, 1) := by decide +kernel
theorem d_X4_isInTree_19 : decode (qMc M_X4_isInTree) 19 = .ok (.invokevirtual 166, 3) := by decide +kernel
theorem d_X4_isInTree_22 : decode (qMc M_X4_isInTree) 22 = .ok (.iload_n 1, 1) := by decide +kernel
theorem d_X4_isInTree_23 : decode (qMc M_X4_isInTree) 23 = .ok (.if_icmp .ne 5, 3) := by decide +kernel
theorem d_X4_isInTree_26 : decode (qMc M_X4_isInTree) 26 = .ok (.iconst 1, 1) := by decide +kernel
theorem d_X4_isInTree_27 : decode (qMc M_X4_isInTree) 27 = .ok (.ireturn, 1) := by decide +kernel
theorem d_X4_isInTree_28 : decode (qMc M_X4_isInTree) 28 = .ok (.iinc 2 1, 3) := by decide +kernel
theorem d_X4_isInTree_31 : decode (qMc M_X4_isInTree) 31 = .ok (.goto (-29), 3) := by decide +kernel
theorem d_X4_isInTree_34 : decode (qMc M_X4_isInTree) 34 = .ok (.iconst 0, 1) := by decide +kernel
theorem d_X4_isInTree_35 : decode (qMc M_X4_isInTree) 35 = .ok (.ireturn, 1) := by decide +kernel
theorem d_X5_init_0 : decode (qMc M_X5_init) 0 = .ok (.aload_n 0, 1) := by decide +kernel
theorem d_X5_init_1 : decode (qMc M_X5_init) 1 = .ok (.invokespecial 3, 3) := by decide +kernel
theorem d_X5_init_4 : decode (qMc M_X5_init) 4 = .ok (.aload_n 0, 1) := by decide +kernel
theorem d_X5_init_5 : decode (qMc M_X5_init) 5 = .ok (.new 9, 3) := by decide +kernel
theorem d_X5_init_8 : decode (qMc M_X5_init) 8 = .ok (.dup, 1) := by decide +kernel
theorem d_X5_init_9 : decode (qMc M_X5_init) 9 = .ok (.invokespecial 11, 3) := by decide +kernel
theorem d_X5_init_12 : decode (qMc M_X5_init) 12 = .ok (.putfield 12, 3) := by decide +kernel
theorem d_X5_init_15 : decode (qMc M_X5_init) 15 = .ok (.aload_n 0, 1) := by decide +kernel
theorem d_X5_init_16 : decode (qMc M_X5_init) 16 = .ok (.sipush 2002, 3) := by decide +kernel
theorem d_X5_init_19 : decode (qMc M_X5_init) 19 = .ok (.newarray .long, 2) := by decide +kernel
theorem d_X5_init_21 : decode (qMc M_X5_init) 21 = .ok (.putfield 18, 3) := by decide +kernel
theorem d_X5_init_24 : decode (qMc M_X5_init) 24 = .ok (.aload_n 0, 1) := by decide +kernel
theorem d_X5_init_25 : decode (qMc M_X5_init) 25 = .ok (.sipush 2002, 3) := by decide +kernel
theorem d_X5_init_28 : decode (qMc M_X5_init) 28 = .ok (.newarray .long, 2) := by decide +kernel
theorem d_X5_init_30 : decode (qMc M_X5_init) 30 = .ok (.putfield 22, 3) := by decide +kernel
theorem d_X5_init_33 : decode (qMc M_X5_init) 33 = .ok (.aload_n 0, 1) := by decide +kernel
theorem d_X5_init_34 : decode (qMc M_X5_init) 34 = .ok (.sipush 1024, 3) := by decide +kernel
theorem d_X5_init_37 : decode (qMc M_X5_init) 37 = .ok (.newarray .int, 2) := by decide +kernel
theorem d_X5_init_39 : decode (qMc M_X5_init) 39 = .ok (.putfield 25, 3) := by decide +kernel
theorem d_X5_init_42 : decode (qMc M_X5_init) 42 = .ok (.aload_n 0, 1) := by decide +kernel
theorem d_X5_init_43 : decode (qMc M_X5_init) 43 = .ok (.sipush 2001, 3) := by decide +kernel
theorem d_X5_init_46 : decode (qMc M_X5_init) 46 = .ok (.newarray .int, 2) := by decide +kernel
theorem d_X5_init_48 : decode (qMc M_X5_init) 48 = .ok (.putfield 29, 3) := by decide +kernel
theorem d_X5_init_51 : decode (qMc M_X5_init) 51 = .ok (.aload_n 0, 1) := by decide +kernel
theorem d_X5_init_52 : decode (qMc M_X5_init) 52 = .ok (.iconst (-1), 1) := by decide +kernel
theorem d_X5_init_53 : decode (qMc M_X5_init) 53 = .ok (.putfield 32, 3) := by decide +kernel
theorem d_X5_init_56 : decode (qMc M_X5_init) 56 = .ok (.aload_n 0, 1) := by decide +kernel
theorem d_X5_init_57 : decode (qMc M_X5_init) 57 = .ok (.iconst (-1), 1) := by decide +kernel
theorem d_X5_init_58 : decode (qMc M_X5_init) 58 = .ok (.putfield 36, 3) := by decide +kernel
theorem d_X5_init_61 : decode (qMc M_X5_init) 61 = .ok (.return_, 1) := by decide +kernel
theorem d_X5_follow_0 : decode (qMc M_X5_follow) 0 = .ok (.aload_n 0, 1) := by decide +kernel
theorem d_X5_follow_1 : decode (qMc M_X5_follow) 1 = .ok (.iconst (-1), 1) := by decide +kernel
theorem d_X5_follow_2 : decode (qMc M_X5_follow) 2 = .ok (.putfield 32, 3) := by decide +kernel
theorem d_X5_follow_5 : decode (qMc M_X5_follow) 5 = .ok (.aload_n 0, 1) := by decide +kernel
theorem d_X5_follow_6 : decode (qMc M_X5_follow) 6 = .ok (.iconst (-1), 1) := by decide +kernel
theorem d_X5_follow_7 : decode (qMc M_X5_follow) 7 = .ok (.putfield 36, 3) := by decide +kernel
theorem d_X5_follow_10 : decode (qMc M_X5_follow) 10 = .ok (.aload_n 0, 1) := by decide +kernel
theorem d_X5_follow_11 : decode (qMc M_X5_follow) 11 = .ok (.getfield 25, 3) := by decide +kernel
theorem d_X5_follow_14 : decode (qMc M_X5_follow) 14 = .ok (.iconst (-1), 1) := by decide +kernel
theorem d_X5_follow_15 : decode (qMc M_X5_follow) 15 = .ok (.invokestatic 39, 3) := by decide +kernel
theorem d_X5_follow_18 : decode (qMc M_X5_follow) 18 = .ok (.aload_n 0, 1) := by decide +kernel
theorem d_X5_follow_19 : decode (qMc M_X5_follow) 19 = .ok (.getfield 12, 3) := by decide +kernel
theorem d_X5_follow_22 : decode (qMc M_X5_follow) 22 = .ok (.aload_n 1, 1) := by decide +kernel
theorem d_X5_follow_23 : decode (qMc M_X5_follow) 23 = .ok (.invokevirtual 45, 3) := by decide +kernel
theorem d_X5_follow_26 : decode (qMc M_X5_follow) 26 = .ok (.aload_n 0, 1) := by decide +kernel
theorem d_X5_follow_27 : decode (qMc M_X5_follow) 27 = .ok (.iconst 0, 1) := by decide +kernel
theorem d_X5_follow_28 : decode (qMc M_X5_follow) 28 = .ok (.aload_n 0, 1) := by decide +kernel
theorem d_X5_follow_29 : decode (qMc M_X5_follow) 29 = .ok (.getfield 12, 3) := by decide +kernel
theorem d_X5_follow_32 : decode (qMc M_X5_follow) 32 = .ok (.getfield 49, 3) := by decide +kernel
theorem d_X5_follow_35 : decode (qMc M_X5_follow) 35 = .ok (.invokevirtual 52, 3) := by decide +kernel
theorem d_X5_follow_38 : decode (qMc M_X5_follow) 38 = .ok (.aload_n 0, 1) := by decide +kernel
theorem d_X5_follow_39 : decode (qMc M_X5_follow) 39 = .ok (.iconst 1, 1) := by decide +kernel
theorem d_X5_follow_40 : decode (qMc M_X5_follow) 40 = .ok (.aload_n 0, 1) := by decide +kernel
theorem d_X5_follow_41 : decode (qMc M_X5_follow) 41 = .ok (.getfield 12, 3) := by decide +kernel
theorem d_X5_follow_44 : decode (qMc M_X5_follow) 44 = .ok (.getfield 56, 3) := by decide +kernel
theorem d_X5_follow_47 : decode (qMc M_X5_follow) 47 = .ok (.invokevirtual 52, 3) := by decide +kernel
theorem d_X5_follow_50 : decode (qMc M_X5_follow) 50 = .ok (.iconst 0, 1) := by decide +kernel
theorem d_X5_follow_51 : decode (qMc M_X5_follow) 51 = .ok (.istore_n 3, 1) := by decide +kernel
theorem d_X5_follow_52 : decode (qMc M_X5_follow) 52 = .ok (.iload_n 3, 1) := by decide +kernel
theorem d_X5_follow_53 : decode (qMc M_X5_follow) 53 = .ok (.sipush 2000, 3) := by decide +kernel
theorem d_X5_follow_56 : decode (qMc M_X5_follow) 56 = .ok (.if_icmp .gt 65, 3) := by decide +kernel
theorem d_X5_follow_59 : decode (qMc M_X5_follow) 59 = .ok (.aload_n 0, 1) := by decide +kernel
theorem d_X5_follow_60 : decode (qMc M_X5_follow) 60 = .ok (.iload_n 3, 1) := by decide +kernel
theorem d_X5_follow_61 : decode (qMc M_X5_follow) 61 = .ok (.invokevirtual 59, 3) := by decide +kernel
theorem d_X5_follow_64 : decode (qMc M_X5_follow) 64 = .ok (.istore 4, 2) := by decide +kernel
theorem d_X5_follow_66 : decode (qMc M_X5_follow) 66 = .ok (.iload 4, 2) := by decide +kernel
theorem d_X5_follow_68 : decode (qMc M_X5_follow) 68 = .ok (.iconst (-1), 1) := by decide +kernel
theorem d_X5_follow_69 : decode (qMc M_X5_follow) 69 = .ok (.if_icmp .eq 17, 3) := by decide +kernel
theorem d_X5_follow_72 : decode (qMc M_X5_follow) 72 = .ok (.aload_n 0, 1) := by decide +kernel
theorem d_X5_follow_73 : decode (qMc M_X5_follow) 73 = .ok (.iload_n 3, 1) := by decide +kernel
theorem d_X5_follow_74 : decode (qMc M_X5_follow) 74 = .ok (.putfield 32, 3) := by decide +kernel
theorem d_X5_follow_77 : decode (qMc M_X5_follow) 77 = .ok (.aload_n 0, 1) := by decide +kernel
theorem d_X5_follow_78 : decode (qMc M_X5_follow) 78 = .ok (.iload_n 3, 1) := by decide +kernel
theorem d_X5_follow_79 : decode (qMc M_X5_follow) 79 = .ok (.iload 4, 2) := by decide +kernel
theorem d_X5_follow_81 : decode (qMc M_X5_follow) 81 = .ok (.isub, 1) := by decide +kernel
theorem d_X5_follow_82 : decode (qMc M_X5_follow) 82 = .ok (.putfield 36, 3) := by decide +kernel
theorem d_X5_follow_85 : decode (qMc M_X5_follow) 85 = .ok (.return_, 1) := by decide +kernel
theorem d_X5_follow_86 : decode (qMc M_X5_follow) 86 = .ok (.iload_n 3, 1) := by decide +kernel
theorem d_X5_follow_87 : decode (qMc M_X5_follow) 87 = .ok (.sipush 2000, 3) := by decide +kernel
theorem d_X5_follow_90 : decode (qMc M_X5_follow) 90 = .ok (.if_icmp .ge 25, 3) := by decide +kernel
theorem d_X5_follow_93 : decode (qMc M_X5_follow) 93 = .ok (.aload_n 0, 1) := by decide +kernel
theorem d_X5_follow_94 : decode (qMc M_X5_follow) 94 = .ok (.getfield 12, 3) := by decide +kernel
theorem d_X5_follow_97 : decode (qMc M_X5_follow) 97 = .ok (.aload_n 2, 1) := by decide +kernel
theorem d_X5_follow_98 : decode (qMc M_X5_follow) 98 = .ok (.invokevirtual 63, 3) := by decide +kernel
theorem d_X5_follow_101 : decode (qMc M_X5_follow) 101 = .ok (.aload_n 0, 1) := by decide +kernel
theorem d_X5_follow_102 : decode (qMc M_X5_follow) 102 = .ok (.iload_n 3, 1) := by decide +kernel
theorem d_X5_follow_103 : decode (qMc M_X5_follow) 103 = .ok (.iconst 2, 1) := by decide +kernel
theorem d_X5_follow_104 : decode (qMc M_X5_follow) 104 = .ok (.iadd, 1) := by decide +kernel
theorem d_X5_follow_105 : decode (qMc M_X5_follow) 105 = .ok (.aload_n 0, 1) := by decide +kernel
theorem d_X5_follow_106 : decode (qMc M_X5_follow) 106 = .ok (.getfield 12, 3) := by decide +kernel
theorem d_X5_follow_109 : decode (qMc M_X5_follow) 109 = .ok (.getfield 56, 3) := by decide +kernel
theorem d_X5_follow_112 : decode (qMc M_X5_follow) 112 = .ok (.invokevirtual 52, 3) := by decide +kernel
theorem d_X5_follow_115 : decode (qMc M_X5_follow) 115 = .ok (.iinc 3 1, 3) := by decide +kernel
theorem d_X5_follow_118 : decode (qMc M_X5_follow) 118 = .ok (.goto (-66), 3) := by decide +kernel
theorem d_X5_follow_121 : decode (qMc M_X5_follow) 121 = .ok (.return_, 1) := by decide +kernel
theorem d_X5_write_0 : decode (qMc M_X5_write) 0 = .ok (.aload_n 0, 1) := by decide +kernel
theorem d_X5_write_1 : decode (qMc M_X5_write) 1 = .ok (.getfield 18, 3) := by decide +kernel
theorem d_X5_write_4 : decode (qMc M_X5_write) 4 = .ok (.iload_n 1, 1) := by decide +kernel
theorem d_X5_write_5 : decode (qMc M_X5_write) 5 = .ok (.aload_n 2, 1) := by decide +kernel
theorem d_X5_write_6 : decode (qMc M_X5_write) 6 = .ok (.iconst 0, 1) := by decide +kernel
theorem d_X5_write_7 : decode (qMc M_X5_write) 7 = .ok (.aload_n 0, 1) := by decide +kernel
theorem d_X5_write_8 : decode (qMc M_X5_write) 8 = .ok (.getfield 12, 3) := by decide +kernel
theorem d_X5_write_11 : decode (qMc M_X5_write) 11 = .ok (.getfield 67, 3) := by decide +kernel
theorem d_X5_write_14 : decode (qMc M_X5_write) 14 = .ok (.bipush 16, 2) := by decide +kernel
theorem d_X5_write_16 : decode (qMc M_X5_write) 16 = .ok (.invokestatic 70, 3) := by decide +kernel
theorem d_X5_write_19 : decode (qMc M_X5_write) 19 = .ok (.invokestatic 76, 3) := by decide +kernel
theorem d_X5_write_22 : decode (qMc M_X5_write) 22 = .ok (.lastore, 1) := by decide +kernel
theorem d_X5_write_23 : decode (qMc M_X5_write) 23 = .ok (.aload_n 0, 1) := by decide +kernel
theorem d_X5_write_24 : decode (qMc M_X5_write) 24 = .ok (.getfield 22, 3) := by decide +kernel
theorem d_X5_write_27 : decode (qMc M_X5_write) 27 = .ok (.iload_n 1, 1) := by decide +kernel
theorem d_X5_write_28 : decode (qMc M_X5_write) 28 = .ok (.aload_n 2, 1) := by decide +kernel
theorem d_X5_write_29 : decode (qMc M_X5_write) 29 = .ok (.bipush 16, 2) := by decide +kernel
theorem d_X5_write_31 : decode (qMc M_X5_write) 31 = .ok (.aload_n 0, 1) := by decide +kernel
theorem d_X5_write_32 : decode (qMc M_X5_write) 32 = .ok (.getfield 12, 3) := by decide +kernel
theorem d_X5_write_35 : decode (qMc M_X5_write) 35 = .ok (.getfield 67, 3) := by decide +kernel
theorem d_X5_write_38 : decode (qMc M_X5_write) 38 = .ok (.invokestatic 76, 3) := by decide +kernel
theorem d_X5_write_41 : decode (qMc M_X5_write) 41 = .ok (.lastore, 1) := by decide +kernel
theorem d_X5_write_42 : decode (qMc M_X5_write) 42 = .ok (.return_, 1) := by decide +kernel
theorem d_X5_packed_0 : decode (qMc M_X5_packed) 0 = .ok (.lconst 0, 1) := by decide +kernel
theorem d_X5_packed_1 : decode (qMc M_X5_packed) 1 = .ok (.lstore_n 3, 1) := by decide +kernel
theorem d_X5_packed_2 : decode (qMc M_X5_packed) 2 = .ok (.iload_n 1, 1) := by decide +kernel
theorem d_X5_packed_3 : decode (qMc M_X5_packed) 3 = .ok (.istore 5, 2) := by decide +kernel
theorem d_X5_packed_5 : decode (qMc M_X5_packed) 5 = .ok (.iload 5, 2) := by decide +kernel
theorem d_X5_packed_7 : decode (qMc M_X5_packed) 7 = .ok (.iload_n 2, 1) := by decide +kernel
theorem d_X5_packed_8 : decode (qMc M_X5_packed) 8 = .ok (.if_icmp .ge 19, 3) := by decide +kernel
theorem d_X5_packed_11 : decode (qMc M_X5_packed) 11 = .ok (.lload_n 3, 1) := by decide +kernel
theorem d_X5_packed_12 : decode (qMc M_X5_packed) 12 = .ok (.iconst 4, 1) := by decide +kernel
theorem d_X5_packed_13 : decode (qMc M_X5_packed) 13 = .ok (.lshl, 1) := by decide +kernel
theorem d_X5_packed_14 : decode (qMc M_X5_packed) 14 = .ok (.aload_n 0, 1) := by decide +kernel
theorem d_X5_packed_15 : decode (qMc M_X5_packed) 15 = .ok (.iload 5, 2) := by decide +kernel
theorem d_X5_packed_17 : decode (qMc M_X5_packed) 17 = .ok (.iaload, 1) := by decide +kernel
theorem d_X5_packed_18 : decode (qMc M_X5_packed) 18 = .ok (.i2l, 1) := by decide +kernel
theorem d_X5_packed_19 : decode (qMc M_X5_packed) 19 = .ok (.lor, 1) := by decide +kernel
theorem d_X5_packed_20 : decode (qMc M_X5_packed) 20 = .ok (.lstore_n 3, 1) := by decide +kernel
theorem d_X5_packed_21 : decode (qMc M_X5_packed) 21 = .ok (.iinc 5 1, 3) := by decide +kernel
theorem d_X5_packed_24 : decode (qMc M_X5_packed) 24 = .ok (.goto (-19), 3) := by decide +kernel
theorem d_X5_packed_27 : decode (qMc M_X5_packed) 27 = .ok (.lload_n 3, 1) := by decide +kernel
theorem d_X5_packed_28 : decode (qMc M_X5_packed) 28 = .ok (.lreturn, 1) := by decide +kernel
theorem d_X5_findSame_0 : decode (qMc M_X5_findSame) 0 = .ok (.aload_n 0, 1) := by decide +kernel
theorem d_X5_findSame_1 : decode (qMc M_X5_findSame) 1 = .ok (.iload_n 1, 1) := by decide +kernel
theorem d_X5_findSame_2 : decode (qMc M_X5_findSame) 2 = .ok (.invokevirtual 80, 3) := by decide +kernel
theorem d_X5_findSame_5 : decode (qMc M_X5_findSame) 5 = .ok (.istore_n 2, 1) := by decide +kernel
theorem d_X5_findSame_6 : decode (qMc M_X5_findSame) 6 = .ok (.aload_n 0, 1) := by decide +kernel
theorem d_X5_findSame_7 : decode (qMc M_X5_findSame) 7 = .ok (.getfield 25, 3) := by decide +kernel
theorem d_X5_findSame_10 : decode (qMc M_X5_findSame) 10 = .ok (.iload_n 2, 1) := by decide +kernel
theorem d_X5_findSame_11 : decode (qMc M_X5_findSame) 11 = .ok (.iaload, 1) := by decide +kernel
theorem d_X5_findSame_12 : decode (qMc M_X5_findSame) 12 = .ok (.istore_n 3, 1) := by decide +kernel
theorem d_X5_findSame_13 : decode (qMc M_X5_findSame) 13 = .ok (.iconst 0, 1) := by decide +kernel
theorem d_X5_findSame_14 : decode (qMc M_X5_findSame) 14 = .ok (.istore 4, 2) := by decide +kernel
theorem d_X5_findSame_16 : decode (qMc M_X5_findSame) 16 = .ok (.iload 4, 2) := by decide +kernel
theorem d_X5_findSame_18 : decode (qMc M_X5_findSame) 18 = .ok (.sipush 2000, 3) := by decide +kernel
theorem d_X5_findSame_21 : decode (qMc M_X5_findSame) 21 = .ok (.if_icmp .gt 32, 3) := by decide +kernel
theorem d_X5_findSame_24 : decode (qMc M_X5_findSame) 24 = .ok (.iload_n 3, 1) := by decide +kernel
theorem d_X5_findSame_25 : decode (qMc M_X5_findSame) 25 = .ok (.iconst (-1), 1) := by decide +kernel
theorem d_X5_findSame_26 : decode (qMc M_X5_findSame) 26 = .ok (.if_icmp .eq 27, 3) := by decide +kernel
theorem d_X5_findSame_29 : decode (qMc M_X5_findSame) 29 = .ok (.aload_n 0, 1) := by decide +kernel
theorem d_X5_findSame_30 : decode (qMc M_X5_findSame) 30 = .ok (.iload_n 1, 1) := by decide +kernel
theorem d_X5_findSame_31 : decode (qMc M_X5_findSame) 31 = .ok (.iload_n 3, 1) := by decide +kernel
theorem d_X5_findSame_32 : decode (qMc M_X5_findSame) 32 = .ok (.invokevirtual 83, 3) := by decide +kernel
theorem d_X5_findSame_35 : decode (qMc M_X5_findSame) 35 = .ok (.ifCond .eq 5, 3) := by decide +kernel
theorem d_X5_findSame_38 : decode (qMc M_X5_findSame) 38 = .ok (.iload_n 3, 1) := by decide +kernel
theorem d_X5_findSame_39 : decode (qMc M_X5_findSame) 39 = .ok (.ireturn, 1) := by decide +kernel
theorem d_X5_findSame_40 : decode (qMc M_X5_findSame) 40 = .ok (.aload_n 0, 1) := by decide +kernel
theorem d_X5_findSame_41 : decode (qMc M_X5_findSame) 41 = .ok (.getfield 29, 3) := by decide +kernel
theorem d_X5_findSame_44 : decode (qMc M_X5_findSame) 44 = .ok (.iload_n 3, 1) := by decide +kernel
theorem d_X5_findSame_45 : decode (qMc M_X5_findSame) 45 = .ok (.iaload, 1) := by decide +kernel
theorem d_X5_findSame_46 : decode (qMc M_X5_findSame) 46 = .ok (.istore_n 3, 1) := by decide +kernel
theorem d_X5_findSame_47 : decode (qMc M_X5_findSame) 47 = .ok (.iinc 4 1, 3) := by decide +kernel
theorem d_X5_findSame_50 : decode (qMc M_X5_findSame) 50 = .ok (.goto (-34), 3) := by decide +kernel
theorem d_X5_findSame_53 : decode (qMc M_X5_findSame) 53 = .ok (.aload_n 0, 1) := by decide +kernel
theorem d_X5_findSame_54 : decode (qMc M_X5_findSame) 54 = .ok (.getfield 29, 3) := by decide +kernel
theorem d_X5_findSame_57 : decode (qMc M_X5_findSame) 57 = .ok (.iload_n 1, 1) := by decide +kernel
theorem d_X5_findSame_58 : decode (qMc M_X5_findSame) 58 = .ok (.aload_n 0, 1) := by decide +kernel
theorem d_X5_findSame_59 : decode (qMc M_X5_findSame) 59 = .ok (.getfield 25, 3) := by decide +kernel
theorem d_X5_findSame_62 : decode (qMc M_X5_findSame) 62 = .ok (.iload_n 2, 1) := by decide +kernel
theorem d_X5_findSame_63 : decode (qMc M_X5_findSame) 63 = .ok (.iaload, 1) := by decide +kernel
theorem d_X5_findSame_64 : decode (qMc M_X5_findSame) 64 = .ok (.iastore, 1) := by decide +kernel
theorem d_X5_findSame_65 : decode (qMc M_X5_findSame) 65 = .ok (.aload_n 0, 1) := by decide +kernel
theorem d_X5_findSame_66 : decode (qMc M_X5_findSame) 66 = .ok (.getfield 25, 3) := by decide +kernel
theorem d_X5_findSame_69 : decode (qMc M_X5_findSame) 69 = .ok (.iload_n 2, 1) := by decide +kernel
theorem d_X5_findSame_70 : decode (qMc M_X5_findSame) 70 = .ok (.iload_n 1, 1) := by decide +kernel
theorem d_X5_findSame_71 : decode (qMc M_X5_findSame) 71 = .ok (.iastore, 1) := by decide +kernel
theorem d_X5_findSame_72 : decode (qMc M_X5_findSame) 72 = .ok (.iconst (-1), 1) := by decide +kernel
theorem d_X5_findSame_73 : decode (qMc M_X5_findSame) 73 = .ok (.ireturn, 1) := by decide +kernel
theorem d_X5_isSame_0 : decode (qMc M_X5_isSame) 0 = .ok (.aload_n 0, 1) := by decide +kernel
theorem d_X5_isSame_1 : decode (qMc M_X5_isSame) 1 = .ok (.getfield 18, 3) := by decide +kernel
theorem d_X5_isSame_4 : decode (qMc M_X5_isSame) 4 = .ok (.iload_n 1, 1) := by decide +kernel
theorem d_X5_isSame_5 : decode (qMc M_X5_isSame) 5 = .ok (.laload, 1) := by decide +kernel
theorem d_X5_isSame_6 : decode (qMc M_X5_isSame) 6 = .ok (.aload_n 0, 1) := by decide +kernel
theorem d_X5_isSame_7 : decode (qMc M_X5_isSame) 7 = .ok (.getfield 18, 3) := by decide +kernel
theorem d_X5_isSame_10 : decode (qMc M_X5_isSame) 10 = .ok (.iload_n 2, 1) := by decide +kernel
theorem d_X5_isSame_11 : decode (qMc M_X5_isSame) 11 = .ok (.laload, 1) := by decide +kernel
theorem d_X5_isSame_12 : decode (qMc M_X5_isSame) 12 = .ok (.lcmp, 1) := by decide +kernel
theorem d_X5_isSame_13 : decode (qMc M_X5_isSame) 13 = .ok (.ifCond .ne 63, 3) := by decide +kernel
theorem d_X5_isSame_16 : decode (qMc M_X5_isSame) 16 = .ok (.aload_n 0, 1) := by decide +kernel
theorem d_X5_isSame_17 : decode (qMc M_X5_isSame) 17 = .ok (.getfield 22, 3) := by decide +kernel
theorem d_X5_isSame_20 : decode (qMc M_X5_isSame) 20 = .ok (.iload_n 1, 1) := by decide +kernel
theorem d_X5_isSame_21 : decode (qMc M_X5_isSame) 21 = .ok (.laload, 1) := by decide +kernel
theorem d_X5_isSame_22 : decode (qMc M_X5_isSame) 22 = .ok (.aload_n 0, 1) := by decide +kernel
theorem d_X5_isSame_23 : decode (qMc M_X5_isSame) 23 = .ok (.getfield 22, 3) := by decide +kernel
theorem d_X5_isSame_26 : decode (qMc M_X5_isSame) 26 = .ok (.iload_n 2, 1) := by decide +kernel
theorem d_X5_isSame_27 : decode (qMc M_X5_isSame) 27 = .ok (.laload, 1) := by decide +kernel
theorem d_X5_isSame_28 : decode (qMc M_X5_isSame) 28 = .ok (.lcmp, 1) := by decide +kernel
theorem d_X5_isSame_29 : decode (qMc M_X5_isSame) 29 = .ok (.ifCond .ne 47, 3) := by decide +kernel
theorem d_X5_isSame_32 : decode (qMc M_X5_isSame) 32 = .ok (.aload_n 0, 1) := by decide +kernel
theorem d_X5_isSame_33 : decode (qMc M_X5_isSame) 33 = .ok (.getfield 18, 3) := by decide +kernel
theorem d_X5_isSame_36 : decode (qMc M_X5_isSame) 36 = .ok (.iload_n 1, 1) := by decide +kernel
theorem d_X5_isSame_37 : decode (qMc M_X5_isSame) 37 = .ok (.iconst 1, 1) := by decide +kernel
theorem d_X5_isSame_38 : decode (qMc M_X5_isSame) 38 = .ok (.iadd, 1) := by decide +kernel
theorem d_X5_isSame_39 : decode (qMc M_X5_isSame) 39 = .ok (.laload, 1) := by decide +kernel
theorem d_X5_isSame_40 : decode (qMc M_X5_isSame) 40 = .ok (.aload_n 0, 1) := by decide +kernel
theorem d_X5_isSame_41 : decode (qMc M_X5_isSame) 41 = .ok (.getfield 18, 3) := by decide +kernel
theorem d_X5_isSame_44 : decode (qMc M_X5_isSame) 44 = .ok (.iload_n 2, 1) := by decide +kernel
theorem d_X5_isSame_45 : decode (qMc M_X5_isSame) 45 = .ok (.iconst 1, 1) := by decide +kernel
theorem d_X5_isSame_46 : decode (qMc M_X5_isSame) 46 = .ok (.iadd, 1) := by decide +kernel
theorem d_X5_isSame_47 : decode (qMc M_X5_isSame) 47 = .ok (.laload, 1) := by decide +kernel
theorem d_X5_isSame_48 : decode (qMc M_X5_isSame) 48 = .ok (.lcmp, 1) := by decide +kernel
theorem d_X5_isSame_49 : decode (qMc M_X5_isSame) 49 = .ok (.ifCond .ne 27, 3) := by decide +kernel
theorem d_X5_isSame_52 : decode (qMc M_X5_isSame) 52 = .ok (.aload_n 0, 1) := by decide +kernel
theorem d_X5_isSame_53 : decode (qMc M_X5_isSame) 53 = .ok (.getfield 22, 3) := by decide +kernel
theorem d_X5_isSame_56 : decode (qMc M_X5_isSame) 56 = .ok (.iload_n 1, 1) := by decide +kernel
theorem d_X5_isSame_57 : decode (qMc M_X5_isSame) 57 = .ok (.iconst 1, 1) := by decide +kernel
theorem d_X5_isSame_58 : decode (qMc M_X5_isSame) 58 = .ok (.iadd, 1) := by decide +kernel
theorem d_X5_isSame_59 : decode (qMc M_X5_isSame) 59 = .ok (.laload, 1) := by decide +kernel
theorem d_X5_isSame_60 : decode (qMc M_X5_isSame) 60 = .ok (.aload_n 0, 1) := by decide +kernel
theorem d_X5_isSame_61 : decode (qMc M_X5_isSame) 61 = .ok (.getfield 22, 3) := by decide +kernel
theorem d_X5_isSame_64 : decode (qMc M_X5_isSame) 64 = .ok (.iload_n 2, 1) := by decide +kernel
theorem d_X5_isSame_65 : decode (qMc M_X5_isSame) 65 = .ok (.iconst 1, 1) := by decide +kernel
theorem d_X5_isSame_66 : decode (qMc M_X5_isSame) 66 = .ok (.iadd, 1) := by decide +kernel
theorem d_X5_isSame_67 : decode (qMc M_X5_isSame) 67 = .ok (.laload, 1) := by decide +kernel
theorem d_X5_isSame_68 : decode (qMc M_X5_isSame) 68 = .ok (.lcmp, 1) := by decide +kernel
theorem d_X5_isSame_69 : decode (qMc M_X5_isSame) 69 = .ok (.ifCond .ne 7, 3) := by decide +kernel
theorem d_X5_isSame_72 : decode (qMc M_X5_isSame) 72 = .ok (.iconst 1, 1) := by decide +kernel
theorem d_X5_isSame_73 : decode (qMc M_X5_isSame) 73 = .ok (.goto 4, 3) := by decide +kernel
theorem d_X5_isSame_76 : decode (qMc M_X5_isSame) 76 = .ok (.iconst 0, 1) := by decide +kernel
theorem d_X5_isSame_77 : decode (qMc M_X5_isSame) 77 = .ok (.ireturn, 1) := by decide +kernel
theorem d_X5_bucketOf_0 : decode (qMc M_X5_bucketOf) 0 = .ok (.aload_n 0, 1) := by decide +kernel
theorem d_X5_bucketOf_1 : decode (qMc M_X5_bucketOf) 1 = .ok (.getfield 18, 3) := by decide +kernel
theorem d_X5_bucketOf_4 : decode (qMc M_X5_bucketOf) 4 = .ok (.iload_n 1, 1) := by decide +kernel
theorem d_X5_bucketOf_5 : decode (qMc M_X5_bucketOf) 5 = .ok (.laload, 1) := by decide +kernel
theorem d_X5_bucketOf_6 : decode (qMc M_X5_bucketOf) 6 = .ok (.ldc2_w 87, 3) := by decide +kernel
theorem d_X5_bucketOf_9 : decode (qMc M_X5_bucketOf) 9 = .ok (.lmul, 1) := by decide +kernel
theorem d_X5_bucketOf_10 : decode (qMc M_X5_bucketOf) 10 = .ok (.aload_n 0, 1) := by decide +kernel
theorem d_X5_bucketOf_11 : decode (qMc M_X5_bucketOf) 11 = .ok (.getfield 22, 3) := by decide +kernel
theorem d_X5_bucketOf_14 : decode (qMc M_X5_bucketOf) 14 = .ok (.iload_n 1, 1) := by decide +kernel
theorem d_X5_bucketOf_15 : decode (qMc M_X5_bucketOf) 15 = .ok (.laload, 1) := by decide +kernel
theorem d_X5_bucketOf_16 : decode (qMc M_X5_bucketOf) 16 = .ok (.ladd, 1) := by decide +kernel
theorem d_X5_bucketOf_17 : decode (qMc M_X5_bucketOf) 17 = .ok (.ldc2_w 87, 3) := by decide +kernel
theorem d_X5_bucketOf_20 : decode (qMc M_X5_bucketOf) 20 = .ok (.lmul, 1) := by decide +kernel
theorem d_X5_bucketOf_21 : decode (qMc M_X5_bucketOf) 21 = .ok (.aload_n 0, 1) := by decide +kernel
theorem d_X5_bucketOf_22 : decode (qMc M_X5_bucketOf) 22 = .ok (.getfield 18, 3) := by decide +kernel
theorem d_X5_bucketOf_25 : decode (qMc M_X5_bucketOf) 25 = .ok (.iload_n 1, 1) := by decide +kernel
theorem d_X5_bucketOf_26 : decode (qMc M_X5_bucketOf) 26 = .ok (.iconst 1, 1) := by decide +kernel
theorem d_X5_bucketOf_27 : decode (qMc M_X5_bucketOf) 27 = .ok (.iadd, 1) := by decide +kernel
theorem d_X5_bucketOf_28 : decode (qMc M_X5_bucketOf) 28 = .ok (.laload, 1) := by decide +kernel
theorem d_X5_bucketOf_29 : decode (qMc M_X5_bucketOf) 29 = .ok (.ladd, 1) := by decide +kernel
theorem d_X5_bucketOf_30 : decode (qMc M_X5_bucketOf) 30 = .ok (.ldc2_w 87, 3) := by decide +kernel
theorem d_X5_bucketOf_33 : decode (qMc M_X5_bucketOf) 33 = .ok (.lmul, 1) := by decide +kernel
theorem d_X5_bucketOf_34 : decode (qMc M_X5_bucketOf) 34 = .ok (.aload_n 0, 1) := by decide +kernel
theorem d_X5_bucketOf_35 : decode (qMc M_X5_bucketOf) 35 = .ok (.getfield 22, 3) := by decide +kernel
theorem d_X5_bucketOf_38 : decode (qMc M_X5_bucketOf) 38 = .ok (.iload_n 1, 1) := by decide +kernel
theorem d_X5_bucketOf_39 : decode (qMc M_X5_bucketOf) 39 = .ok (.iconst 1, 1) := by decide +kernel
theorem d_X5_bucketOf_40 : decode (qMc M_X5_bucketOf) 40 = .ok (.iadd, 1) := by decide +kernel
theorem d_X5_bucketOf_41 : decode (qMc M_X5_bucketOf) 41 = .ok (.laload, 1) := by decide +kernel
theorem d_X5_bucketOf_42 : decode (qMc M_X5_bucketOf) 42 = .ok (.ladd, 1) := by decide +kernel
theorem d_X5_bucketOf_43 : decode (qMc M_X5_bucketOf) 43 = .ok (.lstore_n 2, 1) := by decide +kernel
theorem d_X5_bucketOf_44 : decode (qMc M_X5_bucketOf) 44 = .ok (.lload_n 2, 1) := by decide +kernel
theorem d_X5_bucketOf_45 : decode (qMc M_X5_bucketOf) 45 = .ok (.lload_n 2, 1) := by decide +kernel
theorem d_X5_bucketOf_46 : decode (qMc M_X5_bucketOf) 46 = .ok (.bipush 32, 2) := by decide +kernel
theorem d_X5_bucketOf_48 : decode (qMc M_X5_bucketOf) 48 = .ok (.lushr, 1) := by decide +kernel
theorem d_X5_bucketOf_49 : decode (qMc M_X5_bucketOf) 49 = .ok (.lxor, 1) := by decide +kernel
theorem d_X5_bucketOf_50 : decode (qMc M_X5_bucketOf) 50 = .ok (.lstore_n 2, 1) := by decide +kernel
theorem d_X5_bucketOf_51 : decode (qMc M_X5_bucketOf) 51 = .ok (.lload_n 2, 1) := by decide +kernel
theorem d_X5_bucketOf_52 : decode (qMc M_X5_bucketOf) 52 = .ok (.lload_n 2, 1) := by decide +kernel
theorem d_X5_bucketOf_53 : decode (qMc M_X5_bucketOf) 53 = .ok (.bipush 16, 2) := by decide +kernel
theorem d_X5_bucketOf_55 : decode (qMc M_X5_bucketOf) 55 = .ok (.lushr, 1) := by decide +kernel
theorem d_X5_bucketOf_56 : decode (qMc M_X5_bucketOf) 56 = .ok (.lxor, 1) := by decide +kernel
theorem d_X5_bucketOf_57 : decode (qMc M_X5_bucketOf) 57 = .ok (.lstore_n 2, 1) := by decide +kernel
theorem d_X5_bucketOf_58 : decode (qMc M_X5_bucketOf) 58 = .ok (.lload_n 2, 1) := by decide +kernel
theorem d_X5_bucketOf_59 : decode (qMc M_X5_bucketOf) 59 = .ok (.lload_n 2, 1) := by decide +kernel
theorem d_X5_bucketOf_60 : decode (qMc M_X5_bucketOf) 60 = .ok (.bipush 8, 2) := by decide +kernel
theorem d_X5_bucketOf_62 : decode (qMc M_X5_bucketOf) 62 = .ok (.lushr, 1) := by decide +kernel
theorem d_X5_bucketOf_63 : decode (qMc M_X5_bucketOf) 63 = .ok (.lxor, 1) := by decide +kernel
theorem d_X5_bucketOf_64 : decode (qMc M_X5_bucketOf) 64 = .ok (.l2i, 1) := by decide +kernel
theorem d_X5_bucketOf_65 : decode (qMc M_X5_bucketOf) 65 = .ok (.sipush 1023, 3) := by decide +kernel
theorem d_X5_bucketOf_68 : decode (qMc M_X5_bucketOf) 68 = .ok (.iand, 1) := by decide +kernel
theorem d_X5_bucketOf_69 : decode (qMc M_X5_bucketOf) 69 = .ok (.ireturn, 1) := by decide +kernel
theorem d_X6_init_0 : decode (qMc M_X6_init) 0 = .ok (.aload_n 0, 1) := by decide +kernel
theorem d_X6_init_1 : decode (qMc M_X6_init) 1 = .ok (.invokespecial 3, 3) := by decide +kernel
theorem d_X6_init_4 : decode (qMc M_X6_init) 4 = .ok (.aload_n 0, 1) := by decide +kernel
theorem d_X6_init_5 : decode (qMc M_X6_init) 5 = .ok (.iconst 0, 1) := by decide +kernel
theorem d_X6_init_6 : decode (qMc M_X6_init) 6 = .ok (.putfield 9, 3) := by decide +kernel
theorem d_X6_init_9 : decode (qMc M_X6_init) 9 = .ok (.aload_n 0, 1) := by decide +kernel
theorem d_X6_init_10 : decode (qMc M_X6_init) 10 = .ok (.iconst 0, 1) := by decide +kernel
theorem d_X6_init_11 : decode (qMc M_X6_init) 11 = .ok (.iload_n 1, 1) := by decide +kernel
theorem d_X6_init_12 : decode (qMc M_X6_init) 12 = .ok (.invokestatic 15, 3) := by decide +kernel
theorem d_X6_init_15 : decode (qMc M_X6_init) 15 = .ok (.putfield 21, 3) := by decide +kernel
theorem d_X6_init_18 : decode (qMc M_X6_init) 18 = .ok (.aload_n 0, 1) := by decide +kernel
theorem d_X6_init_19 : decode (qMc M_X6_init) 19 = .ok (.aload_n 0, 1) := by decide +kernel
theorem d_X6_init_20 : decode (qMc M_X6_init) 20 = .ok (.getfield 21, 3) := by decide +kernel
theorem d_X6_init_23 : decode (qMc M_X6_init) 23 = .ok (.iconst 4, 1) := by decide +kernel
theorem d_X6_init_24 : decode (qMc M_X6_init) 24 = .ok (.imul, 1) := by decide +kernel
theorem d_X6_init_25 : decode (qMc M_X6_init) 25 = .ok (.newarray .int, 2) := by decide +kernel
theorem d_X6_init_27 : decode (qMc M_X6_init) 27 = .ok (.putfield 24, 3) := by decide +kernel
theorem d_X6_init_30 : decode (qMc M_X6_init) 30 = .ok (.return_, 1) := by decide +kernel
theorem d_X6_has_0 : decode (qMc M_X6_has) 0 = .ok (.iload_n 1, 1) := by decide +kernel
theorem d_X6_has_1 : decode (qMc M_X6_has) 1 = .ok (.iconst 0, 1) := by decide +kernel
theorem d_X6_has_2 : decode (qMc M_X6_has) 2 = .ok (.aload_n 0, 1) := by decide +kernel
theorem d_X6_has_3 : decode (qMc M_X6_has) 3 = .ok (.getfield 9, 3) := by decide +kernel
theorem d_X6_has_6 : decode (qMc M_X6_has) 6 = .ok (.iconst 1, 1) := by decide +kernel
theorem d_X6_has_7 : decode (qMc M_X6_has) 7 = .ok (.isub, 1) := by decide +kernel
theorem d_X6_has_8 : decode (qMc M_X6_has) 8 = .ok (.invokestatic 28, 3) := by decide +kernel
theorem d_X6_has_11 : decode (qMc M_X6_has) 11 = .ok (.ireturn, 1) := by decide +kernel
theorem d_X6_isFull_0 : decode (qMc M_X6_isFull) 0 = .ok (.aload_n 0, 1) := by decide +kernel
theorem d_X6_isFull_1 : decode (qMc M_X6_isFull) 1 = .ok (.getfield 9, 3) := by decide +kernel
theorem d_X6_isFull_4 : decode (qMc M_X6_isFull) 4 = .ok (.aload_n 0, 1) := by decide +kernel
theorem d_X6_isFull_5 : decode (qMc M_X6_isFull) 5 = .ok (.getfield 21, 3) := by decide +kernel
theorem d_X6_isFull_8 : decode (qMc M_X6_isFull) 8 = .ok (.if_icmp .lt 7, 3) := by decide +kernel
theorem d_X6_isFull_11 : decode (qMc M_X6_isFull) 11 = .ok (.iconst 1, 1) := by decide +kernel
theorem d_X6_isFull_12 : decode (qMc M_X6_isFull) 12 = .ok (.goto 4, 3) := by decide +kernel
theorem d_X6_isFull_15 : decode (qMc M_X6_isFull) 15 = .ok (.iconst 0, 1) := by decide +kernel
theorem d_X6_isFull_16 : decode (qMc M_X6_isFull) 16 = .ok (.ireturn, 1) := by decide +kernel
theorem d_X6_cell_0 : decode (qMc M_X6_cell) 0 = .ok (.iload_n 1, 1) := by decide +kernel
theorem d_X6_cell_1 : decode (qMc M_X6_cell) 1 = .ok (.iconst 0, 1) := by decide +kernel
theorem d_X6_cell_2 : decode (qMc M_X6_cell) 2 = .ok (.aload_n 0, 1) := by decide +kernel
theorem d_X6_cell_3 : decode (qMc M_X6_cell) 3 = .ok (.getfield 9, 3) := by decide +kernel
theorem d_X6_cell_6 : decode (qMc M_X6_cell) 6 = .ok (.iconst 1, 1) := by decide +kernel
theorem d_X6_cell_7 : decode (qMc M_X6_cell) 7 = .ok (.isub, 1) := by decide +kernel
theorem d_X6_cell_8 : decode (qMc M_X6_cell) 8 = .ok (.invokestatic 28, 3) := by decide +kernel
theorem d_X6_cell_11 : decode (qMc M_X6_cell) 11 = .ok (.ifCond .eq 16, 3) := by decide +kernel
theorem d_X6_cell_14 : decode (qMc M_X6_cell) 14 = .ok (.iload_n 2, 1) := by decide +kernel
theorem d_X6_cell_15 : decode (qMc M_X6_cell) 15 = .ok (.iconst 0, 1) := by decide +kernel
theorem d_X6_cell_16 : decode (qMc M_X6_cell) 16 = .ok (.iconst 3, 1) := by decide +kernel
theorem d_X6_cell_17 : decode (qMc M_X6_cell) 17 = .ok (.invokestatic 28, 3) := by decide +kernel
theorem d_X6_cell_20 : decode (qMc M_X6_cell) 20 = .ok (.ifCond .eq 7, 3) := by decide +kernel
theorem d_X6_cell_23 : decode (qMc M_X6_cell) 23 = .ok (.iconst 1, 1) := by decide +kernel
theorem d_X6_cell_24 : decode (qMc M_X6_cell) 24 = .ok (.goto 4, 3) := by decide +kernel
theorem d_X6_cell_27 : decode (qMc M_X6_cell) 27 = .ok (.iconst 0, 1) := by decide +kernel
theorem d_X6_cell_28 : decode (qMc M_X6_cell) 28 = .ok (.istore_n 3, 1) := by decide +kernel
theorem d_X6_cell_29 : decode (qMc M_X6_cell) 29 = .ok (.iload_n 3, 1) := by decide +kernel
theorem d_X6_cell_30 : decode (qMc M_X6_cell) 30 = .ok (.ifCond .eq 16, 3) := by decide +kernel
theorem d_X6_cell_33 : decode (qMc M_X6_cell) 33 = .ok (.aload_n 0, 1) := by decide +kernel
theorem d_X6_cell_34 : decode (qMc M_X6_cell) 34 = .ok (.getfield 24, 3) := by decide +kernel
theorem d_X6_cell_37 : decode (qMc M_X6_cell) 37 = .ok (.iload_n 1, 1) := by decide +kernel
theorem d_X6_cell_38 : decode (qMc M_X6_cell) 38 = .ok (.iconst 4, 1) := by decide +kernel
theorem d_X6_cell_39 : decode (qMc M_X6_cell) 39 = .ok (.imul, 1) := by decide +kernel
theorem d_X6_cell_40 : decode (qMc M_X6_cell) 40 = .ok (.iload_n 2, 1) := by decide +kernel
theorem d_X6_cell_41 : decode (qMc M_X6_cell) 41 = .ok (.iadd, 1) := by decide +kernel
theorem d_X6_cell_42 : decode (qMc M_X6_cell) 42 = .ok (.iaload, 1) := by decide +kernel
theorem d_X6_cell_43 : decode (qMc M_X6_cell) 43 = .ok (.goto 4, 3) := by decide +kernel
theorem d_X6_cell_46 : decode (qMc M_X6_cell) 46 = .ok (.iconst (-1), 1) := by decide +kernel
theorem d_X6_cell_47 : decode (qMc M_X6_cell) 47 = .ok (.ireturn, 1) := by decide +kernel
theorem d_X6_add_0 : decode (qMc M_X6_add) 0 = .ok (.aload_n 0, 1) := by decide +kernel
theorem d_X6_add_1 : decode (qMc M_X6_add) 1 = .ok (.invokevirtual 32, 3) := by decide +kernel
theorem d_X6_add_4 : decode (qMc M_X6_add) 4 = .ok (.ifCond .eq 5, 3) := by decide +kernel
theorem d_X6_add_7 : decode (qMc M_X6_add) 7 = .ok (.iconst 0, 1) := by decide +kernel
theorem d_X6_add_8 : decode (qMc M_X6_add) 8 = .ok (.ireturn, 1) := by decide +kernel
theorem d_X6_add_9 : decode (qMc M_X6_add) 9 = .ok (.aload_n 0, 1) := by decide +kernel
theorem d_X6_add_10 : decode (qMc M_X6_add) 10 = .ok (.getfield 9, 3) := by decide +kernel
theorem d_X6_add_13 : decode (qMc M_X6_add) 13 = .ok (.iconst 4, 1) := by decide +kernel
theorem d_X6_add_14 : decode (qMc M_X6_add) 14 = .ok (.imul, 1) := by decide +kernel
theorem d_X6_add_15 : decode (qMc M_X6_add) 15 = .ok (.istore 5, 2) := by decide +kernel
theorem d_X6_add_17 : decode (qMc M_X6_add) 17 = .ok (.aload_n 0, 1) := by decide +kernel
theorem d_X6_add_18 : decode (qMc M_X6_add) 18 = .ok (.getfield 24, 3) := by decide +kernel
theorem d_X6_add_21 : decode (qMc M_X6_add) 21 = .ok (.iload 5, 2) := by decide +kernel
theorem d_X6_add_23 : decode (qMc M_X6_add) 23 = .ok (.iload_n 1, 1) := by decide +kernel
theorem d_X6_add_24 : decode (qMc M_X6_add) 24 = .ok (.iastore, 1) := by decide +kernel
theorem d_X6_add_25 : decode (qMc M_X6_add) 25 = .ok (.aload_n 0, 1) := by decide +kernel
theorem d_X6_add_26 : decode (qMc M_X6_add) 26 = .ok (.getfield 24, 3) := by decide +kernel
theorem d_X6_add_29 : decode (qMc M_X6_add) 29 = .ok (.iload 5, 2) := by decide +kernel
theorem d_X6_add_31 : decode (qMc M_X6_add) 31 = .ok (.iconst 1, 1) := by decide +kernel
theorem d_X6_add_32 : decode (qMc M_X6_add) 32 = .ok (.iadd, 1) := by decide +kernel
theorem d_X6_add_33 : decode (qMc M_X6_add) 33 = .ok (.iload_n 2, 1) := by decide +kernel
theorem d_X6_add_34 : decode (qMc M_X6_add) 34 = .ok (.iastore, 1) := by decide +kernel
theorem d_X6_add_35 : decode (qMc M_X6_add) 35 = .ok (.aload_n 0, 1) := by decide +kernel
theorem d_X6_add_36 : decode (qMc M_X6_add) 36 = .ok (.getfield 24, 3) := by decide +kernel
theorem d_X6_add_39 : decode (qMc M_X6_add) 39 = .ok (.iload 5, 2) := by decide +kernel
theorem d_X6_add_41 : decode (qMc M_X6_add) 41 = .ok (.iconst 2, 1) := by decide +kernel
theorem d_X6_add_42 : decode (qMc M_X6_add) 42 = .ok (.iadd, 1) := by decide +kernel
theorem d_X6_add_43 : decode (qMc M_X6_add) 43 = .ok (.iload_n 3, 1) := by decide +kernel
theorem d_X6_add_44 : decode (qMc M_X6_add) 44 = .ok (.iastore, 1) := by decide +kernel
theorem d_X6_add_45 : decode (qMc M_X6_add) 45 = .ok (.aload_n 0, 1) := by decide +kernel
theorem d_X6_add_46 : decode (qMc M_X6_add) 46 = .ok (.getfield 24, 3) := by decide +kernel
theorem d_X6_add_49 : decode (qMc M_X6_add) 49 = .ok (.iload 5, 2) := by decide +kernel
theorem d_X6_add_51 : decode (qMc M_X6_add) 51 = .ok (.iconst 3, 1) := by decide +kernel
theorem d_X6_add_52 : decode (qMc M_X6_add) 52 = .ok (.iadd, 1) := by decide +kernel
theorem d_X6_add_53 : decode (qMc M_X6_add) 53 = .ok (.iload 4, 2) := by decide +kernel
theorem d_X6_add_55 : decode (qMc M_X6_add) 55 = .ok (.iastore, 1) := by decide +kernel
theorem d_X6_add_56 : decode (qMc M_X6_add) 56 = .ok (.aload_n 0, 1) := by decide +kernel
theorem d_X6_add_57 : decode (qMc M_X6_add) 57 = .ok (.dup, 1) := by decide +kernel
theorem d_X6_add_58 : decode (qMc M_X6_add) 58 = .ok (.getfield 9, 3) := by decide +kernel
theorem d_X6_add_61 : decode (qMc M_X6_add) 61 = .ok (.iconst 1, 1) := by decide +kernel
theorem d_X6_add_62 : decode (qMc M_X6_add) 62 = .ok (.iadd, 1) := by decide +kernel
theorem d_X6_add_63 : decode (qMc M_X6_add) 63 = .ok (.putfield 9, 3) := by decide +kernel
theorem d_X6_add_66 : decode (qMc M_X6_add) 66 = .ok (.iconst 1, 1) := by decide +kernel
theorem d_X6_add_67 : decode (qMc M_X6_add) 67 = .ok (.ireturn, 1) := by decide +kernel
theorem d_X6_cutTo_0 : decode (qMc M_X6_cutTo) 0 = .ok (.iload_n 1, 1) := by decide +kernel
theorem d_X6_cutTo_1 : decode (qMc M_X6_cutTo) 1 = .ok (.iconst 0, 1) := by decide +kernel
theorem d_X6_cutTo_2 : decode (qMc M_X6_cutTo) 2 = .ok (.aload_n 0, 1) := by decide +kernel
theorem d_X6_cutTo_3 : decode (qMc M_X6_cutTo) 3 = .ok (.getfield 9, 3) := by decide +kernel
theorem d_X6_cutTo_6 : decode (qMc M_X6_cutTo) 6 = .ok (.invokestatic 28, 3) := by decide +kernel
theorem d_X6_cutTo_9 : decode (qMc M_X6_cutTo) 9 = .ok (.ifCond .eq 8, 3) := by decide +kernel
theorem d_X6_cutTo_12 : decode (qMc M_X6_cutTo) 12 = .ok (.aload_n 0, 1) := by decide +kernel
theorem d_X6_cutTo_13 : decode (qMc M_X6_cutTo) 13 = .ok (.iload_n 1, 1) := by decide +kernel
theorem d_X6_cutTo_14 : decode (qMc M_X6_cutTo) 14 = .ok (.putfield 9, 3) := by decide +kernel
theorem d_X6_cutTo_17 : decode (qMc M_X6_cutTo) 17 = .ok (.return_, 1) := by decide +kernel
theorem d_X6_copyFrom_0 : decode (qMc M_X6_copyFrom) 0 = .ok (.aload_n 0, 1) := by decide +kernel
theorem d_X6_copyFrom_1 : decode (qMc M_X6_copyFrom) 1 = .ok (.aload_n 1, 1) := by decide +kernel
theorem d_X6_copyFrom_2 : decode (qMc M_X6_copyFrom) 2 = .ok (.getfield 9, 3) := by decide +kernel
theorem d_X6_copyFrom_5 : decode (qMc M_X6_copyFrom) 5 = .ok (.aload_n 0, 1) := by decide +kernel
theorem d_X6_copyFrom_6 : decode (qMc M_X6_copyFrom) 6 = .ok (.getfield 21, 3) := by decide +kernel
theorem d_X6_copyFrom_9 : decode (qMc M_X6_copyFrom) 9 = .ok (.invokestatic 36, 3) := by decide +kernel
theorem d_X6_copyFrom_12 : decode (qMc M_X6_copyFrom) 12 = .ok (.putfield 9, 3) := by decide +kernel
theorem d_X6_copyFrom_15 : decode (qMc M_X6_copyFrom) 15 = .ok (.aload_n 1, 1) := by decide +kernel
theorem d_X6_copyFrom_16 : decode (qMc M_X6_copyFrom) 16 = .ok (.getfield 24, 3) := by decide +kernel
theorem d_X6_copyFrom_19 : decode (qMc M_X6_copyFrom) 19 = .ok (.iconst 0, 1) := by decide +kernel
theorem d_X6_copyFrom_20 : decode (qMc M_X6_copyFrom) 20 = .ok (.aload_n 0, 1) := by decide +kernel
theorem d_X6_copyFrom_21 : decode (qMc M_X6_copyFrom) 21 = .ok (.getfield 24, 3) := by decide +kernel
theorem d_X6_copyFrom_24 : decode (qMc M_X6_copyFrom) 24 = .ok (.iconst 0, 1) := by decide +kernel
theorem d_X6_copyFrom_25 : decode (qMc M_X6_copyFrom) 25 = .ok (.aload_n 0, 1) := by decide +kernel
theorem d_X6_copyFrom_26 : decode (qMc M_X6_copyFrom) 26 = .ok (.getfield 9, 3) := by decide +kernel
theorem d_X6_copyFrom_29 : decode (qMc M_X6_copyFrom) 29 = .ok (.iconst 4, 1) := by decide +kernel
theorem d_X6_copyFrom_30 : decode (qMc M_X6_copyFrom) 30 = .ok (.imul, 1) := by decide +kernel
theorem d_X6_copyFrom_31 : decode (qMc M_X6_copyFrom) 31 = .ok (.invokestatic 39, 3) := by decide +kernel
theorem d_X6_copyFrom_34 : decode (qMc M_X6_copyFrom) 34 = .ok (.return_, 1) := by decide +kernel
theorem d_X7_init_0 : decode (qMc M_X7_init) 0 = .ok (.aload_n 0, 1) := by decide +kernel
theorem d_X7_init_1 : decode (qMc M_X7_init) 1 = .ok (.invokespecial 3, 3) := by decide +kernel
theorem d_X7_init_4 : decode (qMc M_X7_init) 4 = .ok (.aload_n 0, 1) := by decide +kernel
theorem d_X7_init_5 : decode (qMc M_X7_init) 5 = .ok (.bipush 32, 2) := by decide +kernel
theorem d_X7_init_7 : decode (qMc M_X7_init) 7 = .ok (.newarray .int, 2) := by decide +kernel
theorem d_X7_init_9 : decode (qMc M_X7_init) 9 = .ok (.putfield 9, 3) := by decide +kernel
theorem d_X7_init_12 : decode (qMc M_X7_init) 12 = .ok (.aload_n 0, 1) := by decide +kernel
theorem d_X7_init_13 : decode (qMc M_X7_init) 13 = .ok (.bipush 32, 2) := by decide +kernel
theorem d_X7_init_15 : decode (qMc M_X7_init) 15 = .ok (.newarray .int, 2) := by decide +kernel
theorem d_X7_init_17 : decode (qMc M_X7_init) 17 = .ok (.putfield 15, 3) := by decide +kernel
theorem d_X7_init_20 : decode (qMc M_X7_init) 20 = .ok (.aload_n 0, 1) := by decide +kernel
theorem d_X7_init_21 : decode (qMc M_X7_init) 21 = .ok (.bipush 32, 2) := by decide +kernel
theorem d_X7_init_23 : decode (qMc M_X7_init) 23 = .ok (.newarray .int, 2) := by decide +kernel
theorem d_X7_init_25 : decode (qMc M_X7_init) 25 = .ok (.putfield 18, 3) := by decide +kernel
theorem d_X7_init_28 : decode (qMc M_X7_init) 28 = .ok (.aload_n 0, 1) := by decide +kernel
theorem d_X7_init_29 : decode (qMc M_X7_init) 29 = .ok (.iconst 0, 1) := by decide +kernel
theorem d_X7_init_30 : decode (qMc M_X7_init) 30 = .ok (.putfield 21, 3) := by decide +kernel
theorem d_X7_init_33 : decode (qMc M_X7_init) 33 = .ok (.aload_n 0, 1) := by decide +kernel
theorem d_X7_init_34 : decode (qMc M_X7_init) 34 = .ok (.iconst 0, 1) := by decide +kernel
theorem d_X7_init_35 : decode (qMc M_X7_init) 35 = .ok (.putfield 25, 3) := by decide +kernel
theorem d_X7_init_38 : decode (qMc M_X7_init) 38 = .ok (.aload_n 0, 1) := by decide +kernel
theorem d_X7_init_39 : decode (qMc M_X7_init) 39 = .ok (.iconst 0, 1) := by decide +kernel
theorem d_X7_init_40 : decode (qMc M_X7_init) 40 = .ok (.putfield 29, 3) := by decide +kernel
theorem d_X7_init_43 : decode (qMc M_X7_init) 43 = .ok (.aload_n 0, 1) := by decide +kernel
theorem d_X7_init_44 : decode (qMc M_X7_init) 44 = .ok (.iconst (-1), 1) := by decide +kernel
theorem d_X7_init_45 : decode (qMc M_X7_init) 45 = .ok (.putfield 32, 3) := by decide +kernel
theorem d_X7_init_48 : decode (qMc M_X7_init) 48 = .ok (.aload_n 0, 1) := by decide +kernel
theorem d_X7_init_49 : decode (qMc M_X7_init) 49 = .ok (.iconst 0, 1) := by decide +kernel
theorem d_X7_init_50 : decode (qMc M_X7_init) 50 = .ok (.putfield 35, 3) := by decide +kernel
theorem d_X7_init_53 : decode (qMc M_X7_init) 53 = .ok (.aload_n 0, 1) := by decide +kernel
theorem d_X7_init_54 : decode (qMc M_X7_init) 54 = .ok (.iconst 0, 1) := by decide +kernel
theorem d_X7_init_55 : decode (qMc M_X7_init) 55 = .ok (.putfield 38, 3) := by decide +kernel
theorem d_X7_init_58 : decode (qMc M_X7_init) 58 = .ok (.aload_n 0, 1) := by decide +kernel
theorem d_X7_init_59 : decode (qMc M_X7_init) 59 = .ok (.iconst 0, 1) := by decide +kernel
theorem d_X7_init_60 : decode (qMc M_X7_init) 60 = .ok (.putfield 41, 3) := by decide +kernel
theorem d_X7_init_63 : decode (qMc M_X7_init) 63 = .ok (.aload_n 0, 1) := by decide +kernel
theorem d_X7_init_64 : decode (qMc M_X7_init) 64 = .ok (.iconst 0, 1) := by decide +kernel
theorem d_X7_init_65 : decode (qMc M_X7_init) 65 = .ok (.putfield 44, 3) := by decide +kernel
theorem d_X7_init_68 : decode (qMc M_X7_init) 68 = .ok (.return_, 1) := by decide +kernel
theorem d_X7_start_0 : decode (qMc M_X7_start) 0 = .ok (.aload_n 0, 1) := by decide +kernel
theorem d_X7_start_1 : decode (qMc M_X7_start) 1 = .ok (.iload_n 1, 1) := by decide +kernel
theorem d_X7_start_2 : decode (qMc M_X7_start) 2 = .ok (.putfield 21, 3) := by decide +kernel
theorem d_X7_start_5 : decode (qMc M_X7_start) 5 = .ok (.aload_n 0, 1) := by decide +kernel
theorem d_X7_start_6 : decode (qMc M_X7_start) 6 = .ok (.iload_n 3, 1) := by decide +kernel
theorem d_X7_start_7 : decode (qMc M_X7_start) 7 = .ok (.putfield 25, 3) := by decide +kernel
theorem d_X7_start_10 : decode (qMc M_X7_start) 10 = .ok (.aload_n 0, 1) := by decide +kernel
theorem d_X7_start_11 : decode (qMc M_X7_start) 11 = .ok (.iconst 0, 1) := by decide +kernel
theorem d_X7_start_12 : decode (qMc M_X7_start) 12 = .ok (.putfield 29, 3) := by decide +kernel
theorem d_X7_start_15 : decode (qMc M_X7_start) 15 = .ok (.aload_n 0, 1) := by decide +kernel
theorem d_X7_start_16 : decode (qMc M_X7_start) 16 = .ok (.iconst (-1), 1) := by decide +kernel
theorem d_X7_start_17 : decode (qMc M_X7_start) 17 = .ok (.putfield 32, 3) := by decide +kernel
theorem d_X7_start_20 : decode (qMc M_X7_start) 20 = .ok (.aload_n 0, 1) := by decide +kernel
theorem d_X7_start_21 : decode (qMc M_X7_start) 21 = .ok (.iconst 3, 1) := by decide +kernel
theorem d_X7_start_22 : decode (qMc M_X7_start) 22 = .ok (.iload_n 1, 1) := by decide +kernel
theorem d_X7_start_23 : decode (qMc M_X7_start) 23 = .ok (.imul, 1) := by decide +kernel
theorem d_X7_start_24 : decode (qMc M_X7_start) 24 = .ok (.bipush 20, 2) := by decide +kernel
theorem d_X7_start_26 : decode (qMc M_X7_start) 26 = .ok (.iadd, 1) := by decide +kernel
theorem d_X7_start_27 : decode (qMc M_X7_start) 27 = .ok (.putfield 35, 3) := by decide +kernel
theorem d_X7_start_30 : decode (qMc M_X7_start) 30 = .ok (.aload_n 0, 1) := by decide +kernel
theorem d_X7_start_31 : decode (qMc M_X7_start) 31 = .ok (.iconst 0, 1) := by decide +kernel
theorem d_X7_start_32 : decode (qMc M_X7_start) 32 = .ok (.putfield 38, 3) := by decide +kernel
theorem d_X7_start_35 : decode (qMc M_X7_start) 35 = .ok (.aload_n 0, 1) := by decide +kernel
theorem d_X7_start_36 : decode (qMc M_X7_start) 36 = .ok (.iconst 0, 1) := by decide +kernel
theorem d_X7_start_37 : decode (qMc M_X7_start) 37 = .ok (.putfield 41, 3) := by decide +kernel
theorem d_X7_start_40 : decode (qMc M_X7_start) 40 = .ok (.aload_n 0, 1) := by decide +kernel
theorem d_X7_start_41 : decode (qMc M_X7_start) 41 = .ok (.iconst 0, 1) := by decide +kernel
theorem d_X7_start_42 : decode (qMc M_X7_start) 42 = .ok (.putfield 44, 3) := by decide +kernel
theorem d_X7_start_45 : decode (qMc M_X7_start) 45 = .ok (.aload_n 0, 1) := by decide +kernel
theorem d_X7_start_46 : decode (qMc M_X7_start) 46 = .ok (.getfield 9, 3) := by decide +kernel
theorem d_X7_start_49 : decode (qMc M_X7_start) 49 = .ok (.iconst 0, 1) := by decide +kernel
theorem d_X7_start_50 : decode (qMc M_X7_start) 50 = .ok (.invokestatic 47, 3) := by decide +kernel
theorem d_X7_start_53 : decode (qMc M_X7_start) 53 = .ok (.aload_n 0, 1) := by decide +kernel
theorem d_X7_start_54 : decode (qMc M_X7_start) 54 = .ok (.getfield 9, 3) := by decide +kernel
theorem d_X7_start_57 : decode (qMc M_X7_start) 57 = .ok (.iload_n 2, 1) := by decide +kernel
theorem d_X7_start_58 : decode (qMc M_X7_start) 58 = .ok (.iconst 1, 1) := by decide +kernel
theorem d_X7_start_59 : decode (qMc M_X7_start) 59 = .ok (.iastore, 1) := by decide +kernel
theorem d_X7_start_60 : decode (qMc M_X7_start) 60 = .ok (.return_, 1) := by decide +kernel
theorem d_X7_startTree_0 : decode (qMc M_X7_startTree) 0 = .ok (.iconst 0, 1) := by decide +kernel
theorem d_X7_startTree_1 : decode (qMc M_X7_startTree) 1 = .ok (.istore_n 2, 1) := by decide +kernel
theorem d_X7_startTree_2 : decode (qMc M_X7_startTree) 2 = .ok (.aload_n 0, 1) := by decide +kernel
theorem d_X7_startTree_3 : decode (qMc M_X7_startTree) 3 = .ok (.getfield 15, 3) := by decide +kernel
theorem d_X7_startTree_6 : decode (qMc M_X7_startTree) 6 = .ok (.iconst (-1), 1) := by decide +kernel
theorem d_X7_startTree_7 : decode (qMc M_X7_startTree) 7 = .ok (.invokestatic 47, 3) := by decide +kernel
theorem d_X7_startTree_10 : decode (qMc M_X7_startTree) 10 = .ok (.iconst 0, 1) := by decide +kernel
theorem d_X7_startTree_11 : decode (qMc M_X7_startTree) 11 = .ok (.istore_n 3, 1) := by decide +kernel
theorem d_X7_startTree_12 : decode (qMc M_X7_startTree) 12 = .ok (.iload_n 3, 1) := by decide +kernel
theorem d_X7_startTree_13 : decode (qMc M_X7_startTree) 13 = .ok (.aload_n 1, 1) := by decide +kernel
theorem d_X7_startTree_14 : decode (qMc M_X7_startTree) 14 = .ok (.getfield 53, 3) := by decide +kernel
theorem d_X7_startTree_17 : decode (qMc M_X7_startTree) 17 = .ok (.if_icmp .ge 37, 3) := by decide +kernel
theorem d_X7_startTree_20 : decode (qMc M_X7_startTree) 20 = .ok (.aload_n 1, 1) := by decide +kernel
theorem d_X7_startTree_21 : decode (qMc M_X7_startTree) 21 = .ok (.iload_n 3, 1) := by decide +kernel
theorem d_X7_startTree_22 : decode (qMc M_X7_startTree) 22 = .ok (.iconst 0, 1) := by decide +kernel
theorem d_X7_startTree_23 : decode (qMc M_X7_startTree) 23 = .ok (.invokevirtual 58, 3) := by decide +kernel
theorem d_X7_startTree_26 : decode (qMc M_X7_startTree) 26 = .ok (.istore 4, 2) := by decide +kernel
theorem d_X7_startTree_28 : decode (qMc M_X7_startTree) 28 = .ok (.aload_n 0, 1) := by decide +kernel
theorem d_X7_startTree_29 : decode (qMc M_X7_startTree) 29 = .ok (.getfield 15, 3) := by decide +kernel
theorem d_X7_startTree_32 : decode (qMc M_X7_startTree) 32 = .ok (.iload 4, 2) := by decide +kernel
theorem d_X7_startTree_34 : decode (qMc M_X7_startTree) 34 = .ok (.aload_n 1, 1) := by decide +kernel
theorem d_X7_startTree_35 : decode (qMc M_X7_startTree) 35 = .ok (.iload_n 3, 1) := by decide +kernel
theorem d_X7_startTree_36 : decode (qMc M_X7_startTree) 36 = .ok (.iconst 1, 1) := by decide +kernel
theorem d_X7_startTree_37 : decode (qMc M_X7_startTree) 37 = .ok (.invokevirtual 58, 3) := by decide +kernel
theorem d_X7_startTree_40 : decode (qMc M_X7_startTree) 40 = .ok (.iastore, 1) := by decide +kernel
theorem d_X7_startTree_41 : decode (qMc M_X7_startTree) 41 = .ok (.iload_n 2, 1) := by decide +kernel
theorem d_X7_startTree_42 : decode (qMc M_X7_startTree) 42 = .ok (.iload 4, 2) := by decide +kernel
theorem d_X7_startTree_44 : decode (qMc M_X7_startTree) 44 = .ok (.invokestatic 62, 3) := by decide +kernel
theorem d_X7_startTree_47 : decode (qMc M_X7_startTree) 47 = .ok (.istore_n 2, 1) := by decide +kernel
theorem d_X7_startTree_48 : decode (qMc M_X7_startTree) 48 = .ok (.iinc 3 1, 3) := by decide +kernel
theorem d_X7_startTree_51 : decode (qMc M_X7_startTree) 51 = .ok (.goto (-39), 3) := by decide +kernel
theorem d_X7_startTree_54 : decode (qMc M_X7_startTree) 54 = .ok (.aload_n 0, 1) := by decide +kernel
theorem d_X7_startTree_55 : decode (qMc M_X7_startTree) 55 = .ok (.iload_n 2, 1) := by decide +kernel
theorem d_X7_startTree_56 : decode (qMc M_X7_startTree) 56 = .ok (.iconst 1, 1) := by decide +kernel
theorem d_X7_startTree_57 : decode (qMc M_X7_startTree) 57 = .ok (.iadd, 1) := by decide +kernel
theorem d_X7_startTree_58 : decode (qMc M_X7_startTree) 58 = .ok (.iconst 0, 1) := by decide +kernel
theorem d_X7_startTree_59 : decode (qMc M_X7_startTree) 59 = .ok (.iconst 0, 1) := by decide +kernel
theorem d_X7_startTree_60 : decode (qMc M_X7_startTree) 60 = .ok (.invokevirtual 67, 3) := by decide +kernel
theorem d_X7_startTree_63 : decode (qMc M_X7_startTree) 63 = .ok (.aload_n 0, 1) := by decide +kernel
theorem d_X7_startTree_64 : decode (qMc M_X7_startTree) 64 = .ok (.iconst 1, 1) := by decide +kernel
theorem d_X7_startTree_65 : decode (qMc M_X7_startTree) 65 = .ok (.putfield 29, 3) := by decide +kernel
theorem d_X7_startTree_68 : decode (qMc M_X7_startTree) 68 = .ok (.return_, 1) := by decide +kernel
theorem d_X7_goesOn_0 : decode (qMc M_X7_goesOn) 0 = .ok (.aload_n 0, 1) := by decide +kernel
theorem d_X7_goesOn_1 : decode (qMc M_X7_goesOn) 1 = .ok (.getfield 38, 3) := by decide +kernel
theorem d_X7_goesOn_4 : decode (qMc M_X7_goesOn) 4 = .ok (.aload_n 0, 1) := by decide +kernel
theorem d_X7_goesOn_5 : decode (qMc M_X7_goesOn) 5 = .ok (.getfield 35, 3) := by decide +kernel
theorem d_X7_goesOn_8 : decode (qMc M_X7_goesOn) 8 = .ok (.if_icmp .ge 14, 3) := by decide +kernel
theorem d_X7_goesOn_11 : decode (qMc M_X7_goesOn) 11 = .ok (.aload_n 0, 1) := by decide +kernel
theorem d_X7_goesOn_12 : decode (qMc M_X7_goesOn) 12 = .ok (.getfield 41, 3) := by decide +kernel
theorem d_X7_goesOn_15 : decode (qMc M_X7_goesOn) 15 = .ok (.ifCond .ne 7, 3) := by decide +kernel
theorem d_X7_goesOn_18 : decode (qMc M_X7_goesOn) 18 = .ok (.iconst 1, 1) := by decide +kernel
theorem d_X7_goesOn_19 : decode (qMc M_X7_goesOn) 19 = .ok (.goto 4, 3) := by decide +kernel
theorem d_X7_goesOn_22 : decode (qMc M_X7_goesOn) 22 = .ok (.iconst 0, 1) := by decide +kernel
theorem d_X7_goesOn_23 : decode (qMc M_X7_goesOn) 23 = .ok (.ireturn, 1) := by decide +kernel
theorem d_X7_isGood_0 : decode (qMc M_X7_isGood) 0 = .ok (.aload_n 0, 1) := by decide +kernel
theorem d_X7_isGood_1 : decode (qMc M_X7_isGood) 1 = .ok (.getfield 41, 3) := by decide +kernel
theorem d_X7_isGood_4 : decode (qMc M_X7_isGood) 4 = .ok (.aload_n 0, 1) := by decide +kernel
theorem d_X7_isGood_5 : decode (qMc M_X7_isGood) 5 = .ok (.getfield 21, 3) := by decide +kernel
theorem d_X7_isGood_8 : decode (qMc M_X7_isGood) 8 = .ok (.if_icmp .ne 7, 3) := by decide +kernel
theorem d_X7_isGood_11 : decode (qMc M_X7_isGood) 11 = .ok (.iconst 1, 1) := by decide +kernel
theorem d_X7_isGood_12 : decode (qMc M_X7_isGood) 12 = .ok (.goto 4, 3) := by decide +kernel
theorem d_X7_isGood_15 : decode (qMc M_X7_isGood) 15 = .ok (.iconst 0, 1) := by decide +kernel
theorem d_X7_isGood_16 : decode (qMc M_X7_isGood) 16 = .ok (.ireturn, 1) := by decide +kernel
theorem d_X7_finish_0 : decode (qMc M_X7_finish) 0 = .ok (.iconst 1, 1) := by decide +kernel
theorem d_X7_finish_1 : decode (qMc M_X7_finish) 1 = .ok (.istore_n 2, 1) := by decide +kernel
theorem d_X7_finish_2 : decode (qMc M_X7_finish) 2 = .ok (.iconst 0, 1) := by decide +kernel
theorem d_X7_finish_3 : decode (qMc M_X7_finish) 3 = .ok (.istore_n 3, 1) := by decide +kernel
theorem d_X7_finish_4 : decode (qMc M_X7_finish) 4 = .ok (.iload_n 3, 1) := by decide +kernel
theorem d_X7_finish_5 : decode (qMc M_X7_finish) 5 = .ok (.aload_n 0, 1) := by decide +kernel
theorem d_X7_finish_6 : decode (qMc M_X7_finish) 6 = .ok (.getfield 35, 3) := by decide +kernel
theorem d_X7_finish_9 : decode (qMc M_X7_finish) 9 = .ok (.if_icmp .ge 38, 3) := by decide +kernel
theorem d_X7_finish_12 : decode (qMc M_X7_finish) 12 = .ok (.aload_n 0, 1) := by decide +kernel
theorem d_X7_finish_13 : decode (qMc M_X7_finish) 13 = .ok (.getfield 41, 3) := by decide +kernel
theorem d_X7_finish_16 : decode (qMc M_X7_finish) 16 = .ok (.ifCond .ne 31, 3) := by decide +kernel
theorem d_X7_finish_19 : decode (qMc M_X7_finish) 19 = .ok (.iload_n 2, 1) := by decide +kernel
theorem d_X7_finish_20 : decode (qMc M_X7_finish) 20 = .ok (.ifCond .eq 27, 3) := by decide +kernel
theorem d_X7_finish_23 : decode (qMc M_X7_finish) 23 = .ok (.aload_n 0, 1) := by decide +kernel
theorem d_X7_finish_24 : decode (qMc M_X7_finish) 24 = .ok (.aload_n 1, 1) := by decide +kernel
theorem d_X7_finish_25 : decode (qMc M_X7_finish) 25 = .ok (.invokevirtual 71, 3) := by decide +kernel
theorem d_X7_finish_28 : decode (qMc M_X7_finish) 28 = .ok (.aload_n 0, 1) := by decide +kernel
theorem d_X7_finish_29 : decode (qMc M_X7_finish) 29 = .ok (.getfield 44, 3) := by decide +kernel
theorem d_X7_finish_32 : decode (qMc M_X7_finish) 32 = .ok (.ifCond .le 7, 3) := by decide +kernel
theorem d_X7_finish_35 : decode (qMc M_X7_finish) 35 = .ok (.iconst 1, 1) := by decide +kernel
theorem d_X7_finish_36 : decode (qMc M_X7_finish) 36 = .ok (.goto 4, 3) := by decide +kernel
theorem d_X7_finish_39 : decode (qMc M_X7_finish) 39 = .ok (.iconst 0, 1) := by decide +kernel
theorem d_X7_finish_40 : decode (qMc M_X7_finish) 40 = .ok (.istore_n 2, 1) := by decide +kernel
theorem d_X7_finish_41 : decode (qMc M_X7_finish) 41 = .ok (.iinc 3 1, 3) := by decide +kernel
theorem d_X7_finish_44 : decode (qMc M_X7_finish) 44 = .ok (.goto (-40), 3) := by decide +kernel
theorem d_X7_finish_47 : decode (qMc M_X7_finish) 47 = .ok (.return_, 1) := by decide +kernel
theorem d_X7_breathe_0 : decode (qMc M_X7_breathe) 0 = .ok (.aload_n 0, 1) := by decide +kernel
theorem d_X7_breathe_1 : decode (qMc M_X7_breathe) 1 = .ok (.getfield 29, 3) := by decide +kernel
theorem d_X7_breathe_4 : decode (qMc M_X7_breathe) 4 = .ok (.ifCond .eq 11, 3) := by decide +kernel
theorem d_X7_breathe_7 : decode (qMc M_X7_breathe) 7 = .ok (.aload_n 0, 1) := by decide +kernel
theorem d_X7_breathe_8 : decode (qMc M_X7_breathe) 8 = .ok (.aload_n 1, 1) := by decide +kernel
theorem d_X7_breathe_9 : decode (qMc M_X7_breathe) 9 = .ok (.invokevirtual 75, 3) := by decide +kernel
theorem d_X7_breathe_12 : decode (qMc M_X7_breathe) 12 = .ok (.goto 8, 3) := by decide +kernel
theorem d_X7_breathe_15 : decode (qMc M_X7_breathe) 15 = .ok (.aload_n 0, 1) := by decide +kernel
theorem d_X7_breathe_16 : decode (qMc M_X7_breathe) 16 = .ok (.aload_n 1, 1) := by decide +kernel
theorem d_X7_breathe_17 : decode (qMc M_X7_breathe) 17 = .ok (.invokevirtual 78, 3) := by decide +kernel
theorem d_X7_breathe_20 : decode (qMc M_X7_breathe) 20 = .ok (.aload_n 0, 1) := by decide +kernel
theorem d_X7_breathe_21 : decode (qMc M_X7_breathe) 21 = .ok (.dup, 1) := by decide +kernel
theorem d_X7_breathe_22 : decode (qMc M_X7_breathe) 22 = .ok (.getfield 38, 3) := by decide +kernel
theorem d_X7_breathe_25 : decode (qMc M_X7_breathe) 25 = .ok (.iconst 1, 1) := by decide +kernel
theorem d_X7_breathe_26 : decode (qMc M_X7_breathe) 26 = .ok (.iadd, 1) := by decide +kernel
theorem d_X7_breathe_27 : decode (qMc M_X7_breathe) 27 = .ok (.putfield 38, 3) := by decide +kernel
theorem d_X7_breathe_30 : decode (qMc M_X7_breathe) 30 = .ok (.return_, 1) := by decide +kernel
theorem d_X7_breatheRow_0 : decode (qMc M_X7_breatheRow) 0 = .ok (.aload_n 0, 1) := by decide +kernel
theorem d_X7_breatheRow_1 : decode (qMc M_X7_breatheRow) 1 = .ok (.getfield 25, 3) := by decide +kernel
theorem d_X7_breatheRow_4 : decode (qMc M_X7_breatheRow) 4 = .ok (.ifCond .eq 17, 3) := by decide +kernel
theorem d_X7_breatheRow_7 : decode (qMc M_X7_breatheRow) 7 = .ok (.aload_n 0, 1) := by decide +kernel
theorem d_X7_breatheRow_8 : decode (qMc M_X7_breatheRow) 8 = .ok (.getfield 9, 3) := by decide +kernel
theorem d_X7_breatheRow_11 : decode (qMc M_X7_breatheRow) 11 = .ok (.aload_n 0, 1) := by decide +kernel
theorem d_X7_breatheRow_12 : decode (qMc M_X7_breatheRow) 12 = .ok (.getfield 21, 3) := by decide +kernel
theorem d_X7_breatheRow_15 : decode (qMc M_X7_breatheRow) 15 = .ok (.iconst 1, 1) := by decide +kernel
theorem d_X7_breatheRow_16 : decode (qMc M_X7_breatheRow) 16 = .ok (.isub, 1) := by decide +kernel
theorem d_X7_breatheRow_17 : decode (qMc M_X7_breatheRow) 17 = .ok (.iaload, 1) := by decide +kernel
theorem d_X7_breatheRow_18 : decode (qMc M_X7_breatheRow) 18 = .ok (.goto 5, 3) := by decide +kernel
theorem d_X7_breatheRow_21 : decode (qMc M_X7_breatheRow) 21 = .ok (.bipush 8, 2) := by decide +kernel
theorem d_X7_breatheRow_23 : decode (qMc M_X7_breatheRow) 23 = .ok (.istore_n 2, 1) := by decide +kernel
theorem d_X7_breatheRow_24 : decode (qMc M_X7_breatheRow) 24 = .ok (.aload_n 0, 1) := by decide +kernel
theorem d_X7_breatheRow_25 : decode (qMc M_X7_breatheRow) 25 = .ok (.getfield 25, 3) := by decide +kernel
theorem d_X7_breatheRow_28 : decode (qMc M_X7_breatheRow) 28 = .ok (.ifCond .eq 12, 3) := by decide +kernel
theorem d_X7_breatheRow_31 : decode (qMc M_X7_breatheRow) 31 = .ok (.aload_n 0, 1) := by decide +kernel
theorem d_X7_breatheRow_32 : decode (qMc M_X7_breatheRow) 32 = .ok (.getfield 9, 3) := by decide +kernel
theorem d_X7_breatheRow_35 : decode (qMc M_X7_breatheRow) 35 = .ok (.iconst 0, 1) := by decide +kernel
theorem d_X7_breatheRow_36 : decode (qMc M_X7_breatheRow) 36 = .ok (.iaload, 1) := by decide +kernel
theorem d_X7_breatheRow_37 : decode (qMc M_X7_breatheRow) 37 = .ok (.goto 5, 3) := by decide +kernel
theorem d_X7_breatheRow_40 : decode (qMc M_X7_breatheRow) 40 = .ok (.bipush 8, 2) := by decide +kernel
theorem d_X7_breatheRow_42 : decode (qMc M_X7_breatheRow) 42 = .ok (.istore_n 3, 1) := by decide +kernel
theorem d_X7_breatheRow_43 : decode (qMc M_X7_breatheRow) 43 = .ok (.iconst 0, 1) := by decide +kernel
theorem d_X7_breatheRow_44 : decode (qMc M_X7_breatheRow) 44 = .ok (.istore 4, 2) := by decide +kernel
theorem d_X7_breatheRow_46 : decode (qMc M_X7_breatheRow) 46 = .ok (.iconst 0, 1) := by decide +kernel
theorem d_X7_breatheRow_47 : decode (qMc M_X7_breatheRow) 47 = .ok (.istore 5, 2) := by decide +kernel
theorem d_X7_breatheRow_49 : decode (qMc M_X7_breatheRow) 49 = .ok (.iconst 0, 1) := by decide +kernel
theorem d_X7_breatheRow_50 : decode (qMc M_X7_breatheRow) 50 = .ok (.istore 6, 2) := by decide +kernel
theorem d_X7_breatheRow_52 : decode (qMc M_X7_breatheRow) 52 = .ok (.iload 6, 2) := by decide +kernel
theorem d_X7_breatheRow_54 : decode (qMc M_X7_breatheRow) 54 = .ok (.aload_n 0, 1) := by decide +kernel
theorem d_X7_breatheRow_55 : decode (qMc M_X7_breatheRow) 55 = .ok (.getfield 21, 3) := by decide +kernel
theorem d_X7_breatheRow_58 : decode (qMc M_X7_breatheRow) 58 = .ok (.if_icmp .ge 121, 3) := by decide +kernel
theorem d_X7_breatheRow_61 : decode (qMc M_X7_breatheRow) 61 = .ok (.aload_n 0, 1) := by decide +kernel
theorem d_X7_breatheRow_62 : decode (qMc M_X7_breatheRow) 62 = .ok (.getfield 9, 3) := by decide +kernel
theorem d_X7_breatheRow_65 : decode (qMc M_X7_breatheRow) 65 = .ok (.iload 6, 2) := by decide +kernel
theorem d_X7_breatheRow_67 : decode (qMc M_X7_breatheRow) 67 = .ok (.iaload, 1) := by decide +kernel
theorem d_X7_breatheRow_68 : decode (qMc M_X7_breatheRow) 68 = .ok (.istore 7, 2) := by decide +kernel
theorem d_X7_breatheRow_70 : decode (qMc M_X7_breatheRow) 70 = .ok (.iload 6, 2) := by decide +kernel
theorem d_X7_breatheRow_72 : decode (qMc M_X7_breatheRow) 72 = .ok (.iconst 1, 1) := by decide +kernel
theorem d_X7_breatheRow_73 : decode (qMc M_X7_breatheRow) 73 = .ok (.iadd, 1) := by decide +kernel
theorem d_X7_breatheRow_74 : decode (qMc M_X7_breatheRow) 74 = .ok (.aload_n 0, 1) := by decide +kernel
theorem d_X7_breatheRow_75 : decode (qMc M_X7_breatheRow) 75 = .ok (.getfield 21, 3) := by decide +kernel
theorem d_X7_breatheRow_78 : decode (qMc M_X7_breatheRow) 78 = .ok (.if_icmp .ge 15, 3) := by decide +kernel
theorem d_X7_breatheRow_81 : decode (qMc M_X7_breatheRow) 81 = .ok (.aload_n 0, 1) := by decide +kernel
theorem d_X7_breatheRow_82 : decode (qMc M_X7_breatheRow) 82 = .ok (.getfield 9, 3) := by decide +kernel
theorem d_X7_breatheRow_85 : decode (qMc M_X7_breatheRow) 85 = .ok (.iload 6, 2) := by decide +kernel
theorem d_X7_breatheRow_87 : decode (qMc M_X7_breatheRow) 87 = .ok (.iconst 1, 1) := by decide +kernel
theorem d_X7_breatheRow_88 : decode (qMc M_X7_breatheRow) 88 = .ok (.iadd, 1) := by decide +kernel
theorem d_X7_breatheRow_89 : decode (qMc M_X7_breatheRow) 89 = .ok (.iaload, 1) := by decide +kernel
theorem d_X7_breatheRow_90 : decode (qMc M_X7_breatheRow) 90 = .ok (.goto 4, 3) := by decide +kernel
theorem d_X7_breatheRow_93 : decode (qMc M_X7_breatheRow) 93 = .ok (.iload_n 3, 1) := by decide +kernel
theorem d_X7_breatheRow_94 : decode (qMc M_X7_breatheRow) 94 = .ok (.istore 8, 2) := by decide +kernel
theorem d_X7_breatheRow_96 : decode (qMc M_X7_breatheRow) 96 = .ok (.iload 6, 2) := by decide +kernel
theorem d_X7_breatheRow_98 : decode (qMc M_X7_breatheRow) 98 = .ok (.aload_n 0, 1) := by decide +kernel
theorem d_X7_breatheRow_99 : decode (qMc M_X7_breatheRow) 99 = .ok (.getfield 32, 3) := by decide +kernel
theorem d_X7_breatheRow_102 : decode (qMc M_X7_breatheRow) 102 = .ok (.if_icmp .ne 8, 3) := by decide +kernel
theorem d_X7_breatheRow_105 : decode (qMc M_X7_breatheRow) 105 = .ok (.iload 7, 2) := by decide +kernel
theorem d_X7_breatheRow_107 : decode (qMc M_X7_breatheRow) 107 = .ok (.goto 18, 3) := by decide +kernel
theorem d_X7_breatheRow_110 : decode (qMc M_X7_breatheRow) 110 = .ok (.aload_n 1, 1) := by decide +kernel
theorem d_X7_breatheRow_111 : decode (qMc M_X7_breatheRow) 111 = .ok (.iload 7, 2) := by decide +kernel
theorem d_X7_breatheRow_113 : decode (qMc M_X7_breatheRow) 113 = .ok (.bipush 9, 2) := by decide +kernel
theorem d_X7_breatheRow_115 : decode (qMc M_X7_breatheRow) 115 = .ok (.imul, 1) := by decide +kernel
theorem d_X7_breatheRow_116 : decode (qMc M_X7_breatheRow) 116 = .ok (.iload_n 2, 1) := by decide +kernel
theorem d_X7_breatheRow_117 : decode (qMc M_X7_breatheRow) 117 = .ok (.iadd, 1) := by decide +kernel
theorem d_X7_breatheRow_118 : decode (qMc M_X7_breatheRow) 118 = .ok (.bipush 9, 2) := by decide +kernel
theorem d_X7_breatheRow_120 : decode (qMc M_X7_breatheRow) 120 = .ok (.imul, 1) := by decide +kernel
theorem d_X7_breatheRow_121 : decode (qMc M_X7_breatheRow) 121 = .ok (.iload 8, 2) := by decide +kernel
theorem d_X7_breatheRow_123 : decode (qMc M_X7_breatheRow) 123 = .ok (.iadd, 1) := by decide +kernel
theorem d_X7_breatheRow_124 : decode (qMc M_X7_breatheRow) 124 = .ok (.iaload, 1) := by decide +kernel
theorem d_X7_breatheRow_125 : decode (qMc M_X7_breatheRow) 125 = .ok (.istore 9, 2) := by decide +kernel
theorem d_X7_breatheRow_127 : decode (qMc M_X7_breatheRow) 127 = .ok (.aload_n 0, 1) := by decide +kernel
theorem d_X7_breatheRow_128 : decode (qMc M_X7_breatheRow) 128 = .ok (.getfield 9, 3) := by decide +kernel
theorem d_X7_breatheRow_131 : decode (qMc M_X7_breatheRow) 131 = .ok (.iload 6, 2) := by decide +kernel
theorem d_X7_breatheRow_133 : decode (qMc M_X7_breatheRow) 133 = .ok (.iload 9, 2) := by decide +kernel
theorem d_X7_breatheRow_135 : decode (qMc M_X7_breatheRow) 135 = .ok (.iastore, 1) := by decide +kernel
theorem d_X7_breatheRow_136 : decode (qMc M_X7_breatheRow) 136 = .ok (.iload 4, 2) := by decide +kernel
theorem d_X7_breatheRow_138 : decode (qMc M_X7_breatheRow) 138 = .ok (.iload 9, 2) := by decide +kernel
theorem d_X7_breatheRow_140 : decode (qMc M_X7_breatheRow) 140 = .ok (.bipush 7, 2) := by decide +kernel
theorem d_X7_breatheRow_142 : decode (qMc M_X7_breatheRow) 142 = .ok (.if_icmp .ne 7, 3) := by decide +kernel
theorem d_X7_breatheRow_145 : decode (qMc M_X7_breatheRow) 145 = .ok (.iconst 1, 1) := by decide +kernel
theorem d_X7_breatheRow_146 : decode (qMc M_X7_breatheRow) 146 = .ok (.goto 4, 3) := by decide +kernel
theorem d_X7_breatheRow_149 : decode (qMc M_X7_breatheRow) 149 = .ok (.iconst 0, 1) := by decide +kernel
theorem d_X7_breatheRow_150 : decode (qMc M_X7_breatheRow) 150 = .ok (.iadd, 1) := by decide +kernel
theorem d_X7_breatheRow_151 : decode (qMc M_X7_breatheRow) 151 = .ok (.istore 4, 2) := by decide +kernel
theorem d_X7_breatheRow_153 : decode (qMc M_X7_breatheRow) 153 = .ok (.iload 5, 2) := by decide +kernel
theorem d_X7_breatheRow_155 : decode (qMc M_X7_breatheRow) 155 = .ok (.iload 9, 2) := by decide +kernel
theorem d_X7_breatheRow_157 : decode (qMc M_X7_breatheRow) 157 = .ok (.iload 7, 2) := by decide +kernel
theorem d_X7_breatheRow_159 : decode (qMc M_X7_breatheRow) 159 = .ok (.if_icmp .eq 7, 3) := by decide +kernel
theorem d_X7_breatheRow_162 : decode (qMc M_X7_breatheRow) 162 = .ok (.iconst 1, 1) := by decide +kernel
theorem d_X7_breatheRow_163 : decode (qMc M_X7_breatheRow) 163 = .ok (.goto 4, 3) := by decide +kernel
theorem d_X7_breatheRow_166 : decode (qMc M_X7_breatheRow) 166 = .ok (.iconst 0, 1) := by decide +kernel
theorem d_X7_breatheRow_167 : decode (qMc M_X7_breatheRow) 167 = .ok (.iadd, 1) := by decide +kernel
theorem d_X7_breatheRow_168 : decode (qMc M_X7_breatheRow) 168 = .ok (.istore 5, 2) := by decide +kernel
theorem d_X7_breatheRow_170 : decode (qMc M_X7_breatheRow) 170 = .ok (.iload 7, 2) := by decide +kernel
theorem d_X7_breatheRow_172 : decode (qMc M_X7_breatheRow) 172 = .ok (.istore_n 2, 1) := by decide +kernel
theorem d_X7_breatheRow_173 : decode (qMc M_X7_breatheRow) 173 = .ok (.iinc 6 1, 3) := by decide +kernel
theorem d_X7_breatheRow_176 : decode (qMc M_X7_breatheRow) 176 = .ok (.goto (-124), 3) := by decide +kernel
theorem d_X7_breatheRow_179 : decode (qMc M_X7_breatheRow) 179 = .ok (.aload_n 0, 1) := by decide +kernel
theorem d_X7_breatheRow_180 : decode (qMc M_X7_breatheRow) 180 = .ok (.iload 4, 2) := by decide +kernel
theorem d_X7_breatheRow_182 : decode (qMc M_X7_breatheRow) 182 = .ok (.putfield 41, 3) := by decide +kernel
theorem d_X7_breatheRow_185 : decode (qMc M_X7_breatheRow) 185 = .ok (.aload_n 0, 1) := by decide +kernel
theorem d_X7_breatheRow_186 : decode (qMc M_X7_breatheRow) 186 = .ok (.iload 5, 2) := by decide +kernel
theorem d_X7_breatheRow_188 : decode (qMc M_X7_breatheRow) 188 = .ok (.putfield 44, 3) := by decide +kernel
theorem d_X7_breatheRow_191 : decode (qMc M_X7_breatheRow) 191 = .ok (.return_, 1) := by decide +kernel
theorem d_X7_breatheTree_0 : decode (qMc M_X7_breatheTree) 0 = .ok (.aload_n 0, 1) := by decide +kernel
theorem d_X7_breatheTree_1 : decode (qMc M_X7_breatheTree) 1 = .ok (.getfield 18, 3) := by decide +kernel
theorem d_X7_breatheTree_4 : decode (qMc M_X7_breatheTree) 4 = .ok (.iconst (-1), 1) := by decide +kernel
theorem d_X7_breatheTree_5 : decode (qMc M_X7_breatheTree) 5 = .ok (.invokestatic 47, 3) := by decide +kernel
theorem d_X7_breatheTree_8 : decode (qMc M_X7_breatheTree) 8 = .ok (.iconst 1, 1) := by decide +kernel
theorem d_X7_breatheTree_9 : decode (qMc M_X7_breatheTree) 9 = .ok (.istore_n 2, 1) := by decide +kernel
theorem d_X7_breatheTree_10 : decode (qMc M_X7_breatheTree) 10 = .ok (.iload_n 2, 1) := by decide +kernel
theorem d_X7_breatheTree_11 : decode (qMc M_X7_breatheTree) 11 = .ok (.aload_n 0, 1) := by decide +kernel
theorem d_X7_breatheTree_12 : decode (qMc M_X7_breatheTree) 12 = .ok (.getfield 21, 3) := by decide +kernel
theorem d_X7_breatheTree_15 : decode (qMc M_X7_breatheTree) 15 = .ok (.if_icmp .ge 50, 3) := by decide +kernel
theorem d_X7_breatheTree_18 : decode (qMc M_X7_breatheTree) 18 = .ok (.aload_n 0, 1) := by decide +kernel
theorem d_X7_breatheTree_19 : decode (qMc M_X7_breatheTree) 19 = .ok (.getfield 15, 3) := by decide +kernel
theorem d_X7_breatheTree_22 : decode (qMc M_X7_breatheTree) 22 = .ok (.iload_n 2, 1) := by decide +kernel
theorem d_X7_breatheTree_23 : decode (qMc M_X7_breatheTree) 23 = .ok (.iaload, 1) := by decide +kernel
theorem d_X7_breatheTree_24 : decode (qMc M_X7_breatheTree) 24 = .ok (.iconst (-1), 1) := by decide +kernel
theorem d_X7_breatheTree_25 : decode (qMc M_X7_breatheTree) 25 = .ok (.if_icmp .eq 34, 3) := by decide +kernel
theorem d_X7_breatheTree_28 : decode (qMc M_X7_breatheTree) 28 = .ok (.aload_n 0, 1) := by decide +kernel
theorem d_X7_breatheTree_29 : decode (qMc M_X7_breatheTree) 29 = .ok (.getfield 18, 3) := by decide +kernel
theorem d_X7_breatheTree_32 : decode (qMc M_X7_breatheTree) 32 = .ok (.aload_n 0, 1) := by decide +kernel
theorem d_X7_breatheTree_33 : decode (qMc M_X7_breatheTree) 33 = .ok (.getfield 15, 3) := by decide +kernel
theorem d_X7_breatheTree_36 : decode (qMc M_X7_breatheTree) 36 = .ok (.iload_n 2, 1) := by decide +kernel
theorem d_X7_breatheTree_37 : decode (qMc M_X7_breatheTree) 37 = .ok (.iaload, 1) := by decide +kernel
theorem d_X7_breatheTree_38 : decode (qMc M_X7_breatheTree) 38 = .ok (.aload_n 0, 1) := by decide +kernel
theorem d_X7_breatheTree_39 : decode (qMc M_X7_breatheTree) 39 = .ok (.getfield 18, 3) := by decide +kernel
theorem d_X7_breatheTree_42 : decode (qMc M_X7_breatheTree) 42 = .ok (.aload_n 0, 1) := by decide +kernel
theorem d_X7_breatheTree_43 : decode (qMc M_X7_breatheTree) 43 = .ok (.getfield 15, 3) := by decide +kernel
theorem d_X7_breatheTree_46 : decode (qMc M_X7_breatheTree) 46 = .ok (.iload_n 2, 1) := by decide +kernel
theorem d_X7_breatheTree_47 : decode (qMc M_X7_breatheTree) 47 = .ok (.iaload, 1) := by decide +kernel
theorem d_X7_breatheTree_48 : decode (qMc M_X7_breatheTree) 48 = .ok (.iaload, 1) := by decide +kernel
theorem d_X7_breatheTree_49 : decode (qMc M_X7_breatheTree) 49 = .ok (.aload_n 0, 1) := by decide +kernel
theorem d_X7_breatheTree_50 : decode (qMc M_X7_breatheTree) 50 = .ok (.getfield 9, 3) := by decide +kernel
theorem d_X7_breatheTree_53 : decode (qMc M_X7_breatheTree) 53 = .ok (.iload_n 2, 1) := by decide +kernel
theorem d_X7_breatheTree_54 : decode (qMc M_X7_breatheTree) 54 = .ok (.iaload, 1) := by decide +kernel
theorem d_X7_breatheTree_55 : decode (qMc M_X7_breatheTree) 55 = .ok (.invokestatic 62, 3) := by decide +kernel
theorem d_X7_breatheTree_58 : decode (qMc M_X7_breatheTree) 58 = .ok (.iastore, 1) := by decide +kernel
theorem d_X7_breatheTree_59 : decode (qMc M_X7_breatheTree) 59 = .ok (.iinc 2 1, 3) := by decide +kernel
theorem d_X7_breatheTree_62 : decode (qMc M_X7_breatheTree) 62 = .ok (.goto (-52), 3) := by decide +kernel
theorem d_X7_breatheTree_65 : decode (qMc M_X7_breatheTree) 65 = .ok (.aload_n 0, 1) := by decide +kernel
theorem d_X7_breatheTree_66 : decode (qMc M_X7_breatheTree) 66 = .ok (.iconst 0, 1) := by decide +kernel
theorem d_X7_breatheTree_67 : decode (qMc M_X7_breatheTree) 67 = .ok (.putfield 41, 3) := by decide +kernel
theorem d_X7_breatheTree_70 : decode (qMc M_X7_breatheTree) 70 = .ok (.aload_n 0, 1) := by decide +kernel
theorem d_X7_breatheTree_71 : decode (qMc M_X7_breatheTree) 71 = .ok (.iconst 0, 1) := by decide +kernel
theorem d_X7_breatheTree_72 : decode (qMc M_X7_breatheTree) 72 = .ok (.putfield 44, 3) := by decide +kernel
theorem d_X7_breatheTree_75 : decode (qMc M_X7_breatheTree) 75 = .ok (.aload_n 0, 1) := by decide +kernel
theorem d_X7_breatheTree_76 : decode (qMc M_X7_breatheTree) 76 = .ok (.getfield 21, 3) := by decide +kernel
theorem d_X7_breatheTree_79 : decode (qMc M_X7_breatheTree) 79 = .ok (.iconst 1, 1) := by decide +kernel
theorem d_X7_breatheTree_80 : decode (qMc M_X7_breatheTree) 80 = .ok (.isub, 1) := by decide +kernel
theorem d_X7_breatheTree_81 : decode (qMc M_X7_breatheTree) 81 = .ok (.istore_n 2, 1) := by decide +kernel
theorem d_X7_breatheTree_82 : decode (qMc M_X7_breatheTree) 82 = .ok (.iload_n 2, 1) := by decide +kernel
theorem d_X7_breatheTree_83 : decode (qMc M_X7_breatheTree) 83 = .ok (.ifCond .lt 132, 3) := by decide +kernel
theorem d_X7_breatheTree_86 : decode (qMc M_X7_breatheTree) 86 = .ok (.aload_n 0, 1) := by decide +kernel
theorem d_X7_breatheTree_87 : decode (qMc M_X7_breatheTree) 87 = .ok (.getfield 9, 3) := by decide +kernel
theorem d_X7_breatheTree_90 : decode (qMc M_X7_breatheTree) 90 = .ok (.iload_n 2, 1) := by decide +kernel
theorem d_X7_breatheTree_91 : decode (qMc M_X7_breatheTree) 91 = .ok (.iaload, 1) := by decide +kernel
theorem d_X7_breatheTree_92 : decode (qMc M_X7_breatheTree) 92 = .ok (.istore_n 3, 1) := by decide +kernel
theorem d_X7_breatheTree_93 : decode (qMc M_X7_breatheTree) 93 = .ok (.aload_n 0, 1) := by decide +kernel
theorem d_X7_breatheTree_94 : decode (qMc M_X7_breatheTree) 94 = .ok (.getfield 15, 3) := by decide +kernel
theorem d_X7_breatheTree_97 : decode (qMc M_X7_breatheTree) 97 = .ok (.iload_n 2, 1) := by decide +kernel
theorem d_X7_breatheTree_98 : decode (qMc M_X7_breatheTree) 98 = .ok (.iaload, 1) := by decide +kernel
theorem d_X7_breatheTree_99 : decode (qMc M_X7_breatheTree) 99 = .ok (.iconst (-1), 1) := by decide +kernel
theorem d_X7_breatheTree_100 : decode (qMc M_X7_breatheTree) 100 = .ok (.if_icmp .ne 8, 3) := by decide +kernel
theorem d_X7_breatheTree_103 : decode (qMc M_X7_breatheTree) 103 = .ok (.bipush 8, 2) := by decide +kernel
theorem d_X7_breatheTree_105 : decode (qMc M_X7_breatheTree) 105 = .ok (.goto 14, 3) := by decide +kernel
theorem d_X7_breatheTree_108 : decode (qMc M_X7_breatheTree) 108 = .ok (.aload_n 0, 1) := by decide +kernel
theorem d_X7_breatheTree_109 : decode (qMc M_X7_breatheTree) 109 = .ok (.getfield 9, 3) := by decide +kernel
theorem d_X7_breatheTree_112 : decode (qMc M_X7_breatheTree) 112 = .ok (.aload_n 0, 1) := by decide +kernel
theorem d_X7_breatheTree_113 : decode (qMc M_X7_breatheTree) 113 = .ok (.getfield 15, 3) := by decide +kernel
theorem d_X7_breatheTree_116 : decode (qMc M_X7_breatheTree) 116 = .ok (.iload_n 2, 1) := by decide +kernel
theorem d_X7_breatheTree_117 : decode (qMc M_X7_breatheTree) 117 = .ok (.iaload, 1) := by decide +kernel
theorem d_X7_breatheTree_118 : decode (qMc M_X7_breatheTree) 118 = .ok (.iaload, 1) := by decide +kernel
theorem d_X7_breatheTree_119 : decode (qMc M_X7_breatheTree) 119 = .ok (.istore 4, 2) := by decide +kernel
theorem d_X7_breatheTree_121 : decode (qMc M_X7_breatheTree) 121 = .ok (.aload_n 0, 1) := by decide +kernel
theorem d_X7_breatheTree_122 : decode (qMc M_X7_breatheTree) 122 = .ok (.getfield 18, 3) := by decide +kernel
theorem d_X7_breatheTree_125 : decode (qMc M_X7_breatheTree) 125 = .ok (.iload_n 2, 1) := by decide +kernel
theorem d_X7_breatheTree_126 : decode (qMc M_X7_breatheTree) 126 = .ok (.iaload, 1) := by decide +kernel
theorem d_X7_breatheTree_127 : decode (qMc M_X7_breatheTree) 127 = .ok (.iconst (-1), 1) := by decide +kernel
theorem d_X7_breatheTree_128 : decode (qMc M_X7_breatheTree) 128 = .ok (.if_icmp .ne 8, 3) := by decide +kernel
theorem d_X7_breatheTree_131 : decode (qMc M_X7_breatheTree) 131 = .ok (.bipush 8, 2) := by decide +kernel
theorem d_X7_breatheTree_133 : decode (qMc M_X7_breatheTree) 133 = .ok (.goto 9, 3) := by decide +kernel
theorem d_X7_breatheTree_136 : decode (qMc M_X7_breatheTree) 136 = .ok (.aload_n 0, 1) := by decide +kernel
theorem d_X7_breatheTree_137 : decode (qMc M_X7_breatheTree) 137 = .ok (.getfield 18, 3) := by decide +kernel
theorem d_X7_breatheTree_140 : decode (qMc M_X7_breatheTree) 140 = .ok (.iload_n 2, 1) := by decide +kernel
theorem d_X7_breatheTree_141 : decode (qMc M_X7_breatheTree) 141 = .ok (.iaload, 1) := by decide +kernel
theorem d_X7_breatheTree_142 : decode (qMc M_X7_breatheTree) 142 = .ok (.istore 5, 2) := by decide +kernel
theorem d_X7_breatheTree_144 : decode (qMc M_X7_breatheTree) 144 = .ok (.aload_n 0, 1) := by decide +kernel
theorem d_X7_breatheTree_145 : decode (qMc M_X7_breatheTree) 145 = .ok (.getfield 9, 3) := by decide +kernel
theorem d_X7_breatheTree_148 : decode (qMc M_X7_breatheTree) 148 = .ok (.iload_n 2, 1) := by decide +kernel
theorem d_X7_breatheTree_149 : decode (qMc M_X7_breatheTree) 149 = .ok (.aload_n 1, 1) := by decide +kernel
theorem d_X7_breatheTree_150 : decode (qMc M_X7_breatheTree) 150 = .ok (.iload_n 3, 1) := by decide +kernel
theorem d_X7_breatheTree_151 : decode (qMc M_X7_breatheTree) 151 = .ok (.iload 4, 2) := by decide +kernel
theorem d_X7_breatheTree_153 : decode (qMc M_X7_breatheTree) 153 = .ok (.iload 5, 2) := by decide +kernel
theorem d_X7_breatheTree_155 : decode (qMc M_X7_breatheTree) 155 = .ok (.invokestatic 81, 3) := by decide +kernel
theorem d_X7_breatheTree_158 : decode (qMc M_X7_breatheTree) 158 = .ok (.iaload, 1) := by decide +kernel
theorem d_X7_breatheTree_159 : decode (qMc M_X7_breatheTree) 159 = .ok (.iastore, 1) := by decide +kernel
theorem d_X7_breatheTree_160 : decode (qMc M_X7_breatheTree) 160 = .ok (.aload_n 0, 1) := by decide +kernel
theorem d_X7_breatheTree_161 : decode (qMc M_X7_breatheTree) 161 = .ok (.dup, 1) := by decide +kernel
theorem d_X7_breatheTree_162 : decode (qMc M_X7_breatheTree) 162 = .ok (.getfield 41, 3) := by decide +kernel
theorem d_X7_breatheTree_165 : decode (qMc M_X7_breatheTree) 165 = .ok (.aload_n 0, 1) := by decide +kernel
theorem d_X7_breatheTree_166 : decode (qMc M_X7_breatheTree) 166 = .ok (.getfield 9, 3) := by decide +kernel
theorem d_X7_breatheTree_169 : decode (qMc M_X7_breatheTree) 169 = .ok (.iload_n 2, 1) := by decide +kernel
theorem d_X7_breatheTree_170 : decode (qMc M_X7_breatheTree) 170 = .ok (.iaload, 1) := by decide +kernel
theorem d_X7_breatheTree_171 : decode (qMc M_X7_breatheTree) 171 = .ok (.bipush 7, 2) := by decide +kernel
theorem d_X7_breatheTree_173 : decode (qMc M_X7_breatheTree) 173 = .ok (.if_icmp .ne 7, 3) := by decide +kernel
theorem d_X7_breatheTree_176 : decode (qMc M_X7_breatheTree) 176 = .ok (.iconst 1, 1) := by decide +kernel
theorem d_X7_breatheTree_177 : decode (qMc M_X7_breatheTree) 177 = .ok (.goto 4, 3) := by decide +kernel
theorem d_X7_breatheTree_180 : decode (qMc M_X7_breatheTree) 180 = .ok (.iconst 0, 1) := by decide +kernel
theorem d_X7_breatheTree_181 : decode (qMc M_X7_breatheTree) 181 = .ok (.iadd, 1) := by decide +kernel
theorem d_X7_breatheTree_182 : decode (qMc M_X7_breatheTree) 182 = .ok (.putfield 41, 3) := by decide +kernel
theorem d_X7_breatheTree_185 : decode (qMc M_X7_breatheTree) 185 = .ok (.aload_n 0, 1) := by decide +kernel
theorem d_X7_breatheTree_186 : decode (qMc M_X7_breatheTree) 186 = .ok (.dup, 1) := by decide +kernel
theorem d_X7_breatheTree_187 : decode (qMc M_X7_breatheTree) 187 = .ok (.getfield 44, 3) := by decide +kernel
theorem d_X7_breatheTree_190 : decode (qMc M_X7_breatheTree) 190 = .ok (.aload_n 0, 1) := by decide +kernel
theorem d_X7_breatheTree_191 : decode (qMc M_X7_breatheTree) 191 = .ok (.getfield 9, 3) := by decide +kernel
theorem d_X7_breatheTree_194 : decode (qMc M_X7_breatheTree) 194 = .ok (.iload_n 2, 1) := by decide +kernel
theorem d_X7_breatheTree_195 : decode (qMc M_X7_breatheTree) 195 = .ok (.iaload, 1) := by decide +kernel
theorem d_X7_breatheTree_196 : decode (qMc M_X7_breatheTree) 196 = .ok (.iload_n 3, 1) := by decide +kernel
theorem d_X7_breatheTree_197 : decode (qMc M_X7_breatheTree) 197 = .ok (.if_icmp .eq 7, 3) := by decide +kernel
theorem d_X7_breatheTree_200 : decode (qMc M_X7_breatheTree) 200 = .ok (.iconst 1, 1) := by decide +kernel
theorem d_X7_breatheTree_201 : decode (qMc M_X7_breatheTree) 201 = .ok (.goto 4, 3) := by decide +kernel
theorem d_X7_breatheTree_204 : decode (qMc M_X7_breatheTree) 204 = .ok (.iconst 0, 1) := by decide +kernel
theorem d_X7_breatheTree_205 : decode (qMc M_X7_breatheTree) 205 = .ok (.iadd, 1) := by decide +kernel
theorem d_X7_breatheTree_206 : decode (qMc M_X7_breatheTree) 206 = .ok (.putfield 44, 3) := by decide +kernel
theorem d_X7_breatheTree_209 : decode (qMc M_X7_breatheTree) 209 = .ok (.iinc 2 (-1), 3) := by decide +kernel
theorem d_X7_breatheTree_212 : decode (qMc M_X7_breatheTree) 212 = .ok (.goto (-130), 3) := by decide +kernel
theorem d_X7_breatheTree_215 : decode (qMc M_X7_breatheTree) 215 = .ok (.return_, 1) := by decide +kernel
theorem d_X7_outcome_0 : decode (qMc M_X7_outcome) 0 = .ok (.iload_n 1, 1) := by decide +kernel
theorem d_X7_outcome_1 : decode (qMc M_X7_outcome) 1 = .ok (.tableswitch 53 0 2 #[27, 43, 48], 27) := by decide +kernel
theorem d_X7_outcome_28 : decode (qMc M_X7_outcome) 28 = .ok (.aload_n 0, 1) := by decide +kernel
theorem d_X7_outcome_29 : decode (qMc M_X7_outcome) 29 = .ok (.getfield 41, 3) := by decide +kernel
theorem d_X7_outcome_32 : decode (qMc M_X7_outcome) 32 = .ok (.ifCond .ne 7, 3) := by decide +kernel
theorem d_X7_outcome_35 : decode (qMc M_X7_outcome) 35 = .ok (.iconst (-1), 1) := by decide +kernel
theorem d_X7_outcome_36 : decode (qMc M_X7_outcome) 36 = .ok (.goto 7, 3) := by decide +kernel
theorem d_X7_outcome_39 : decode (qMc M_X7_outcome) 39 = .ok (.aload_n 0, 1) := by decide +kernel
theorem d_X7_outcome_40 : decode (qMc M_X7_outcome) 40 = .ok (.getfield 38, 3) := by decide +kernel
theorem d_X7_outcome_43 : decode (qMc M_X7_outcome) 43 = .ok (.ireturn, 1) := by decide +kernel
theorem d_X7_outcome_44 : decode (qMc M_X7_outcome) 44 = .ok (.aload_n 0, 1) := by decide +kernel
theorem d_X7_outcome_45 : decode (qMc M_X7_outcome) 45 = .ok (.getfield 41, 3) := by decide +kernel
theorem d_X7_outcome_48 : decode (qMc M_X7_outcome) 48 = .ok (.ireturn, 1) := by decide +kernel
theorem d_X7_outcome_49 : decode (qMc M_X7_outcome) 49 = .ok (.aload_n 0, 1) := by decide +kernel
theorem d_X7_outcome_50 : decode (qMc M_X7_outcome) 50 = .ok (.invokevirtual 85, 3) := by decide +kernel
theorem d_X7_outcome_53 : decode (qMc M_X7_outcome) 53 = .ok (.ireturn, 1) := by decide +kernel
theorem d_X7_outcome_54 : decode (qMc M_X7_outcome) 54 = .ok (.iconst (-1), 1) := by decide +kernel
theorem d_X7_outcome_55 : decode (qMc M_X7_outcome) 55 = .ok (.ireturn, 1) := by decide +kernel
theorem d_X7_leastUnlit_0 : decode (qMc M_X7_leastUnlit) 0 = .ok (.iconst 0, 1) := by decide +kernel
theorem d_X7_leastUnlit_1 : decode (qMc M_X7_leastUnlit) 1 = .ok (.istore_n 1, 1) := by decide +kernel
theorem d_X7_leastUnlit_2 : decode (qMc M_X7_leastUnlit) 2 = .ok (.iload_n 1, 1) := by decide +kernel
theorem d_X7_leastUnlit_3 : decode (qMc M_X7_leastUnlit) 3 = .ok (.aload_n 0, 1) := by decide +kernel
theorem d_X7_leastUnlit_4 : decode (qMc M_X7_leastUnlit) 4 = .ok (.getfield 21, 3) := by decide +kernel
theorem d_X7_leastUnlit_7 : decode (qMc M_X7_leastUnlit) 7 = .ok (.if_icmp .ge 22, 3) := by decide +kernel
theorem d_X7_leastUnlit_10 : decode (qMc M_X7_leastUnlit) 10 = .ok (.aload_n 0, 1) := by decide +kernel
theorem d_X7_leastUnlit_11 : decode (qMc M_X7_leastUnlit) 11 = .ok (.getfield 9, 3) := by decide +kernel
theorem d_X7_leastUnlit_14 : decode (qMc M_X7_leastUnlit) 14 = .ok (.iload_n 1, 1) := by decide +kernel
theorem d_X7_leastUnlit_15 : decode (qMc M_X7_leastUnlit) 15 = .ok (.iaload, 1) := by decide +kernel
theorem d_X7_leastUnlit_16 : decode (qMc M_X7_leastUnlit) 16 = .ok (.bipush 7, 2) := by decide +kernel
theorem d_X7_leastUnlit_18 : decode (qMc M_X7_leastUnlit) 18 = .ok (.if_icmp .eq 5, 3) := by decide +kernel
theorem d_X7_leastUnlit_21 : decode (qMc M_X7_leastUnlit) 21 = .ok (.iload_n 1, 1) := by decide +kernel
theorem d_X7_leastUnlit_22 : decode (qMc M_X7_leastUnlit) 22 = .ok (.ireturn, 1) := by decide +kernel
theorem d_X7_leastUnlit_23 : decode (qMc M_X7_leastUnlit) 23 = .ok (.iinc 1 1, 3) := by decide +kernel
theorem d_X7_leastUnlit_26 : decode (qMc M_X7_leastUnlit) 26 = .ok (.goto (-24), 3) := by decide +kernel
theorem d_X7_leastUnlit_29 : decode (qMc M_X7_leastUnlit) 29 = .ok (.iconst (-1), 1) := by decide +kernel
theorem d_X7_leastUnlit_30 : decode (qMc M_X7_leastUnlit) 30 = .ok (.ireturn, 1) := by decide +kernel
theorem d_X7_whoHas_0 : decode (qMc M_X7_whoHas) 0 = .ok (.iconst 0, 1) := by decide +kernel
theorem d_X7_whoHas_1 : decode (qMc M_X7_whoHas) 1 = .ok (.istore_n 2, 1) := by decide +kernel
theorem d_X7_whoHas_2 : decode (qMc M_X7_whoHas) 2 = .ok (.iconst 0, 1) := by decide +kernel
theorem d_X7_whoHas_3 : decode (qMc M_X7_whoHas) 3 = .ok (.istore_n 3, 1) := by decide +kernel
theorem d_X7_whoHas_4 : decode (qMc M_X7_whoHas) 4 = .ok (.iload_n 3, 1) := by decide +kernel
theorem d_X7_whoHas_5 : decode (qMc M_X7_whoHas) 5 = .ok (.aload_n 0, 1) := by decide +kernel
theorem d_X7_whoHas_6 : decode (qMc M_X7_whoHas) 6 = .ok (.getfield 21, 3) := by decide +kernel
theorem d_X7_whoHas_9 : decode (qMc M_X7_whoHas) 9 = .ok (.if_icmp .ge 25, 3) := by decide +kernel
theorem d_X7_whoHas_12 : decode (qMc M_X7_whoHas) 12 = .ok (.aload_n 0, 1) := by decide +kernel
theorem d_X7_whoHas_13 : decode (qMc M_X7_whoHas) 13 = .ok (.getfield 9, 3) := by decide +kernel
theorem d_X7_whoHas_16 : decode (qMc M_X7_whoHas) 16 = .ok (.iload_n 3, 1) := by decide +kernel
theorem d_X7_whoHas_17 : decode (qMc M_X7_whoHas) 17 = .ok (.iaload, 1) := by decide +kernel
theorem d_X7_whoHas_18 : decode (qMc M_X7_whoHas) 18 = .ok (.iload_n 1, 1) := by decide +kernel
theorem d_X7_whoHas_19 : decode (qMc M_X7_whoHas) 19 = .ok (.if_icmp .ne 9, 3) := by decide +kernel
theorem d_X7_whoHas_22 : decode (qMc M_X7_whoHas) 22 = .ok (.iload_n 2, 1) := by decide +kernel
theorem d_X7_whoHas_23 : decode (qMc M_X7_whoHas) 23 = .ok (.iconst 1, 1) := by decide +kernel
theorem d_X7_whoHas_24 : decode (qMc M_X7_whoHas) 24 = .ok (.iload_n 3, 1) := by decide +kernel
theorem d_X7_whoHas_25 : decode (qMc M_X7_whoHas) 25 = .ok (.ishl, 1) := by decide +kernel
theorem d_X7_whoHas_26 : decode (qMc M_X7_whoHas) 26 = .ok (.ior, 1) := by decide +kernel
theorem d_X7_whoHas_27 : decode (qMc M_X7_whoHas) 27 = .ok (.istore_n 2, 1) := by decide +kernel
theorem d_X7_whoHas_28 : decode (qMc M_X7_whoHas) 28 = .ok (.iinc 3 1, 3) := by decide +kernel
theorem d_X7_whoHas_31 : decode (qMc M_X7_whoHas) 31 = .ok (.goto (-27), 3) := by decide +kernel
theorem d_X7_whoHas_34 : decode (qMc M_X7_whoHas) 34 = .ok (.iload_n 2, 1) := by decide +kernel
theorem d_X7_whoHas_35 : decode (qMc M_X7_whoHas) 35 = .ok (.ireturn, 1) := by decide +kernel
theorem d_X7_mindSet_0 : decode (qMc M_X7_mindSet) 0 = .ok (.iconst 0, 1) := by decide +kernel
theorem d_X7_mindSet_1 : decode (qMc M_X7_mindSet) 1 = .ok (.istore_n 1, 1) := by decide +kernel
theorem d_X7_mindSet_2 : decode (qMc M_X7_mindSet) 2 = .ok (.iconst 0, 1) := by decide +kernel
theorem d_X7_mindSet_3 : decode (qMc M_X7_mindSet) 3 = .ok (.istore_n 2, 1) := by decide +kernel
theorem d_X7_mindSet_4 : decode (qMc M_X7_mindSet) 4 = .ok (.iload_n 2, 1) := by decide +kernel
theorem d_X7_mindSet_5 : decode (qMc M_X7_mindSet) 5 = .ok (.aload_n 0, 1) := by decide +kernel
theorem d_X7_mindSet_6 : decode (qMc M_X7_mindSet) 6 = .ok (.getfield 21, 3) := by decide +kernel
theorem d_X7_mindSet_9 : decode (qMc M_X7_mindSet) 9 = .ok (.if_icmp .ge 20, 3) := by decide +kernel
theorem d_X7_mindSet_12 : decode (qMc M_X7_mindSet) 12 = .ok (.iload_n 1, 1) := by decide +kernel
theorem d_X7_mindSet_13 : decode (qMc M_X7_mindSet) 13 = .ok (.iconst 1, 1) := by decide +kernel
theorem d_X7_mindSet_14 : decode (qMc M_X7_mindSet) 14 = .ok (.aload_n 0, 1) := by decide +kernel
theorem d_X7_mindSet_15 : decode (qMc M_X7_mindSet) 15 = .ok (.getfield 9, 3) := by decide +kernel
theorem d_X7_mindSet_18 : decode (qMc M_X7_mindSet) 18 = .ok (.iload_n 2, 1) := by decide +kernel
theorem d_X7_mindSet_19 : decode (qMc M_X7_mindSet) 19 = .ok (.iaload, 1) := by decide +kernel
theorem d_X7_mindSet_20 : decode (qMc M_X7_mindSet) 20 = .ok (.ishl, 1) := by decide +kernel
theorem d_X7_mindSet_21 : decode (qMc M_X7_mindSet) 21 = .ok (.ior, 1) := by decide +kernel
theorem d_X7_mindSet_22 : decode (qMc M_X7_mindSet) 22 = .ok (.istore_n 1, 1) := by decide +kernel
theorem d_X7_mindSet_23 : decode (qMc M_X7_mindSet) 23 = .ok (.iinc 2 1, 3) := by decide +kernel
theorem d_X7_mindSet_26 : decode (qMc M_X7_mindSet) 26 = .ok (.goto (-22), 3) := by decide +kernel
theorem d_X7_mindSet_29 : decode (qMc M_X7_mindSet) 29 = .ok (.iload_n 1, 1) := by decide +kernel
theorem d_X7_mindSet_30 : decode (qMc M_X7_mindSet) 30 = .ok (.ireturn, 1) := by decide +kernel
theorem d_X7_noteCases_0 : decode (qMc M_X7_noteCases) 0 = .ok (.bipush 8, 2) := by decide +kernel
theorem d_X7_noteCases_2 : decode (qMc M_X7_noteCases) 2 = .ok (.istore_n 2, 1) := by decide +kernel
theorem d_X7_noteCases_3 : decode (qMc M_X7_noteCases) 3 = .ok (.iconst 0, 1) := by decide +kernel
theorem d_X7_noteCases_4 : decode (qMc M_X7_noteCases) 4 = .ok (.istore_n 3, 1) := by decide +kernel
theorem d_X7_noteCases_5 : decode (qMc M_X7_noteCases) 5 = .ok (.iload_n 3, 1) := by decide +kernel
theorem d_X7_noteCases_6 : decode (qMc M_X7_noteCases) 6 = .ok (.aload_n 0, 1) := by decide +kernel
theorem d_X7_noteCases_7 : decode (qMc M_X7_noteCases) 7 = .ok (.getfield 21, 3) := by decide +kernel
theorem d_X7_noteCases_10 : decode (qMc M_X7_noteCases) 10 = .ok (.if_icmp .ge 56, 3) := by decide +kernel
theorem d_X7_noteCases_13 : decode (qMc M_X7_noteCases) 13 = .ok (.iload_n 3, 1) := by decide +kernel
theorem d_X7_noteCases_14 : decode (qMc M_X7_noteCases) 14 = .ok (.iconst 1, 1) := by decide +kernel
theorem d_X7_noteCases_15 : decode (qMc M_X7_noteCases) 15 = .ok (.iadd, 1) := by decide +kernel
theorem d_X7_noteCases_16 : decode (qMc M_X7_noteCases) 16 = .ok (.aload_n 0, 1) := by decide +kernel
theorem d_X7_noteCases_17 : decode (qMc M_X7_noteCases) 17 = .ok (.getfield 21, 3) := by decide +kernel
theorem d_X7_noteCases_20 : decode (qMc M_X7_noteCases) 20 = .ok (.if_icmp .ge 14, 3) := by decide +kernel
theorem d_X7_noteCases_23 : decode (qMc M_X7_noteCases) 23 = .ok (.aload_n 0, 1) := by decide +kernel
theorem d_X7_noteCases_24 : decode (qMc M_X7_noteCases) 24 = .ok (.getfield 9, 3) := by decide +kernel
theorem d_X7_noteCases_27 : decode (qMc M_X7_noteCases) 27 = .ok (.iload_n 3, 1) := by decide +kernel
theorem d_X7_noteCases_28 : decode (qMc M_X7_noteCases) 28 = .ok (.iconst 1, 1) := by decide +kernel
theorem d_X7_noteCases_29 : decode (qMc M_X7_noteCases) 29 = .ok (.iadd, 1) := by decide +kernel
theorem d_X7_noteCases_30 : decode (qMc M_X7_noteCases) 30 = .ok (.iaload, 1) := by decide +kernel
theorem d_X7_noteCases_31 : decode (qMc M_X7_noteCases) 31 = .ok (.goto 5, 3) := by decide +kernel
theorem d_X7_noteCases_34 : decode (qMc M_X7_noteCases) 34 = .ok (.bipush 8, 2) := by decide +kernel
theorem d_X7_noteCases_36 : decode (qMc M_X7_noteCases) 36 = .ok (.istore 4, 2) := by decide +kernel
theorem d_X7_noteCases_38 : decode (qMc M_X7_noteCases) 38 = .ok (.aload_n 1, 1) := by decide +kernel
theorem d_X7_noteCases_39 : decode (qMc M_X7_noteCases) 39 = .ok (.aload_n 0, 1) := by decide +kernel
theorem d_X7_noteCases_40 : decode (qMc M_X7_noteCases) 40 = .ok (.getfield 9, 3) := by decide +kernel
theorem d_X7_noteCases_43 : decode (qMc M_X7_noteCases) 43 = .ok (.iload_n 3, 1) := by decide +kernel
theorem d_X7_noteCases_44 : decode (qMc M_X7_noteCases) 44 = .ok (.iaload, 1) := by decide +kernel
theorem d_X7_noteCases_45 : decode (qMc M_X7_noteCases) 45 = .ok (.iload_n 2, 1) := by decide +kernel
theorem d_X7_noteCases_46 : decode (qMc M_X7_noteCases) 46 = .ok (.iload 4, 2) := by decide +kernel
theorem d_X7_noteCases_48 : decode (qMc M_X7_noteCases) 48 = .ok (.invokestatic 81, 3) := by decide +kernel
theorem d_X7_noteCases_51 : decode (qMc M_X7_noteCases) 51 = .ok (.iconst 1, 1) := by decide +kernel
theorem d_X7_noteCases_52 : decode (qMc M_X7_noteCases) 52 = .ok (.iastore, 1) := by decide +kernel
theorem d_X7_noteCases_53 : decode (qMc M_X7_noteCases) 53 = .ok (.aload_n 0, 1) := by decide +kernel
theorem d_X7_noteCases_54 : decode (qMc M_X7_noteCases) 54 = .ok (.getfield 9, 3) := by decide +kernel
theorem d_X7_noteCases_57 : decode (qMc M_X7_noteCases) 57 = .ok (.iload_n 3, 1) := by decide +kernel
theorem d_X7_noteCases_58 : decode (qMc M_X7_noteCases) 58 = .ok (.iaload, 1) := by decide +kernel
theorem d_X7_noteCases_59 : decode (qMc M_X7_noteCases) 59 = .ok (.istore_n 2, 1) := by decide +kernel
theorem d_X7_noteCases_60 : decode (qMc M_X7_noteCases) 60 = .ok (.iinc 3 1, 3) := by decide +kernel
theorem d_X7_noteCases_63 : decode (qMc M_X7_noteCases) 63 = .ok (.goto (-58), 3) := by decide +kernel
theorem d_X7_noteCases_66 : decode (qMc M_X7_noteCases) 66 = .ok (.return_, 1) := by decide +kernel
theorem d_X8_init_0 : decode (qMc M_X8_init) 0 = .ok (.aload_n 0, 1) := by decide +kernel
theorem d_X8_init_1 : decode (qMc M_X8_init) 1 = .ok (.invokespecial 3, 3) := by decide +kernel
theorem d_X8_init_4 : decode (qMc M_X8_init) 4 = .ok (.aload_n 0, 1) := by decide +kernel
theorem d_X8_init_5 : decode (qMc M_X8_init) 5 = .ok (.new 9, 3) := by decide +kernel
theorem d_X8_init_8 : decode (qMc M_X8_init) 8 = .ok (.dup, 1) := by decide +kernel
theorem d_X8_init_9 : decode (qMc M_X8_init) 9 = .ok (.invokespecial 11, 3) := by decide +kernel
theorem d_X8_init_12 : decode (qMc M_X8_init) 12 = .ok (.putfield 12, 3) := by decide +kernel
theorem d_X8_init_15 : decode (qMc M_X8_init) 15 = .ok (.aload_n 0, 1) := by decide +kernel
theorem d_X8_init_16 : decode (qMc M_X8_init) 16 = .ok (.new 9, 3) := by decide +kernel
theorem d_X8_init_19 : decode (qMc M_X8_init) 19 = .ok (.dup, 1) := by decide +kernel
theorem d_X8_init_20 : decode (qMc M_X8_init) 20 = .ok (.invokespecial 11, 3) := by decide +kernel
theorem d_X8_init_23 : decode (qMc M_X8_init) 23 = .ok (.putfield 18, 3) := by decide +kernel
theorem d_X8_init_26 : decode (qMc M_X8_init) 26 = .ok (.aload_n 0, 1) := by decide +kernel
theorem d_X8_init_27 : decode (qMc M_X8_init) 27 = .ok (.new 21, 3) := by decide +kernel
theorem d_X8_init_30 : decode (qMc M_X8_init) 30 = .ok (.dup, 1) := by decide +kernel
theorem d_X8_init_31 : decode (qMc M_X8_init) 31 = .ok (.bipush 16, 2) := by decide +kernel
theorem d_X8_init_33 : decode (qMc M_X8_init) 33 = .ok (.invokespecial 23, 3) := by decide +kernel
theorem d_X8_init_36 : decode (qMc M_X8_init) 36 = .ok (.putfield 26, 3) := by decide +kernel
theorem d_X8_init_39 : decode (qMc M_X8_init) 39 = .ok (.aload_n 0, 1) := by decide +kernel
theorem d_X8_init_40 : decode (qMc M_X8_init) 40 = .ok (.new 21, 3) := by decide +kernel
theorem d_X8_init_43 : decode (qMc M_X8_init) 43 = .ok (.dup, 1) := by decide +kernel
theorem d_X8_init_44 : decode (qMc M_X8_init) 44 = .ok (.bipush 16, 2) := by decide +kernel
theorem d_X8_init_46 : decode (qMc M_X8_init) 46 = .ok (.invokespecial 23, 3) := by decide +kernel
theorem d_X8_init_49 : decode (qMc M_X8_init) 49 = .ok (.putfield 30, 3) := by decide +kernel
theorem d_X8_init_52 : decode (qMc M_X8_init) 52 = .ok (.aload_n 0, 1) := by decide +kernel
theorem d_X8_init_53 : decode (qMc M_X8_init) 53 = .ok (.new 33, 3) := by decide +kernel
theorem d_X8_init_56 : decode (qMc M_X8_init) 56 = .ok (.dup, 1) := by decide +kernel
theorem d_X8_init_57 : decode (qMc M_X8_init) 57 = .ok (.invokespecial 35, 3) := by decide +kernel
theorem d_X8_init_60 : decode (qMc M_X8_init) 60 = .ok (.putfield 36, 3) := by decide +kernel
theorem d_X8_init_63 : decode (qMc M_X8_init) 63 = .ok (.aload_n 0, 1) := by decide +kernel
theorem d_X8_init_64 : decode (qMc M_X8_init) 64 = .ok (.new 21, 3) := by decide +kernel
theorem d_X8_init_67 : decode (qMc M_X8_init) 67 = .ok (.dup, 1) := by decide +kernel
theorem d_X8_init_68 : decode (qMc M_X8_init) 68 = .ok (.sipush 150, 3) := by decide +kernel
theorem d_X8_init_71 : decode (qMc M_X8_init) 71 = .ok (.invokespecial 23, 3) := by decide +kernel
theorem d_X8_init_74 : decode (qMc M_X8_init) 74 = .ok (.putfield 40, 3) := by decide +kernel
theorem d_X8_init_77 : decode (qMc M_X8_init) 77 = .ok (.aload_n 0, 1) := by decide +kernel
theorem d_X8_init_78 : decode (qMc M_X8_init) 78 = .ok (.new 21, 3) := by decide +kernel
theorem d_X8_init_81 : decode (qMc M_X8_init) 81 = .ok (.dup, 1) := by decide +kernel
theorem d_X8_init_82 : decode (qMc M_X8_init) 82 = .ok (.bipush 8, 2) := by decide +kernel
theorem d_X8_init_84 : decode (qMc M_X8_init) 84 = .ok (.invokespecial 23, 3) := by decide +kernel
theorem d_X8_init_87 : decode (qMc M_X8_init) 87 = .ok (.putfield 43, 3) := by decide +kernel
theorem d_X8_init_90 : decode (qMc M_X8_init) 90 = .ok (.return_, 1) := by decide +kernel
theorem d_X8_copyFrom_0 : decode (qMc M_X8_copyFrom) 0 = .ok (.aload_n 0, 1) := by decide +kernel
theorem d_X8_copyFrom_1 : decode (qMc M_X8_copyFrom) 1 = .ok (.getfield 12, 3) := by decide +kernel
theorem d_X8_copyFrom_4 : decode (qMc M_X8_copyFrom) 4 = .ok (.aload_n 1, 1) := by decide +kernel
theorem d_X8_copyFrom_5 : decode (qMc M_X8_copyFrom) 5 = .ok (.getfield 12, 3) := by decide +kernel
theorem d_X8_copyFrom_8 : decode (qMc M_X8_copyFrom) 8 = .ok (.invokevirtual 46, 3) := by decide +kernel
theorem d_X8_copyFrom_11 : decode (qMc M_X8_copyFrom) 11 = .ok (.aload_n 0, 1) := by decide +kernel
theorem d_X8_copyFrom_12 : decode (qMc M_X8_copyFrom) 12 = .ok (.getfield 18, 3) := by decide +kernel
theorem d_X8_copyFrom_15 : decode (qMc M_X8_copyFrom) 15 = .ok (.aload_n 1, 1) := by decide +kernel
theorem d_X8_copyFrom_16 : decode (qMc M_X8_copyFrom) 16 = .ok (.getfield 18, 3) := by decide +kernel
theorem d_X8_copyFrom_19 : decode (qMc M_X8_copyFrom) 19 = .ok (.invokevirtual 46, 3) := by decide +kernel
theorem d_X8_copyFrom_22 : decode (qMc M_X8_copyFrom) 22 = .ok (.aload_n 0, 1) := by decide +kernel
theorem d_X8_copyFrom_23 : decode (qMc M_X8_copyFrom) 23 = .ok (.getfield 26, 3) := by decide +kernel
theorem d_X8_copyFrom_26 : decode (qMc M_X8_copyFrom) 26 = .ok (.aload_n 1, 1) := by decide +kernel
theorem d_X8_copyFrom_27 : decode (qMc M_X8_copyFrom) 27 = .ok (.getfield 26, 3) := by decide +kernel
theorem d_X8_copyFrom_30 : decode (qMc M_X8_copyFrom) 30 = .ok (.invokevirtual 50, 3) := by decide +kernel
theorem d_X8_copyFrom_33 : decode (qMc M_X8_copyFrom) 33 = .ok (.aload_n 0, 1) := by decide +kernel
theorem d_X8_copyFrom_34 : decode (qMc M_X8_copyFrom) 34 = .ok (.getfield 30, 3) := by decide +kernel
theorem d_X8_copyFrom_37 : decode (qMc M_X8_copyFrom) 37 = .ok (.aload_n 1, 1) := by decide +kernel
theorem d_X8_copyFrom_38 : decode (qMc M_X8_copyFrom) 38 = .ok (.getfield 30, 3) := by decide +kernel
theorem d_X8_copyFrom_41 : decode (qMc M_X8_copyFrom) 41 = .ok (.invokevirtual 50, 3) := by decide +kernel
theorem d_X8_copyFrom_44 : decode (qMc M_X8_copyFrom) 44 = .ok (.aload_n 0, 1) := by decide +kernel
theorem d_X8_copyFrom_45 : decode (qMc M_X8_copyFrom) 45 = .ok (.getfield 36, 3) := by decide +kernel
theorem d_X8_copyFrom_48 : decode (qMc M_X8_copyFrom) 48 = .ok (.aload_n 1, 1) := by decide +kernel
theorem d_X8_copyFrom_49 : decode (qMc M_X8_copyFrom) 49 = .ok (.getfield 36, 3) := by decide +kernel
theorem d_X8_copyFrom_52 : decode (qMc M_X8_copyFrom) 52 = .ok (.invokevirtual 53, 3) := by decide +kernel
theorem d_X8_copyFrom_55 : decode (qMc M_X8_copyFrom) 55 = .ok (.aload_n 0, 1) := by decide +kernel
theorem d_X8_copyFrom_56 : decode (qMc M_X8_copyFrom) 56 = .ok (.getfield 40, 3) := by decide +kernel
theorem d_X8_copyFrom_59 : decode (qMc M_X8_copyFrom) 59 = .ok (.aload_n 1, 1) := by decide +kernel
theorem d_X8_copyFrom_60 : decode (qMc M_X8_copyFrom) 60 = .ok (.getfield 40, 3) := by decide +kernel
theorem d_X8_copyFrom_63 : decode (qMc M_X8_copyFrom) 63 = .ok (.invokevirtual 50, 3) := by decide +kernel
theorem d_X8_copyFrom_66 : decode (qMc M_X8_copyFrom) 66 = .ok (.aload_n 0, 1) := by decide +kernel
theorem d_X8_copyFrom_67 : decode (qMc M_X8_copyFrom) 67 = .ok (.getfield 43, 3) := by decide +kernel
theorem d_X8_copyFrom_70 : decode (qMc M_X8_copyFrom) 70 = .ok (.aload_n 1, 1) := by decide +kernel
theorem d_X8_copyFrom_71 : decode (qMc M_X8_copyFrom) 71 = .ok (.getfield 43, 3) := by decide +kernel
theorem d_X8_copyFrom_74 : decode (qMc M_X8_copyFrom) 74 = .ok (.invokevirtual 50, 3) := by decide +kernel
theorem d_X8_copyFrom_77 : decode (qMc M_X8_copyFrom) 77 = .ok (.return_, 1) := by decide +kernel
theorem d_X8_perform_0 : decode (qMc M_X8_perform) 0 = .ok (.aload_n 0, 1) := by decide +kernel
theorem d_X8_perform_1 : decode (qMc M_X8_perform) 1 = .ok (.getfield 36, 3) := by decide +kernel
theorem d_X8_perform_4 : decode (qMc M_X8_perform) 4 = .ok (.iload_n 1, 1) := by decide +kernel
theorem d_X8_perform_5 : decode (qMc M_X8_perform) 5 = .ok (.iload_n 2, 1) := by decide +kernel
theorem d_X8_perform_6 : decode (qMc M_X8_perform) 6 = .ok (.iload_n 3, 1) := by decide +kernel
theorem d_X8_perform_7 : decode (qMc M_X8_perform) 7 = .ok (.invokevirtual 56, 3) := by decide +kernel
theorem d_X8_perform_10 : decode (qMc M_X8_perform) 10 = .ok (.aload_n 0, 1) := by decide +kernel
theorem d_X8_perform_11 : decode (qMc M_X8_perform) 11 = .ok (.getfield 40, 3) := by decide +kernel
theorem d_X8_perform_14 : decode (qMc M_X8_perform) 14 = .ok (.aload_n 0, 1) := by decide +kernel
theorem d_X8_perform_15 : decode (qMc M_X8_perform) 15 = .ok (.getfield 36, 3) := by decide +kernel
theorem d_X8_perform_18 : decode (qMc M_X8_perform) 18 = .ok (.getfield 60, 3) := by decide +kernel
theorem d_X8_perform_21 : decode (qMc M_X8_perform) 21 = .ok (.iload_n 1, 1) := by decide +kernel
theorem d_X8_perform_22 : decode (qMc M_X8_perform) 22 = .ok (.iload_n 2, 1) := by decide +kernel
theorem d_X8_perform_23 : decode (qMc M_X8_perform) 23 = .ok (.iload_n 3, 1) := by decide +kernel
theorem d_X8_perform_24 : decode (qMc M_X8_perform) 24 = .ok (.invokevirtual 64, 3) := by decide +kernel
theorem d_X8_perform_27 : decode (qMc M_X8_perform) 27 = .ok (.pop, 1) := by decide +kernel
theorem d_X8_perform_28 : decode (qMc M_X8_perform) 28 = .ok (.return_, 1) := by decide +kernel
theorem d_X8_breathe_0 : decode (qMc M_X8_breathe) 0 = .ok (.aload_n 0, 1) := by decide +kernel
theorem d_X8_breathe_1 : decode (qMc M_X8_breathe) 1 = .ok (.invokevirtual 68, 3) := by decide +kernel
theorem d_X8_breathe_4 : decode (qMc M_X8_breathe) 4 = .ok (.aload_n 0, 1) := by decide +kernel
theorem d_X8_breathe_5 : decode (qMc M_X8_breathe) 5 = .ok (.getfield 36, 3) := by decide +kernel
theorem d_X8_breathe_8 : decode (qMc M_X8_breathe) 8 = .ok (.aload_n 0, 1) := by decide +kernel
theorem d_X8_breathe_9 : decode (qMc M_X8_breathe) 9 = .ok (.getfield 12, 3) := by decide +kernel
theorem d_X8_breathe_12 : decode (qMc M_X8_breathe) 12 = .ok (.invokevirtual 71, 3) := by decide +kernel
theorem d_X8_breathe_15 : decode (qMc M_X8_breathe) 15 = .ok (.aload_n 0, 1) := by decide +kernel
theorem d_X8_breathe_16 : decode (qMc M_X8_breathe) 16 = .ok (.invokevirtual 74, 3) := by decide +kernel
theorem d_X8_breathe_19 : decode (qMc M_X8_breathe) 19 = .ok (.aload_n 0, 1) := by decide +kernel
theorem d_X8_breathe_20 : decode (qMc M_X8_breathe) 20 = .ok (.getfield 36, 3) := by decide +kernel
theorem d_X8_breathe_23 : decode (qMc M_X8_breathe) 23 = .ok (.dup, 1) := by decide +kernel
theorem d_X8_breathe_24 : decode (qMc M_X8_breathe) 24 = .ok (.getfield 60, 3) := by decide +kernel
theorem d_X8_breathe_27 : decode (qMc M_X8_breathe) 27 = .ok (.iconst 1, 1) := by decide +kernel
theorem d_X8_breathe_28 : decode (qMc M_X8_breathe) 28 = .ok (.iadd, 1) := by decide +kernel
theorem d_X8_breathe_29 : decode (qMc M_X8_breathe) 29 = .ok (.putfield 60, 3) := by decide +kernel
theorem d_X8_breathe_32 : decode (qMc M_X8_breathe) 32 = .ok (.return_, 1) := by decide +kernel
theorem d_X8_performPlan_0 : decode (qMc M_X8_performPlan) 0 = .ok (.iconst 0, 1) := by decide +kernel
theorem d_X8_performPlan_1 : decode (qMc M_X8_performPlan) 1 = .ok (.istore_n 1, 1) := by decide +kernel
theorem d_X8_performPlan_2 : decode (qMc M_X8_performPlan) 2 = .ok (.iload_n 1, 1) := by decide +kernel
theorem d_X8_performPlan_3 : decode (qMc M_X8_performPlan) 3 = .ok (.aload_n 0, 1) := by decide +kernel
theorem d_X8_performPlan_4 : decode (qMc M_X8_performPlan) 4 = .ok (.getfield 26, 3) := by decide +kernel
theorem d_X8_performPlan_7 : decode (qMc M_X8_performPlan) 7 = .ok (.getfield 77, 3) := by decide +kernel
theorem d_X8_performPlan_10 : decode (qMc M_X8_performPlan) 10 = .ok (.if_icmp .ge 72, 3) := by decide +kernel
theorem d_X8_performPlan_13 : decode (qMc M_X8_performPlan) 13 = .ok (.aload_n 0, 1) := by decide +kernel
theorem d_X8_performPlan_14 : decode (qMc M_X8_performPlan) 14 = .ok (.getfield 26, 3) := by decide +kernel
theorem d_X8_performPlan_17 : decode (qMc M_X8_performPlan) 17 = .ok (.iload_n 1, 1) := by decide +kernel
theorem d_X8_performPlan_18 : decode (qMc M_X8_performPlan) 18 = .ok (.iconst 2, 1) := by decide +kernel
theorem d_X8_performPlan_19 : decode (qMc M_X8_performPlan) 19 = .ok (.invokevirtual 80, 3) := by decide +kernel
theorem d_X8_performPlan_22 : decode (qMc M_X8_performPlan) 22 = .ok (.istore_n 2, 1) := by decide +kernel
theorem d_X8_performPlan_23 : decode (qMc M_X8_performPlan) 23 = .ok (.aload_n 0, 1) := by decide +kernel
theorem d_X8_performPlan_24 : decode (qMc M_X8_performPlan) 24 = .ok (.getfield 26, 3) := by decide +kernel
theorem d_X8_performPlan_27 : decode (qMc M_X8_performPlan) 27 = .ok (.iload_n 1, 1) := by decide +kernel
theorem d_X8_performPlan_28 : decode (qMc M_X8_performPlan) 28 = .ok (.iconst 0, 1) := by decide +kernel
theorem d_X8_performPlan_29 : decode (qMc M_X8_performPlan) 29 = .ok (.invokevirtual 80, 3) := by decide +kernel
theorem d_X8_performPlan_32 : decode (qMc M_X8_performPlan) 32 = .ok (.aload_n 0, 1) := by decide +kernel
theorem d_X8_performPlan_33 : decode (qMc M_X8_performPlan) 33 = .ok (.getfield 36, 3) := by decide +kernel
theorem d_X8_performPlan_36 : decode (qMc M_X8_performPlan) 36 = .ok (.getfield 60, 3) := by decide +kernel
theorem d_X8_performPlan_39 : decode (qMc M_X8_performPlan) 39 = .ok (.if_icmp .ne 37, 3) := by decide +kernel
theorem d_X8_performPlan_42 : decode (qMc M_X8_performPlan) 42 = .ok (.aload_n 0, 1) := by decide +kernel
theorem d_X8_performPlan_43 : decode (qMc M_X8_performPlan) 43 = .ok (.getfield 36, 3) := by decide +kernel
theorem d_X8_performPlan_46 : decode (qMc M_X8_performPlan) 46 = .ok (.iload_n 2, 1) := by decide +kernel
theorem d_X8_performPlan_47 : decode (qMc M_X8_performPlan) 47 = .ok (.invokevirtual 84, 3) := by decide +kernel
theorem d_X8_performPlan_50 : decode (qMc M_X8_performPlan) 50 = .ok (.ifCond .eq 26, 3) := by decide +kernel
theorem d_X8_performPlan_53 : decode (qMc M_X8_performPlan) 53 = .ok (.aload_n 0, 1) := by decide +kernel
theorem d_X8_performPlan_54 : decode (qMc M_X8_performPlan) 54 = .ok (.aload_n 0, 1) := by decide +kernel
theorem d_X8_performPlan_55 : decode (qMc M_X8_performPlan) 55 = .ok (.getfield 26, 3) := by decide +kernel
theorem d_X8_performPlan_58 : decode (qMc M_X8_performPlan) 58 = .ok (.iload_n 1, 1) := by decide +kernel
theorem d_X8_performPlan_59 : decode (qMc M_X8_performPlan) 59 = .ok (.iconst 1, 1) := by decide +kernel
theorem d_X8_performPlan_60 : decode (qMc M_X8_performPlan) 60 = .ok (.invokevirtual 80, 3) := by decide +kernel
theorem d_X8_performPlan_63 : decode (qMc M_X8_performPlan) 63 = .ok (.iload_n 2, 1) := by decide +kernel
theorem d_X8_performPlan_64 : decode (qMc M_X8_performPlan) 64 = .ok (.aload_n 0, 1) := by decide +kernel
theorem d_X8_performPlan_65 : decode (qMc M_X8_performPlan) 65 = .ok (.getfield 26, 3) := by decide +kernel
theorem d_X8_performPlan_68 : decode (qMc M_X8_performPlan) 68 = .ok (.iload_n 1, 1) := by decide +kernel
theorem d_X8_performPlan_69 : decode (qMc M_X8_performPlan) 69 = .ok (.iconst 3, 1) := by decide +kernel
theorem d_X8_performPlan_70 : decode (qMc M_X8_performPlan) 70 = .ok (.invokevirtual 80, 3) := by decide +kernel
theorem d_X8_performPlan_73 : decode (qMc M_X8_performPlan) 73 = .ok (.invokevirtual 88, 3) := by decide +kernel
theorem d_X8_performPlan_76 : decode (qMc M_X8_performPlan) 76 = .ok (.iinc 1 1, 3) := by decide +kernel
theorem d_X8_performPlan_79 : decode (qMc M_X8_performPlan) 79 = .ok (.goto (-77), 3) := by decide +kernel
theorem d_X8_performPlan_82 : decode (qMc M_X8_performPlan) 82 = .ok (.return_, 1) := by decide +kernel
theorem d_X8_noteFirstFire_0 : decode (qMc M_X8_noteFirstFire) 0 = .ok (.aload_n 0, 1) := by decide +kernel
theorem d_X8_noteFirstFire_1 : decode (qMc M_X8_noteFirstFire) 1 = .ok (.getfield 36, 3) := by decide +kernel
theorem d_X8_noteFirstFire_4 : decode (qMc M_X8_noteFirstFire) 4 = .ok (.invokevirtual 91, 3) := by decide +kernel
theorem d_X8_noteFirstFire_7 : decode (qMc M_X8_noteFirstFire) 7 = .ok (.istore_n 1, 1) := by decide +kernel
theorem d_X8_noteFirstFire_8 : decode (qMc M_X8_noteFirstFire) 8 = .ok (.aload_n 0, 1) := by decide +kernel
theorem d_X8_noteFirstFire_9 : decode (qMc M_X8_noteFirstFire) 9 = .ok (.getfield 36, 3) := by decide +kernel
theorem d_X8_noteFirstFire_12 : decode (qMc M_X8_noteFirstFire) 12 = .ok (.getfield 95, 3) := by decide +kernel
theorem d_X8_noteFirstFire_15 : decode (qMc M_X8_noteFirstFire) 15 = .ok (.iconst (-1), 1) := by decide +kernel
theorem d_X8_noteFirstFire_16 : decode (qMc M_X8_noteFirstFire) 16 = .ok (.if_icmp .ne 7, 3) := by decide +kernel
theorem d_X8_noteFirstFire_19 : decode (qMc M_X8_noteFirstFire) 19 = .ok (.iload_n 1, 1) := by decide +kernel
theorem d_X8_noteFirstFire_20 : decode (qMc M_X8_noteFirstFire) 20 = .ok (.ifCond .ne 4, 3) := by decide +kernel
theorem d_X8_noteFirstFire_23 : decode (qMc M_X8_noteFirstFire) 23 = .ok (.return_, 1) := by decide +kernel
theorem d_X8_noteFirstFire_24 : decode (qMc M_X8_noteFirstFire) 24 = .ok (.aload_n 0, 1) := by decide +kernel
theorem d_X8_noteFirstFire_25 : decode (qMc M_X8_noteFirstFire) 25 = .ok (.getfield 36, 3) := by decide +kernel
theorem d_X8_noteFirstFire_28 : decode (qMc M_X8_noteFirstFire) 28 = .ok (.aload_n 0, 1) := by decide +kernel
theorem d_X8_noteFirstFire_29 : decode (qMc M_X8_noteFirstFire) 29 = .ok (.getfield 36, 3) := by decide +kernel
theorem d_X8_noteFirstFire_32 : decode (qMc M_X8_noteFirstFire) 32 = .ok (.getfield 60, 3) := by decide +kernel
theorem d_X8_noteFirstFire_35 : decode (qMc M_X8_noteFirstFire) 35 = .ok (.putfield 95, 3) := by decide +kernel
theorem d_X8_noteFirstFire_38 : decode (qMc M_X8_noteFirstFire) 38 = .ok (.aload_n 0, 1) := by decide +kernel
theorem d_X8_noteFirstFire_39 : decode (qMc M_X8_noteFirstFire) 39 = .ok (.getfield 36, 3) := by decide +kernel
theorem d_X8_noteFirstFire_42 : decode (qMc M_X8_noteFirstFire) 42 = .ok (.iload_n 1, 1) := by decide +kernel
theorem d_X8_noteFirstFire_43 : decode (qMc M_X8_noteFirstFire) 43 = .ok (.putfield 98, 3) := by decide +kernel
theorem d_X8_noteFirstFire_46 : decode (qMc M_X8_noteFirstFire) 46 = .ok (.aload_n 0, 1) := by decide +kernel
theorem d_X8_noteFirstFire_47 : decode (qMc M_X8_noteFirstFire) 47 = .ok (.getfield 40, 3) := by decide +kernel
theorem d_X8_noteFirstFire_50 : decode (qMc M_X8_noteFirstFire) 50 = .ok (.aload_n 0, 1) := by decide +kernel
theorem d_X8_noteFirstFire_51 : decode (qMc M_X8_noteFirstFire) 51 = .ok (.getfield 36, 3) := by decide +kernel
theorem d_X8_noteFirstFire_54 : decode (qMc M_X8_noteFirstFire) 54 = .ok (.getfield 60, 3) := by decide +kernel
theorem d_X8_noteFirstFire_57 : decode (qMc M_X8_noteFirstFire) 57 = .ok (.bipush 6, 2) := by decide +kernel
theorem d_X8_noteFirstFire_59 : decode (qMc M_X8_noteFirstFire) 59 = .ok (.aload_n 0, 1) := by decide +kernel
theorem d_X8_noteFirstFire_60 : decode (qMc M_X8_noteFirstFire) 60 = .ok (.getfield 36, 3) := by decide +kernel
theorem d_X8_noteFirstFire_63 : decode (qMc M_X8_noteFirstFire) 63 = .ok (.invokevirtual 101, 3) := by decide +kernel
theorem d_X8_noteFirstFire_66 : decode (qMc M_X8_noteFirstFire) 66 = .ok (.iload_n 1, 1) := by decide +kernel
theorem d_X8_noteFirstFire_67 : decode (qMc M_X8_noteFirstFire) 67 = .ok (.invokevirtual 64, 3) := by decide +kernel
theorem d_X8_noteFirstFire_70 : decode (qMc M_X8_noteFirstFire) 70 = .ok (.pop, 1) := by decide +kernel
theorem d_X8_noteFirstFire_71 : decode (qMc M_X8_noteFirstFire) 71 = .ok (.return_, 1) := by decide +kernel
theorem d_X9_init_0 : decode (qMc M_X9_init) 0 = .ok (.aload_n 0, 1) := by decide +kernel
theorem d_X9_init_1 : decode (qMc M_X9_init) 1 = .ok (.invokespecial 3, 3) := by decide +kernel
theorem d_X9_init_4 : decode (qMc M_X9_init) 4 = .ok (.aload_n 0, 1) := by decide +kernel
theorem d_X9_init_5 : decode (qMc M_X9_init) 5 = .ok (.new 9, 3) := by decide +kernel
theorem d_X9_init_8 : decode (qMc M_X9_init) 8 = .ok (.dup, 1) := by decide +kernel
theorem d_X9_init_9 : decode (qMc M_X9_init) 9 = .ok (.invokespecial 11, 3) := by decide +kernel
theorem d_X9_init_12 : decode (qMc M_X9_init) 12 = .ok (.putfield 12, 3) := by decide +kernel
theorem d_X9_init_15 : decode (qMc M_X9_init) 15 = .ok (.aload_n 0, 1) := by decide +kernel
theorem d_X9_init_16 : decode (qMc M_X9_init) 16 = .ok (.new 9, 3) := by decide +kernel
theorem d_X9_init_19 : decode (qMc M_X9_init) 19 = .ok (.dup, 1) := by decide +kernel
theorem d_X9_init_20 : decode (qMc M_X9_init) 20 = .ok (.invokespecial 11, 3) := by decide +kernel
theorem d_X9_init_23 : decode (qMc M_X9_init) 23 = .ok (.putfield 18, 3) := by decide +kernel
theorem d_X9_init_26 : decode (qMc M_X9_init) 26 = .ok (.aload_n 0, 1) := by decide +kernel
theorem d_X9_init_27 : decode (qMc M_X9_init) 27 = .ok (.new 21, 3) := by decide +kernel
theorem d_X9_init_30 : decode (qMc M_X9_init) 30 = .ok (.dup, 1) := by decide +kernel
theorem d_X9_init_31 : decode (qMc M_X9_init) 31 = .ok (.invokespecial 23, 3) := by decide +kernel
theorem d_X9_init_34 : decode (qMc M_X9_init) 34 = .ok (.putfield 24, 3) := by decide +kernel
theorem d_X9_init_37 : decode (qMc M_X9_init) 37 = .ok (.aload_n 0, 1) := by decide +kernel
theorem d_X9_init_38 : decode (qMc M_X9_init) 38 = .ok (.sipush 648, 3) := by decide +kernel
theorem d_X9_init_41 : decode (qMc M_X9_init) 41 = .ok (.newarray .int, 2) := by decide +kernel
theorem d_X9_init_43 : decode (qMc M_X9_init) 43 = .ok (.putfield 28, 3) := by decide +kernel
theorem d_X9_init_46 : decode (qMc M_X9_init) 46 = .ok (.aload_n 0, 1) := by decide +kernel
theorem d_X9_init_47 : decode (qMc M_X9_init) 47 = .ok (.iconst 0, 1) := by decide +kernel
theorem d_X9_init_48 : decode (qMc M_X9_init) 48 = .ok (.putfield 32, 3) := by decide +kernel
theorem d_X9_init_51 : decode (qMc M_X9_init) 51 = .ok (.aload_n 0, 1) := by decide +kernel
theorem d_X9_init_52 : decode (qMc M_X9_init) 52 = .ok (.iconst 0, 1) := by decide +kernel
theorem d_X9_init_53 : decode (qMc M_X9_init) 53 = .ok (.putfield 36, 3) := by decide +kernel
theorem d_X9_init_56 : decode (qMc M_X9_init) 56 = .ok (.aload_n 0, 1) := by decide +kernel
theorem d_X9_init_57 : decode (qMc M_X9_init) 57 = .ok (.iconst (-1), 1) := by decide +kernel
theorem d_X9_init_58 : decode (qMc M_X9_init) 58 = .ok (.putfield 39, 3) := by decide +kernel
theorem d_X9_init_61 : decode (qMc M_X9_init) 61 = .ok (.return_, 1) := by decide +kernel
theorem d_X9_firstBad_0 : decode (qMc M_X9_firstBad) 0 = .ok (.iconst 1, 1) := by decide +kernel
theorem d_X9_firstBad_1 : decode (qMc M_X9_firstBad) 1 = .ok (.istore_n 3, 1) := by decide +kernel
theorem d_X9_firstBad_2 : decode (qMc M_X9_firstBad) 2 = .ok (.iload_n 3, 1) := by decide +kernel
theorem d_X9_firstBad_3 : decode (qMc M_X9_firstBad) 3 = .ok (.iload_n 2, 1) := by decide +kernel
theorem d_X9_firstBad_4 : decode (qMc M_X9_firstBad) 4 = .ok (.if_icmp .gt 39, 3) := by decide +kernel
theorem d_X9_firstBad_7 : decode (qMc M_X9_firstBad) 7 = .ok (.aload_n 0, 1) := by decide +kernel
theorem d_X9_firstBad_8 : decode (qMc M_X9_firstBad) 8 = .ok (.getfield 12, 3) := by decide +kernel
theorem d_X9_firstBad_11 : decode (qMc M_X9_firstBad) 11 = .ok (.iload_n 3, 1) := by decide +kernel
theorem d_X9_firstBad_12 : decode (qMc M_X9_firstBad) 12 = .ok (.iconst 0, 1) := by decide +kernel
theorem d_X9_firstBad_13 : decode (qMc M_X9_firstBad) 13 = .ok (.iconst 0, 1) := by decide +kernel
theorem d_X9_firstBad_14 : decode (qMc M_X9_firstBad) 14 = .ok (.invokevirtual 42, 3) := by decide +kernel
theorem d_X9_firstBad_17 : decode (qMc M_X9_firstBad) 17 = .ok (.aload_n 0, 1) := by decide +kernel
theorem d_X9_firstBad_18 : decode (qMc M_X9_firstBad) 18 = .ok (.getfield 12, 3) := by decide +kernel
theorem d_X9_firstBad_21 : decode (qMc M_X9_firstBad) 21 = .ok (.aload_n 1, 1) := by decide +kernel
theorem d_X9_firstBad_22 : decode (qMc M_X9_firstBad) 22 = .ok (.invokevirtual 46, 3) := by decide +kernel
theorem d_X9_firstBad_25 : decode (qMc M_X9_firstBad) 25 = .ok (.aload_n 0, 1) := by decide +kernel
theorem d_X9_firstBad_26 : decode (qMc M_X9_firstBad) 26 = .ok (.getfield 12, 3) := by decide +kernel
theorem d_X9_firstBad_29 : decode (qMc M_X9_firstBad) 29 = .ok (.invokevirtual 50, 3) := by decide +kernel
theorem d_X9_firstBad_32 : decode (qMc M_X9_firstBad) 32 = .ok (.ifCond .ne 5, 3) := by decide +kernel
theorem d_X9_firstBad_35 : decode (qMc M_X9_firstBad) 35 = .ok (.iload_n 3, 1) := by decide +kernel
theorem d_X9_firstBad_36 : decode (qMc M_X9_firstBad) 36 = .ok (.ireturn, 1) := by decide +kernel
theorem d_X9_firstBad_37 : decode (qMc M_X9_firstBad) 37 = .ok (.iinc 3 1, 3) := by decide +kernel
theorem d_X9_firstBad_40 : decode (qMc M_X9_firstBad) 40 = .ok (.goto (-38), 3) := by decide +kernel
theorem d_X9_firstBad_43 : decode (qMc M_X9_firstBad) 43 = .ok (.iconst (-1), 1) := by decide +kernel
theorem d_X9_firstBad_44 : decode (qMc M_X9_firstBad) 44 = .ok (.ireturn, 1) := by decide +kernel
theorem d_X9_askAll_0 : decode (qMc M_X9_askAll) 0 = .ok (.aload_n 0, 1) := by decide +kernel
theorem d_X9_askAll_1 : decode (qMc M_X9_askAll) 1 = .ok (.getfield 28, 3) := by decide +kernel
theorem d_X9_askAll_4 : decode (qMc M_X9_askAll) 4 = .ok (.iconst 1, 1) := by decide +kernel
theorem d_X9_askAll_5 : decode (qMc M_X9_askAll) 5 = .ok (.invokestatic 54, 3) := by decide +kernel
theorem d_X9_askAll_8 : decode (qMc M_X9_askAll) 8 = .ok (.return_, 1) := by decide +kernel
theorem d_X9_noteRuns_0 : decode (qMc M_X9_noteRuns) 0 = .ok (.aload_n 0, 1) := by decide +kernel
theorem d_X9_noteRuns_1 : decode (qMc M_X9_noteRuns) 1 = .ok (.getfield 28, 3) := by decide +kernel
theorem d_X9_noteRuns_4 : decode (qMc M_X9_noteRuns) 4 = .ok (.iconst 0, 1) := by decide +kernel
theorem d_X9_noteRuns_5 : decode (qMc M_X9_noteRuns) 5 = .ok (.invokestatic 54, 3) := by decide +kernel
theorem d_X9_noteRuns_8 : decode (qMc M_X9_noteRuns) 8 = .ok (.aload_n 0, 1) := by decide +kernel
theorem d_X9_noteRuns_9 : decode (qMc M_X9_noteRuns) 9 = .ok (.iconst 0, 1) := by decide +kernel
theorem d_X9_noteRuns_10 : decode (qMc M_X9_noteRuns) 10 = .ok (.putfield 32, 3) := by decide +kernel
theorem d_X9_noteRuns_13 : decode (qMc M_X9_noteRuns) 13 = .ok (.iconst 1, 1) := by decide +kernel
theorem d_X9_noteRuns_14 : decode (qMc M_X9_noteRuns) 14 = .ok (.istore_n 3, 1) := by decide +kernel
theorem d_X9_noteRuns_15 : decode (qMc M_X9_noteRuns) 15 = .ok (.iload_n 3, 1) := by decide +kernel
theorem d_X9_noteRuns_16 : decode (qMc M_X9_noteRuns) 16 = .ok (.iload_n 2, 1) := by decide +kernel
theorem d_X9_noteRuns_17 : decode (qMc M_X9_noteRuns) 17 = .ok (.if_icmp .gt 15, 3) := by decide +kernel
theorem d_X9_noteRuns_20 : decode (qMc M_X9_noteRuns) 20 = .ok (.aload_n 0, 1) := by decide +kernel
theorem d_X9_noteRuns_21 : decode (qMc M_X9_noteRuns) 21 = .ok (.aload_n 1, 1) := by decide +kernel
theorem d_X9_noteRuns_22 : decode (qMc M_X9_noteRuns) 22 = .ok (.iload_n 3, 1) := by decide +kernel
theorem d_X9_noteRuns_23 : decode (qMc M_X9_noteRuns) 23 = .ok (.invokevirtual 60, 3) := by decide +kernel
theorem d_X9_noteRuns_26 : decode (qMc M_X9_noteRuns) 26 = .ok (.iinc 3 1, 3) := by decide +kernel
theorem d_X9_noteRuns_29 : decode (qMc M_X9_noteRuns) 29 = .ok (.goto (-14), 3) := by decide +kernel
theorem d_X9_noteRuns_32 : decode (qMc M_X9_noteRuns) 32 = .ok (.return_, 1) := by decide +kernel
theorem d_X9_noteRun_0 : decode (qMc M_X9_noteRun) 0 = .ok (.aload_n 0, 1) := by decide +kernel
theorem d_X9_noteRun_1 : decode (qMc M_X9_noteRun) 1 = .ok (.getfield 12, 3) := by decide +kernel
theorem d_X9_noteRun_4 : decode (qMc M_X9_noteRun) 4 = .ok (.iload_n 2, 1) := by decide +kernel
theorem d_X9_noteRun_5 : decode (qMc M_X9_noteRun) 5 = .ok (.iconst 0, 1) := by decide +kernel
theorem d_X9_noteRun_6 : decode (qMc M_X9_noteRun) 6 = .ok (.iconst 0, 1) := by decide +kernel
theorem d_X9_noteRun_7 : decode (qMc M_X9_noteRun) 7 = .ok (.invokevirtual 42, 3) := by decide +kernel
theorem d_X9_noteRun_10 : decode (qMc M_X9_noteRun) 10 = .ok (.aload_n 0, 1) := by decide +kernel
theorem d_X9_noteRun_11 : decode (qMc M_X9_noteRun) 11 = .ok (.dup, 1) := by decide +kernel
theorem d_X9_noteRun_12 : decode (qMc M_X9_noteRun) 12 = .ok (.getfield 32, 3) := by decide +kernel
theorem d_X9_noteRun_15 : decode (qMc M_X9_noteRun) 15 = .ok (.aload_n 0, 1) := by decide +kernel
theorem d_X9_noteRun_16 : decode (qMc M_X9_noteRun) 16 = .ok (.getfield 12, 3) := by decide +kernel
theorem d_X9_noteRun_19 : decode (qMc M_X9_noteRun) 19 = .ok (.invokevirtual 63, 3) := by decide +kernel
theorem d_X9_noteRun_22 : decode (qMc M_X9_noteRun) 22 = .ok (.ior, 1) := by decide +kernel
theorem d_X9_noteRun_23 : decode (qMc M_X9_noteRun) 23 = .ok (.putfield 32, 3) := by decide +kernel
theorem d_X9_noteRun_26 : decode (qMc M_X9_noteRun) 26 = .ok (.iconst 1, 1) := by decide +kernel
theorem d_X9_noteRun_27 : decode (qMc M_X9_noteRun) 27 = .ok (.istore_n 3, 1) := by decide +kernel
theorem d_X9_noteRun_28 : decode (qMc M_X9_noteRun) 28 = .ok (.iconst 0, 1) := by decide +kernel
theorem d_X9_noteRun_29 : decode (qMc M_X9_noteRun) 29 = .ok (.istore 4, 2) := by decide +kernel
theorem d_X9_noteRun_31 : decode (qMc M_X9_noteRun) 31 = .ok (.iload 4, 2) := by decide +kernel
theorem d_X9_noteRun_33 : decode (qMc M_X9_noteRun) 33 = .ok (.aload_n 0, 1) := by decide +kernel
theorem d_X9_noteRun_34 : decode (qMc M_X9_noteRun) 34 = .ok (.getfield 12, 3) := by decide +kernel
theorem d_X9_noteRun_37 : decode (qMc M_X9_noteRun) 37 = .ok (.getfield 67, 3) := by decide +kernel
theorem d_X9_noteRun_40 : decode (qMc M_X9_noteRun) 40 = .ok (.if_icmp .ge 74, 3) := by decide +kernel
theorem d_X9_noteRun_43 : decode (qMc M_X9_noteRun) 43 = .ok (.aload_n 0, 1) := by decide +kernel
theorem d_X9_noteRun_44 : decode (qMc M_X9_noteRun) 44 = .ok (.getfield 12, 3) := by decide +kernel
theorem d_X9_noteRun_47 : decode (qMc M_X9_noteRun) 47 = .ok (.getfield 70, 3) := by decide +kernel
theorem d_X9_noteRun_50 : decode (qMc M_X9_noteRun) 50 = .ok (.ifCond .ne 64, 3) := by decide +kernel
theorem d_X9_noteRun_53 : decode (qMc M_X9_noteRun) 53 = .ok (.iload_n 3, 1) := by decide +kernel
theorem d_X9_noteRun_54 : decode (qMc M_X9_noteRun) 54 = .ok (.ifCond .eq 60, 3) := by decide +kernel
theorem d_X9_noteRun_57 : decode (qMc M_X9_noteRun) 57 = .ok (.aload_n 0, 1) := by decide +kernel
theorem d_X9_noteRun_58 : decode (qMc M_X9_noteRun) 58 = .ok (.getfield 12, 3) := by decide +kernel
theorem d_X9_noteRun_61 : decode (qMc M_X9_noteRun) 61 = .ok (.aload_n 0, 1) := by decide +kernel
theorem d_X9_noteRun_62 : decode (qMc M_X9_noteRun) 62 = .ok (.getfield 28, 3) := by decide +kernel
theorem d_X9_noteRun_65 : decode (qMc M_X9_noteRun) 65 = .ok (.invokevirtual 73, 3) := by decide +kernel
theorem d_X9_noteRun_68 : decode (qMc M_X9_noteRun) 68 = .ok (.aload_n 0, 1) := by decide +kernel
theorem d_X9_noteRun_69 : decode (qMc M_X9_noteRun) 69 = .ok (.getfield 12, 3) := by decide +kernel
theorem d_X9_noteRun_72 : decode (qMc M_X9_noteRun) 72 = .ok (.aload_n 1, 1) := by decide +kernel
theorem d_X9_noteRun_73 : decode (qMc M_X9_noteRun) 73 = .ok (.invokevirtual 76, 3) := by decide +kernel
theorem d_X9_noteRun_76 : decode (qMc M_X9_noteRun) 76 = .ok (.aload_n 0, 1) := by decide +kernel
theorem d_X9_noteRun_77 : decode (qMc M_X9_noteRun) 77 = .ok (.dup, 1) := by decide +kernel
theorem d_X9_noteRun_78 : decode (qMc M_X9_noteRun) 78 = .ok (.getfield 32, 3) := by decide +kernel
theorem d_X9_noteRun_81 : decode (qMc M_X9_noteRun) 81 = .ok (.aload_n 0, 1) := by decide +kernel
theorem d_X9_noteRun_82 : decode (qMc M_X9_noteRun) 82 = .ok (.getfield 12, 3) := by decide +kernel
theorem d_X9_noteRun_85 : decode (qMc M_X9_noteRun) 85 = .ok (.invokevirtual 63, 3) := by decide +kernel
theorem d_X9_noteRun_88 : decode (qMc M_X9_noteRun) 88 = .ok (.ior, 1) := by decide +kernel
theorem d_X9_noteRun_89 : decode (qMc M_X9_noteRun) 89 = .ok (.putfield 32, 3) := by decide +kernel
theorem d_X9_noteRun_92 : decode (qMc M_X9_noteRun) 92 = .ok (.aload_n 0, 1) := by decide +kernel
theorem d_X9_noteRun_93 : decode (qMc M_X9_noteRun) 93 = .ok (.getfield 12, 3) := by decide +kernel
theorem d_X9_noteRun_96 : decode (qMc M_X9_noteRun) 96 = .ok (.getfield 79, 3) := by decide +kernel
theorem d_X9_noteRun_99 : decode (qMc M_X9_noteRun) 99 = .ok (.ifCond .le 7, 3) := by decide +kernel
theorem d_X9_noteRun_102 : decode (qMc M_X9_noteRun) 102 = .ok (.iconst 1, 1) := by decide +kernel
theorem d_X9_noteRun_103 : decode (qMc M_X9_noteRun) 103 = .ok (.goto 4, 3) := by decide +kernel
theorem d_X9_noteRun_106 : decode (qMc M_X9_noteRun) 106 = .ok (.iconst 0, 1) := by decide +kernel
theorem d_X9_noteRun_107 : decode (qMc M_X9_noteRun) 107 = .ok (.istore_n 3, 1) := by decide +kernel
theorem d_X9_noteRun_108 : decode (qMc M_X9_noteRun) 108 = .ok (.iinc 4 1, 3) := by decide +kernel
theorem d_X9_noteRun_111 : decode (qMc M_X9_noteRun) 111 = .ok (.goto (-80), 3) := by decide +kernel
theorem d_X9_noteRun_114 : decode (qMc M_X9_noteRun) 114 = .ok (.return_, 1) := by decide +kernel
