theorem d_X12_used_0 : decode (qMc M_X12_used) 0 = .ok (.aload_n 0, 1) := by decide +kernel
theorem d_X12_used_1 : decode (qMc M_X12_used) 1 = .ok (.iconst 0, 1) := by decide +kernel
theorem d_X12_used_2 : decode (qMc M_X12_used) 2 = .ok (.putfield 127, 3) := by decide +kernel
theorem d_X12_used_5 : decode (qMc M_X12_used) 5 = .ok (.iload_n 1, 1) := by decide +kernel
theorem d_X12_used_6 : decode (qMc M_X12_used) 6 = .ok (.iconst 1, 1) := by decide +kernel
theorem d_X12_used_7 : decode (qMc M_X12_used) 7 = .ok (.bipush 24, 2) := by decide +kernel
theorem d_X12_used_9 : decode (qMc M_X12_used) 9 = .ok (.invokestatic 137, 3) := by decide +kernel
theorem d_X12_used_12 : decode (qMc M_X12_used) 12 = .ok (.ifCond .eq 12, 3) := by decide +kernel
theorem d_X12_used_15 : decode (qMc M_X12_used) 15 = .ok (.iload_n 2, 1) := by decide +kernel
theorem d_X12_used_16 : decode (qMc M_X12_used) 16 = .ok (.iconst 0, 1) := by decide +kernel
theorem d_X12_used_17 : decode (qMc M_X12_used) 17 = .ok (.iconst 2, 1) := by decide +kernel
theorem d_X12_used_18 : decode (qMc M_X12_used) 18 = .ok (.invokestatic 137, 3) := by decide +kernel
theorem d_X12_used_21 : decode (qMc M_X12_used) 21 = .ok (.ifCond .ne 5, 3) := by decide +kernel
theorem d_X12_used_24 : decode (qMc M_X12_used) 24 = .ok (.iconst (-1), 1) := by decide +kernel
theorem d_X12_used_25 : decode (qMc M_X12_used) 25 = .ok (.ireturn, 1) := by decide +kernel
theorem d_X12_used_26 : decode (qMc M_X12_used) 26 = .ok (.aload_n 0, 1) := by decide +kernel
theorem d_X12_used_27 : decode (qMc M_X12_used) 27 = .ok (.invokevirtual 275, 3) := by decide +kernel
theorem d_X12_used_30 : decode (qMc M_X12_used) 30 = .ok (.aload_n 0, 1) := by decide +kernel
theorem d_X12_used_31 : decode (qMc M_X12_used) 31 = .ok (.iconst 0, 1) := by decide +kernel
theorem d_X12_used_32 : decode (qMc M_X12_used) 32 = .ok (.putfield 360, 3) := by decide +kernel
theorem d_X12_used_35 : decode (qMc M_X12_used) 35 = .ok (.iconst 0, 1) := by decide +kernel
theorem d_X12_used_36 : decode (qMc M_X12_used) 36 = .ok (.istore_n 3, 1) := by decide +kernel
theorem d_X12_used_37 : decode (qMc M_X12_used) 37 = .ok (.iload_n 3, 1) := by decide +kernel
theorem d_X12_used_38 : decode (qMc M_X12_used) 38 = .ok (.bipush 96, 2) := by decide +kernel
theorem d_X12_used_40 : decode (qMc M_X12_used) 40 = .ok (.if_icmp .ge 16, 3) := by decide +kernel
theorem d_X12_used_43 : decode (qMc M_X12_used) 43 = .ok (.aload_n 0, 1) := by decide +kernel
theorem d_X12_used_44 : decode (qMc M_X12_used) 44 = .ok (.getfield 104, 3) := by decide +kernel
theorem d_X12_used_47 : decode (qMc M_X12_used) 47 = .ok (.iload_n 3, 1) := by decide +kernel
theorem d_X12_used_48 : decode (qMc M_X12_used) 48 = .ok (.iconst 0, 1) := by decide +kernel
theorem d_X12_used_49 : decode (qMc M_X12_used) 49 = .ok (.bastore, 1) := by decide +kernel
theorem d_X12_used_50 : decode (qMc M_X12_used) 50 = .ok (.iinc 3 1, 3) := by decide +kernel
theorem d_X12_used_53 : decode (qMc M_X12_used) 53 = .ok (.goto (-16), 3) := by decide +kernel
theorem d_X12_used_56 : decode (qMc M_X12_used) 56 = .ok (.iconst 1, 1) := by decide +kernel
theorem d_X12_used_57 : decode (qMc M_X12_used) 57 = .ok (.istore_n 3, 1) := by decide +kernel
theorem d_X12_used_58 : decode (qMc M_X12_used) 58 = .ok (.iload_n 3, 1) := by decide +kernel
theorem d_X12_used_59 : decode (qMc M_X12_used) 59 = .ok (.iload_n 1, 1) := by decide +kernel
theorem d_X12_used_60 : decode (qMc M_X12_used) 60 = .ok (.if_icmp .gt 14, 3) := by decide +kernel
theorem d_X12_used_63 : decode (qMc M_X12_used) 63 = .ok (.aload_n 0, 1) := by decide +kernel
theorem d_X12_used_64 : decode (qMc M_X12_used) 64 = .ok (.iload_n 3, 1) := by decide +kernel
theorem d_X12_used_65 : decode (qMc M_X12_used) 65 = .ok (.invokevirtual 363, 3) := by decide +kernel
theorem d_X12_used_68 : decode (qMc M_X12_used) 68 = .ok (.iinc 3 1, 3) := by decide +kernel
theorem d_X12_used_71 : decode (qMc M_X12_used) 71 = .ok (.goto (-13), 3) := by decide +kernel
theorem d_X12_used_74 : decode (qMc M_X12_used) 74 = .ok (.iconst 0, 1) := by decide +kernel
theorem d_X12_used_75 : decode (qMc M_X12_used) 75 = .ok (.istore_n 3, 1) := by decide +kernel
theorem d_X12_used_76 : decode (qMc M_X12_used) 76 = .ok (.iconst (-1), 1) := by decide +kernel
theorem d_X12_used_77 : decode (qMc M_X12_used) 77 = .ok (.istore 4, 2) := by decide +kernel
theorem d_X12_used_79 : decode (qMc M_X12_used) 79 = .ok (.bipush 95, 2) := by decide +kernel
theorem d_X12_used_81 : decode (qMc M_X12_used) 81 = .ok (.istore 5, 2) := by decide +kernel
theorem d_X12_used_83 : decode (qMc M_X12_used) 83 = .ok (.iload 5, 2) := by decide +kernel
theorem d_X12_used_85 : decode (qMc M_X12_used) 85 = .ok (.ifCond .lt 55, 3) := by decide +kernel
theorem d_X12_used_88 : decode (qMc M_X12_used) 88 = .ok (.iload_n 3, 1) := by decide +kernel
theorem d_X12_used_89 : decode (qMc M_X12_used) 89 = .ok (.aload_n 0, 1) := by decide +kernel
theorem d_X12_used_90 : decode (qMc M_X12_used) 90 = .ok (.getfield 104, 3) := by decide +kernel
theorem d_X12_used_93 : decode (qMc M_X12_used) 93 = .ok (.iload 5, 2) := by decide +kernel
theorem d_X12_used_95 : decode (qMc M_X12_used) 95 = .ok (.baload, 1) := by decide +kernel
theorem d_X12_used_96 : decode (qMc M_X12_used) 96 = .ok (.ifCond .eq 7, 3) := by decide +kernel
theorem d_X12_used_99 : decode (qMc M_X12_used) 99 = .ok (.iconst 1, 1) := by decide +kernel
theorem d_X12_used_100 : decode (qMc M_X12_used) 100 = .ok (.goto 4, 3) := by decide +kernel
theorem d_X12_used_103 : decode (qMc M_X12_used) 103 = .ok (.iconst 0, 1) := by decide +kernel
theorem d_X12_used_104 : decode (qMc M_X12_used) 104 = .ok (.iadd, 1) := by decide +kernel
theorem d_X12_used_105 : decode (qMc M_X12_used) 105 = .ok (.istore_n 3, 1) := by decide +kernel
theorem d_X12_used_106 : decode (qMc M_X12_used) 106 = .ok (.aload_n 0, 1) := by decide +kernel
theorem d_X12_used_107 : decode (qMc M_X12_used) 107 = .ok (.iload 5, 2) := by decide +kernel
theorem d_X12_used_109 : decode (qMc M_X12_used) 109 = .ok (.invokevirtual 366, 3) := by decide +kernel
theorem d_X12_used_112 : decode (qMc M_X12_used) 112 = .ok (.ifCond .eq 18, 3) := by decide +kernel
theorem d_X12_used_115 : decode (qMc M_X12_used) 115 = .ok (.aload_n 0, 1) := by decide +kernel
theorem d_X12_used_116 : decode (qMc M_X12_used) 116 = .ok (.getfield 104, 3) := by decide +kernel
theorem d_X12_used_119 : decode (qMc M_X12_used) 119 = .ok (.iload 5, 2) := by decide +kernel
theorem d_X12_used_121 : decode (qMc M_X12_used) 121 = .ok (.baload, 1) := by decide +kernel
theorem d_X12_used_122 : decode (qMc M_X12_used) 122 = .ok (.ifCond .ne 8, 3) := by decide +kernel
theorem d_X12_used_125 : decode (qMc M_X12_used) 125 = .ok (.iload 5, 2) := by decide +kernel
theorem d_X12_used_127 : decode (qMc M_X12_used) 127 = .ok (.goto 5, 3) := by decide +kernel
theorem d_X12_used_130 : decode (qMc M_X12_used) 130 = .ok (.iload 4, 2) := by decide +kernel
theorem d_X12_used_132 : decode (qMc M_X12_used) 132 = .ok (.istore 4, 2) := by decide +kernel
theorem d_X12_used_134 : decode (qMc M_X12_used) 134 = .ok (.iinc 5 (-1), 3) := by decide +kernel
theorem d_X12_used_137 : decode (qMc M_X12_used) 137 = .ok (.goto (-54), 3) := by decide +kernel
theorem d_X12_used_140 : decode (qMc M_X12_used) 140 = .ok (.iload_n 2, 1) := by decide +kernel
theorem d_X12_used_141 : decode (qMc M_X12_used) 141 = .ok (.ifCond .ne 7, 3) := by decide +kernel
theorem d_X12_used_144 : decode (qMc M_X12_used) 144 = .ok (.iload_n 3, 1) := by decide +kernel
theorem d_X12_used_145 : decode (qMc M_X12_used) 145 = .ok (.goto 17, 3) := by decide +kernel
theorem d_X12_used_148 : decode (qMc M_X12_used) 148 = .ok (.iload_n 2, 1) := by decide +kernel
theorem d_X12_used_149 : decode (qMc M_X12_used) 149 = .ok (.iconst 1, 1) := by decide +kernel
theorem d_X12_used_150 : decode (qMc M_X12_used) 150 = .ok (.if_icmp .ne 8, 3) := by decide +kernel
theorem d_X12_used_153 : decode (qMc M_X12_used) 153 = .ok (.iload 4, 2) := by decide +kernel
theorem d_X12_used_155 : decode (qMc M_X12_used) 155 = .ok (.goto 7, 3) := by decide +kernel
theorem d_X12_used_158 : decode (qMc M_X12_used) 158 = .ok (.aload_n 0, 1) := by decide +kernel
theorem d_X12_used_159 : decode (qMc M_X12_used) 159 = .ok (.getfield 360, 3) := by decide +kernel
theorem d_X12_used_162 : decode (qMc M_X12_used) 162 = .ok (.ireturn, 1) := by decide +kernel
theorem d_X12_worn_0 : decode (qMc M_X12_worn) 0 = .ok (.aload_n 0, 1) := by decide +kernel
theorem d_X12_worn_1 : decode (qMc M_X12_worn) 1 = .ok (.iconst 0, 1) := by decide +kernel
theorem d_X12_worn_2 : decode (qMc M_X12_worn) 2 = .ok (.putfield 127, 3) := by decide +kernel
theorem d_X12_worn_5 : decode (qMc M_X12_worn) 5 = .ok (.aload_n 0, 1) := by decide +kernel
theorem d_X12_worn_6 : decode (qMc M_X12_worn) 6 = .ok (.iload_n 1, 1) := by decide +kernel
theorem d_X12_worn_7 : decode (qMc M_X12_worn) 7 = .ok (.invokevirtual 366, 3) := by decide +kernel
theorem d_X12_worn_10 : decode (qMc M_X12_worn) 10 = .ok (.ifCond .eq 13, 3) := by decide +kernel
theorem d_X12_worn_13 : decode (qMc M_X12_worn) 13 = .ok (.iload_n 2, 1) := by decide +kernel
theorem d_X12_worn_14 : decode (qMc M_X12_worn) 14 = .ok (.iconst 1, 1) := by decide +kernel
theorem d_X12_worn_15 : decode (qMc M_X12_worn) 15 = .ok (.bipush 24, 2) := by decide +kernel
theorem d_X12_worn_17 : decode (qMc M_X12_worn) 17 = .ok (.invokestatic 137, 3) := by decide +kernel
theorem d_X12_worn_20 : decode (qMc M_X12_worn) 20 = .ok (.ifCond .ne 5, 3) := by decide +kernel
theorem d_X12_worn_23 : decode (qMc M_X12_worn) 23 = .ok (.iconst (-1), 1) := by decide +kernel
theorem d_X12_worn_24 : decode (qMc M_X12_worn) 24 = .ok (.ireturn, 1) := by decide +kernel
theorem d_X12_worn_25 : decode (qMc M_X12_worn) 25 = .ok (.aload_n 0, 1) := by decide +kernel
theorem d_X12_worn_26 : decode (qMc M_X12_worn) 26 = .ok (.aload_n 0, 1) := by decide +kernel
theorem d_X12_worn_27 : decode (qMc M_X12_worn) 27 = .ok (.getfield 17, 3) := by decide +kernel
theorem d_X12_worn_30 : decode (qMc M_X12_worn) 30 = .ok (.aload_n 0, 1) := by decide +kernel
theorem d_X12_worn_31 : decode (qMc M_X12_worn) 31 = .ok (.getfield 26, 3) := by decide +kernel
theorem d_X12_worn_34 : decode (qMc M_X12_worn) 34 = .ok (.bipush 15, 2) := by decide +kernel
theorem d_X12_worn_36 : decode (qMc M_X12_worn) 36 = .ok (.iload_n 1, 1) := by decide +kernel
theorem d_X12_worn_37 : decode (qMc M_X12_worn) 37 = .ok (.iconst (-1), 1) := by decide +kernel
theorem d_X12_worn_38 : decode (qMc M_X12_worn) 38 = .ok (.iconst 0, 1) := by decide +kernel
theorem d_X12_worn_39 : decode (qMc M_X12_worn) 39 = .ok (.aload_n 0, 1) := by decide +kernel
theorem d_X12_worn_40 : decode (qMc M_X12_worn) 40 = .ok (.getfield 86, 3) := by decide +kernel
theorem d_X12_worn_43 : decode (qMc M_X12_worn) 43 = .ok (.invokevirtual 271, 3) := by decide +kernel
theorem d_X12_worn_46 : decode (qMc M_X12_worn) 46 = .ok (.aload_n 0, 1) := by decide +kernel
theorem d_X12_worn_47 : decode (qMc M_X12_worn) 47 = .ok (.iload_n 2, 1) := by decide +kernel
theorem d_X12_worn_48 : decode (qMc M_X12_worn) 48 = .ok (.invokevirtual 354, 3) := by decide +kernel
theorem d_X12_worn_51 : decode (qMc M_X12_worn) 51 = .ok (.ireturn, 1) := by decide +kernel
theorem d_X12_mends_0 : decode (qMc M_X12_mends) 0 = .ok (.aload_n 0, 1) := by decide +kernel
theorem d_X12_mends_1 : decode (qMc M_X12_mends) 1 = .ok (.iconst 0, 1) := by decide +kernel
theorem d_X12_mends_2 : decode (qMc M_X12_mends) 2 = .ok (.putfield 127, 3) := by decide +kernel
theorem d_X12_mends_5 : decode (qMc M_X12_mends) 5 = .ok (.aload_n 0, 1) := by decide +kernel
theorem d_X12_mends_6 : decode (qMc M_X12_mends) 6 = .ok (.iload_n 1, 1) := by decide +kernel
theorem d_X12_mends_7 : decode (qMc M_X12_mends) 7 = .ok (.invokevirtual 366, 3) := by decide +kernel
theorem d_X12_mends_10 : decode (qMc M_X12_mends) 10 = .ok (.ifCond .eq 13, 3) := by decide +kernel
theorem d_X12_mends_13 : decode (qMc M_X12_mends) 13 = .ok (.iload_n 2, 1) := by decide +kernel
theorem d_X12_mends_14 : decode (qMc M_X12_mends) 14 = .ok (.iconst 1, 1) := by decide +kernel
theorem d_X12_mends_15 : decode (qMc M_X12_mends) 15 = .ok (.bipush 24, 2) := by decide +kernel
theorem d_X12_mends_17 : decode (qMc M_X12_mends) 17 = .ok (.invokestatic 137, 3) := by decide +kernel
theorem d_X12_mends_20 : decode (qMc M_X12_mends) 20 = .ok (.ifCond .ne 5, 3) := by decide +kernel
theorem d_X12_mends_23 : decode (qMc M_X12_mends) 23 = .ok (.iconst (-1), 1) := by decide +kernel
theorem d_X12_mends_24 : decode (qMc M_X12_mends) 24 = .ok (.ireturn, 1) := by decide +kernel
theorem d_X12_mends_25 : decode (qMc M_X12_mends) 25 = .ok (.iconst 0, 1) := by decide +kernel
theorem d_X12_mends_26 : decode (qMc M_X12_mends) 26 = .ok (.istore_n 3, 1) := by decide +kernel
theorem d_X12_mends_27 : decode (qMc M_X12_mends) 27 = .ok (.iconst 0, 1) := by decide +kernel
theorem d_X12_mends_28 : decode (qMc M_X12_mends) 28 = .ok (.istore 4, 2) := by decide +kernel
theorem d_X12_mends_30 : decode (qMc M_X12_mends) 30 = .ok (.iload 4, 2) := by decide +kernel
theorem d_X12_mends_32 : decode (qMc M_X12_mends) 32 = .ok (.bipush 8, 2) := by decide +kernel
theorem d_X12_mends_34 : decode (qMc M_X12_mends) 34 = .ok (.if_icmp .gt 51, 3) := by decide +kernel
theorem d_X12_mends_37 : decode (qMc M_X12_mends) 37 = .ok (.aload_n 0, 1) := by decide +kernel
theorem d_X12_mends_38 : decode (qMc M_X12_mends) 38 = .ok (.aload_n 0, 1) := by decide +kernel
theorem d_X12_mends_39 : decode (qMc M_X12_mends) 39 = .ok (.getfield 17, 3) := by decide +kernel
theorem d_X12_mends_42 : decode (qMc M_X12_mends) 42 = .ok (.aload_n 0, 1) := by decide +kernel
theorem d_X12_mends_43 : decode (qMc M_X12_mends) 43 = .ok (.getfield 26, 3) := by decide +kernel
theorem d_X12_mends_46 : decode (qMc M_X12_mends) 46 = .ok (.bipush 15, 2) := by decide +kernel
theorem d_X12_mends_48 : decode (qMc M_X12_mends) 48 = .ok (.iconst (-1), 1) := by decide +kernel
theorem d_X12_mends_49 : decode (qMc M_X12_mends) 49 = .ok (.iload_n 1, 1) := by decide +kernel
theorem d_X12_mends_50 : decode (qMc M_X12_mends) 50 = .ok (.iload 4, 2) := by decide +kernel
theorem d_X12_mends_52 : decode (qMc M_X12_mends) 52 = .ok (.aload_n 0, 1) := by decide +kernel
theorem d_X12_mends_53 : decode (qMc M_X12_mends) 53 = .ok (.getfield 86, 3) := by decide +kernel
theorem d_X12_mends_56 : decode (qMc M_X12_mends) 56 = .ok (.invokevirtual 271, 3) := by decide +kernel
theorem d_X12_mends_59 : decode (qMc M_X12_mends) 59 = .ok (.iload_n 3, 1) := by decide +kernel
theorem d_X12_mends_60 : decode (qMc M_X12_mends) 60 = .ok (.aload_n 0, 1) := by decide +kernel
theorem d_X12_mends_61 : decode (qMc M_X12_mends) 61 = .ok (.iload_n 2, 1) := by decide +kernel
theorem d_X12_mends_62 : decode (qMc M_X12_mends) 62 = .ok (.invokevirtual 354, 3) := by decide +kernel
theorem d_X12_mends_65 : decode (qMc M_X12_mends) 65 = .ok (.iconst (-1), 1) := by decide +kernel
theorem d_X12_mends_66 : decode (qMc M_X12_mends) 66 = .ok (.if_icmp .ne 10, 3) := by decide +kernel
theorem d_X12_mends_69 : decode (qMc M_X12_mends) 69 = .ok (.iconst 1, 1) := by decide +kernel
theorem d_X12_mends_70 : decode (qMc M_X12_mends) 70 = .ok (.iload 4, 2) := by decide +kernel
theorem d_X12_mends_72 : decode (qMc M_X12_mends) 72 = .ok (.ishl, 1) := by decide +kernel
theorem d_X12_mends_73 : decode (qMc M_X12_mends) 73 = .ok (.goto 4, 3) := by decide +kernel
theorem d_X12_mends_76 : decode (qMc M_X12_mends) 76 = .ok (.iconst 0, 1) := by decide +kernel
theorem d_X12_mends_77 : decode (qMc M_X12_mends) 77 = .ok (.ior, 1) := by decide +kernel
theorem d_X12_mends_78 : decode (qMc M_X12_mends) 78 = .ok (.istore_n 3, 1) := by decide +kernel
theorem d_X12_mends_79 : decode (qMc M_X12_mends) 79 = .ok (.iinc 4 1, 3) := by decide +kernel
theorem d_X12_mends_82 : decode (qMc M_X12_mends) 82 = .ok (.goto (-52), 3) := by decide +kernel
theorem d_X12_mends_85 : decode (qMc M_X12_mends) 85 = .ok (.iload_n 3, 1) := by decide +kernel
theorem d_X12_mends_86 : decode (qMc M_X12_mends) 86 = .ok (.ireturn, 1) := by decide +kernel
theorem d_X12_more_0 : decode (qMc M_X12_more) 0 = .ok (.aload_n 0, 1) := by decide +kernel
theorem d_X12_more_1 : decode (qMc M_X12_more) 1 = .ok (.iconst 0, 1) := by decide +kernel
theorem d_X12_more_2 : decode (qMc M_X12_more) 2 = .ok (.putfield 127, 3) := by decide +kernel
theorem d_X12_more_5 : decode (qMc M_X12_more) 5 = .ok (.iload_n 1, 1) := by decide +kernel
theorem d_X12_more_6 : decode (qMc M_X12_more) 6 = .ok (.iconst 1, 1) := by decide +kernel
theorem d_X12_more_7 : decode (qMc M_X12_more) 7 = .ok (.bipush 8, 2) := by decide +kernel
theorem d_X12_more_9 : decode (qMc M_X12_more) 9 = .ok (.invokestatic 137, 3) := by decide +kernel
theorem d_X12_more_12 : decode (qMc M_X12_more) 12 = .ok (.ifCond .eq 12, 3) := by decide +kernel
theorem d_X12_more_15 : decode (qMc M_X12_more) 15 = .ok (.iload_n 2, 1) := by decide +kernel
theorem d_X12_more_16 : decode (qMc M_X12_more) 16 = .ok (.iconst 0, 1) := by decide +kernel
theorem d_X12_more_17 : decode (qMc M_X12_more) 17 = .ok (.iconst 1, 1) := by decide +kernel
theorem d_X12_more_18 : decode (qMc M_X12_more) 18 = .ok (.invokestatic 137, 3) := by decide +kernel
theorem d_X12_more_21 : decode (qMc M_X12_more) 21 = .ok (.ifCond .ne 5, 3) := by decide +kernel
theorem d_X12_more_24 : decode (qMc M_X12_more) 24 = .ok (.iconst (-1), 1) := by decide +kernel
theorem d_X12_more_25 : decode (qMc M_X12_more) 25 = .ok (.ireturn, 1) := by decide +kernel
theorem d_X12_more_26 : decode (qMc M_X12_more) 26 = .ok (.iconst 0, 1) := by decide +kernel
theorem d_X12_more_27 : decode (qMc M_X12_more) 27 = .ok (.istore_n 3, 1) := by decide +kernel
theorem d_X12_more_28 : decode (qMc M_X12_more) 28 = .ok (.iconst (-1), 1) := by decide +kernel
theorem d_X12_more_29 : decode (qMc M_X12_more) 29 = .ok (.istore 4, 2) := by decide +kernel
theorem d_X12_more_31 : decode (qMc M_X12_more) 31 = .ok (.aload_n 0, 1) := by decide +kernel
theorem d_X12_more_32 : decode (qMc M_X12_more) 32 = .ok (.invokevirtual 275, 3) := by decide +kernel
theorem d_X12_more_35 : decode (qMc M_X12_more) 35 = .ok (.iconst 0, 1) := by decide +kernel
theorem d_X12_more_36 : decode (qMc M_X12_more) 36 = .ok (.istore 5, 2) := by decide +kernel
theorem d_X12_more_38 : decode (qMc M_X12_more) 38 = .ok (.iload 5, 2) := by decide +kernel
theorem d_X12_more_40 : decode (qMc M_X12_more) 40 = .ok (.sipush 4536, 3) := by decide +kernel
theorem d_X12_more_43 : decode (qMc M_X12_more) 43 = .ok (.if_icmp .ge 131, 3) := by decide +kernel
theorem d_X12_more_46 : decode (qMc M_X12_more) 46 = .ok (.iload 5, 2) := by decide +kernel
theorem d_X12_more_48 : decode (qMc M_X12_more) 48 = .ok (.bipush 8, 2) := by decide +kernel
theorem d_X12_more_50 : decode (qMc M_X12_more) 50 = .ok (.idiv, 1) := by decide +kernel
theorem d_X12_more_51 : decode (qMc M_X12_more) 51 = .ok (.istore 6, 2) := by decide +kernel
theorem d_X12_more_53 : decode (qMc M_X12_more) 53 = .ok (.iload 5, 2) := by decide +kernel
theorem d_X12_more_55 : decode (qMc M_X12_more) 55 = .ok (.bipush 8, 2) := by decide +kernel
theorem d_X12_more_57 : decode (qMc M_X12_more) 57 = .ok (.irem, 1) := by decide +kernel
theorem d_X12_more_58 : decode (qMc M_X12_more) 58 = .ok (.istore 7, 2) := by decide +kernel
theorem d_X12_more_60 : decode (qMc M_X12_more) 60 = .ok (.aload_n 0, 1) := by decide +kernel
theorem d_X12_more_61 : decode (qMc M_X12_more) 61 = .ok (.getfield 86, 3) := by decide +kernel
theorem d_X12_more_64 : decode (qMc M_X12_more) 64 = .ok (.iload 6, 2) := by decide +kernel
theorem d_X12_more_66 : decode (qMc M_X12_more) 66 = .ok (.iaload, 1) := by decide +kernel
theorem d_X12_more_67 : decode (qMc M_X12_more) 67 = .ok (.istore 8, 2) := by decide +kernel
theorem d_X12_more_69 : decode (qMc M_X12_more) 69 = .ok (.iload 7, 2) := by decide +kernel
theorem d_X12_more_71 : decode (qMc M_X12_more) 71 = .ok (.iload 8, 2) := by decide +kernel
theorem d_X12_more_73 : decode (qMc M_X12_more) 73 = .ok (.if_icmp .ne 6, 3) := by decide +kernel
theorem d_X12_more_76 : decode (qMc M_X12_more) 76 = .ok (.goto 92, 3) := by decide +kernel
theorem d_X12_more_79 : decode (qMc M_X12_more) 79 = .ok (.aload_n 0, 1) := by decide +kernel
theorem d_X12_more_80 : decode (qMc M_X12_more) 80 = .ok (.getfield 86, 3) := by decide +kernel
theorem d_X12_more_83 : decode (qMc M_X12_more) 83 = .ok (.iload 6, 2) := by decide +kernel
theorem d_X12_more_85 : decode (qMc M_X12_more) 85 = .ok (.iload 7, 2) := by decide +kernel
theorem d_X12_more_87 : decode (qMc M_X12_more) 87 = .ok (.iastore, 1) := by decide +kernel
theorem d_X12_more_88 : decode (qMc M_X12_more) 88 = .ok (.aload_n 0, 1) := by decide +kernel
theorem d_X12_more_89 : decode (qMc M_X12_more) 89 = .ok (.iload_n 1, 1) := by decide +kernel
theorem d_X12_more_90 : decode (qMc M_X12_more) 90 = .ok (.invokevirtual 354, 3) := by decide +kernel
theorem d_X12_more_93 : decode (qMc M_X12_more) 93 = .ok (.iconst (-1), 1) := by decide +kernel
theorem d_X12_more_94 : decode (qMc M_X12_more) 94 = .ok (.if_icmp .ne 7, 3) := by decide +kernel
theorem d_X12_more_97 : decode (qMc M_X12_more) 97 = .ok (.iconst 1, 1) := by decide +kernel
theorem d_X12_more_98 : decode (qMc M_X12_more) 98 = .ok (.goto 4, 3) := by decide +kernel
theorem d_X12_more_101 : decode (qMc M_X12_more) 101 = .ok (.iconst 0, 1) := by decide +kernel
theorem d_X12_more_102 : decode (qMc M_X12_more) 102 = .ok (.istore 9, 2) := by decide +kernel
theorem d_X12_more_104 : decode (qMc M_X12_more) 104 = .ok (.aload_n 0, 1) := by decide +kernel
theorem d_X12_more_105 : decode (qMc M_X12_more) 105 = .ok (.getfield 86, 3) := by decide +kernel
theorem d_X12_more_108 : decode (qMc M_X12_more) 108 = .ok (.iload 6, 2) := by decide +kernel
theorem d_X12_more_110 : decode (qMc M_X12_more) 110 = .ok (.iload 8, 2) := by decide +kernel
theorem d_X12_more_112 : decode (qMc M_X12_more) 112 = .ok (.iastore, 1) := by decide +kernel
theorem d_X12_more_113 : decode (qMc M_X12_more) 113 = .ok (.iload 9, 2) := by decide +kernel
theorem d_X12_more_115 : decode (qMc M_X12_more) 115 = .ok (.ifCond .ne 6, 3) := by decide +kernel
theorem d_X12_more_118 : decode (qMc M_X12_more) 118 = .ok (.goto 50, 3) := by decide +kernel
theorem d_X12_more_121 : decode (qMc M_X12_more) 121 = .ok (.iload_n 3, 1) := by decide +kernel
theorem d_X12_more_122 : decode (qMc M_X12_more) 122 = .ok (.ifCond .ne 39, 3) := by decide +kernel
theorem d_X12_more_125 : decode (qMc M_X12_more) 125 = .ok (.sipush 1000, 3) := by decide +kernel
theorem d_X12_more_128 : decode (qMc M_X12_more) 128 = .ok (.iload 6, 2) := by decide +kernel
theorem d_X12_more_130 : decode (qMc M_X12_more) 130 = .ok (.bipush 81, 2) := by decide +kernel
theorem d_X12_more_132 : decode (qMc M_X12_more) 132 = .ok (.idiv, 1) := by decide +kernel
theorem d_X12_more_133 : decode (qMc M_X12_more) 133 = .ok (.imul, 1) := by decide +kernel
theorem d_X12_more_134 : decode (qMc M_X12_more) 134 = .ok (.bipush 100, 2) := by decide +kernel
theorem d_X12_more_136 : decode (qMc M_X12_more) 136 = .ok (.iload 6, 2) := by decide +kernel
theorem d_X12_more_138 : decode (qMc M_X12_more) 138 = .ok (.bipush 9, 2) := by decide +kernel
theorem d_X12_more_140 : decode (qMc M_X12_more) 140 = .ok (.idiv, 1) := by decide +kernel
theorem d_X12_more_141 : decode (qMc M_X12_more) 141 = .ok (.bipush 9, 2) := by decide +kernel
theorem d_X12_more_143 : decode (qMc M_X12_more) 143 = .ok (.irem, 1) := by decide +kernel
theorem d_X12_more_144 : decode (qMc M_X12_more) 144 = .ok (.imul, 1) := by decide +kernel
theorem d_X12_more_145 : decode (qMc M_X12_more) 145 = .ok (.iadd, 1) := by decide +kernel
theorem d_X12_more_146 : decode (qMc M_X12_more) 146 = .ok (.bipush 10, 2) := by decide +kernel
theorem d_X12_more_148 : decode (qMc M_X12_more) 148 = .ok (.iload 6, 2) := by decide +kernel
theorem d_X12_more_150 : decode (qMc M_X12_more) 150 = .ok (.bipush 9, 2) := by decide +kernel
theorem d_X12_more_152 : decode (qMc M_X12_more) 152 = .ok (.irem, 1) := by decide +kernel
theorem d_X12_more_153 : decode (qMc M_X12_more) 153 = .ok (.imul, 1) := by decide +kernel
theorem d_X12_more_154 : decode (qMc M_X12_more) 154 = .ok (.iadd, 1) := by decide +kernel
theorem d_X12_more_155 : decode (qMc M_X12_more) 155 = .ok (.iload 7, 2) := by decide +kernel
theorem d_X12_more_157 : decode (qMc M_X12_more) 157 = .ok (.iadd, 1) := by decide +kernel
theorem d_X12_more_158 : decode (qMc M_X12_more) 158 = .ok (.goto 5, 3) := by decide +kernel
theorem d_X12_more_161 : decode (qMc M_X12_more) 161 = .ok (.iload 4, 2) := by decide +kernel
theorem d_X12_more_163 : decode (qMc M_X12_more) 163 = .ok (.istore 4, 2) := by decide +kernel
theorem d_X12_more_165 : decode (qMc M_X12_more) 165 = .ok (.iinc 3 1, 3) := by decide +kernel
theorem d_X12_more_168 : decode (qMc M_X12_more) 168 = .ok (.iinc 5 1, 3) := by decide +kernel
theorem d_X12_more_171 : decode (qMc M_X12_more) 171 = .ok (.goto (-133), 3) := by decide +kernel
theorem d_X12_more_174 : decode (qMc M_X12_more) 174 = .ok (.iload_n 2, 1) := by decide +kernel
theorem d_X12_more_175 : decode (qMc M_X12_more) 175 = .ok (.ifCond .ne 7, 3) := by decide +kernel
theorem d_X12_more_178 : decode (qMc M_X12_more) 178 = .ok (.iload_n 3, 1) := by decide +kernel
theorem d_X12_more_179 : decode (qMc M_X12_more) 179 = .ok (.goto 5, 3) := by decide +kernel
theorem d_X12_more_182 : decode (qMc M_X12_more) 182 = .ok (.iload 4, 2) := by decide +kernel
theorem d_X12_more_184 : decode (qMc M_X12_more) 184 = .ok (.ireturn, 1) := by decide +kernel
theorem d_X12_isTwo_0 : decode (qMc M_X12_isTwo) 0 = .ok (.aload_n 0, 1) := by decide +kernel
theorem d_X12_isTwo_1 : decode (qMc M_X12_isTwo) 1 = .ok (.getfield 95, 3) := by decide +kernel
theorem d_X12_isTwo_4 : decode (qMc M_X12_isTwo) 4 = .ok (.iload_n 1, 1) := by decide +kernel
theorem d_X12_isTwo_5 : decode (qMc M_X12_isTwo) 5 = .ok (.iconst 0, 1) := by decide +kernel
theorem d_X12_isTwo_6 : decode (qMc M_X12_isTwo) 6 = .ok (.invokestatic 329, 3) := by decide +kernel
theorem d_X12_isTwo_9 : decode (qMc M_X12_isTwo) 9 = .ok (.iconst 0, 1) := by decide +kernel
theorem d_X12_isTwo_10 : decode (qMc M_X12_isTwo) 10 = .ok (.istore_n 3, 1) := by decide +kernel
theorem d_X12_isTwo_11 : decode (qMc M_X12_isTwo) 11 = .ok (.iload_n 3, 1) := by decide +kernel
theorem d_X12_isTwo_12 : decode (qMc M_X12_isTwo) 12 = .ok (.iload_n 1, 1) := by decide +kernel
theorem d_X12_isTwo_13 : decode (qMc M_X12_isTwo) 13 = .ok (.invokestatic 333, 3) := by decide +kernel
theorem d_X12_isTwo_16 : decode (qMc M_X12_isTwo) 16 = .ok (.if_icmp .ge 67, 3) := by decide +kernel
theorem d_X12_isTwo_19 : decode (qMc M_X12_isTwo) 19 = .ok (.iload_n 3, 1) := by decide +kernel
theorem d_X12_isTwo_20 : decode (qMc M_X12_isTwo) 20 = .ok (.iload_n 2, 1) := by decide +kernel
theorem d_X12_isTwo_21 : decode (qMc M_X12_isTwo) 21 = .ok (.if_icmp .ne 12, 3) := by decide +kernel
theorem d_X12_isTwo_24 : decode (qMc M_X12_isTwo) 24 = .ok (.aload_n 0, 1) := by decide +kernel
theorem d_X12_isTwo_25 : decode (qMc M_X12_isTwo) 25 = .ok (.getfield 95, 3) := by decide +kernel
theorem d_X12_isTwo_28 : decode (qMc M_X12_isTwo) 28 = .ok (.iload_n 1, 1) := by decide +kernel
theorem d_X12_isTwo_29 : decode (qMc M_X12_isTwo) 29 = .ok (.iconst 1, 1) := by decide +kernel
theorem d_X12_isTwo_30 : decode (qMc M_X12_isTwo) 30 = .ok (.isub, 1) := by decide +kernel
theorem d_X12_isTwo_31 : decode (qMc M_X12_isTwo) 31 = .ok (.iconst 1, 1) := by decide +kernel
theorem d_X12_isTwo_32 : decode (qMc M_X12_isTwo) 32 = .ok (.iastore, 1) := by decide +kernel
theorem d_X12_isTwo_33 : decode (qMc M_X12_isTwo) 33 = .ok (.aload_n 0, 1) := by decide +kernel
theorem d_X12_isTwo_34 : decode (qMc M_X12_isTwo) 34 = .ok (.aload_n 0, 1) := by decide +kernel
theorem d_X12_isTwo_35 : decode (qMc M_X12_isTwo) 35 = .ok (.getfield 95, 3) := by decide +kernel
theorem d_X12_isTwo_38 : decode (qMc M_X12_isTwo) 38 = .ok (.iload_n 1, 1) := by decide +kernel
theorem d_X12_isTwo_39 : decode (qMc M_X12_isTwo) 39 = .ok (.iconst 0, 1) := by decide +kernel
theorem d_X12_isTwo_40 : decode (qMc M_X12_isTwo) 40 = .ok (.iconst (-1), 1) := by decide +kernel
theorem d_X12_isTwo_41 : decode (qMc M_X12_isTwo) 41 = .ok (.aload_n 0, 1) := by decide +kernel
theorem d_X12_isTwo_42 : decode (qMc M_X12_isTwo) 42 = .ok (.getfield 86, 3) := by decide +kernel
theorem d_X12_isTwo_45 : decode (qMc M_X12_isTwo) 45 = .ok (.invokevirtual 336, 3) := by decide +kernel
theorem d_X12_isTwo_48 : decode (qMc M_X12_isTwo) 48 = .ok (.aload_n 0, 1) := by decide +kernel
theorem d_X12_isTwo_49 : decode (qMc M_X12_isTwo) 49 = .ok (.getfield 95, 3) := by decide +kernel
theorem d_X12_isTwo_52 : decode (qMc M_X12_isTwo) 52 = .ok (.iload_n 1, 1) := by decide +kernel
theorem d_X12_isTwo_53 : decode (qMc M_X12_isTwo) 53 = .ok (.invokestatic 302, 3) := by decide +kernel
theorem d_X12_isTwo_56 : decode (qMc M_X12_isTwo) 56 = .ok (.ifCond .le 21, 3) := by decide +kernel
theorem d_X12_isTwo_59 : decode (qMc M_X12_isTwo) 59 = .ok (.aload_n 0, 1) := by decide +kernel
theorem d_X12_isTwo_60 : decode (qMc M_X12_isTwo) 60 = .ok (.getfield 95, 3) := by decide +kernel
theorem d_X12_isTwo_63 : decode (qMc M_X12_isTwo) 63 = .ok (.iload_n 1, 1) := by decide +kernel
theorem d_X12_isTwo_64 : decode (qMc M_X12_isTwo) 64 = .ok (.invokestatic 302, 3) := by decide +kernel
theorem d_X12_isTwo_67 : decode (qMc M_X12_isTwo) 67 = .ok (.iload_n 1, 1) := by decide +kernel
theorem d_X12_isTwo_68 : decode (qMc M_X12_isTwo) 68 = .ok (.if_icmp .ne 7, 3) := by decide +kernel
theorem d_X12_isTwo_71 : decode (qMc M_X12_isTwo) 71 = .ok (.iconst 1, 1) := by decide +kernel
theorem d_X12_isTwo_72 : decode (qMc M_X12_isTwo) 72 = .ok (.goto 4, 3) := by decide +kernel
theorem d_X12_isTwo_75 : decode (qMc M_X12_isTwo) 75 = .ok (.iconst 0, 1) := by decide +kernel
theorem d_X12_isTwo_76 : decode (qMc M_X12_isTwo) 76 = .ok (.ireturn, 1) := by decide +kernel
theorem d_X12_isTwo_77 : decode (qMc M_X12_isTwo) 77 = .ok (.iinc 3 1, 3) := by decide +kernel
theorem d_X12_isTwo_80 : decode (qMc M_X12_isTwo) 80 = .ok (.goto (-69), 3) := by decide +kernel
theorem d_X12_isTwo_83 : decode (qMc M_X12_isTwo) 83 = .ok (.iconst 0, 1) := by decide +kernel
theorem d_X12_isTwo_84 : decode (qMc M_X12_isTwo) 84 = .ok (.ireturn, 1) := by decide +kernel
theorem d_X12_two_0 : decode (qMc M_X12_two) 0 = .ok (.aload_n 0, 1) := by decide +kernel
theorem d_X12_two_1 : decode (qMc M_X12_two) 1 = .ok (.iconst 0, 1) := by decide +kernel
theorem d_X12_two_2 : decode (qMc M_X12_two) 2 = .ok (.putfield 127, 3) := by decide +kernel
theorem d_X12_two_5 : decode (qMc M_X12_two) 5 = .ok (.iload_n 1, 1) := by decide +kernel
theorem d_X12_two_6 : decode (qMc M_X12_two) 6 = .ok (.iconst 2, 1) := by decide +kernel
theorem d_X12_two_7 : decode (qMc M_X12_two) 7 = .ok (.bipush 24, 2) := by decide +kernel
theorem d_X12_two_9 : decode (qMc M_X12_two) 9 = .ok (.invokestatic 137, 3) := by decide +kernel
theorem d_X12_two_12 : decode (qMc M_X12_two) 12 = .ok (.ifCond .eq 13, 3) := by decide +kernel
theorem d_X12_two_15 : decode (qMc M_X12_two) 15 = .ok (.iload_n 2, 1) := by decide +kernel
theorem d_X12_two_16 : decode (qMc M_X12_two) 16 = .ok (.iconst 0, 1) := by decide +kernel
theorem d_X12_two_17 : decode (qMc M_X12_two) 17 = .ok (.bipush 40, 2) := by decide +kernel
theorem d_X12_two_19 : decode (qMc M_X12_two) 19 = .ok (.invokestatic 137, 3) := by decide +kernel
theorem d_X12_two_22 : decode (qMc M_X12_two) 22 = .ok (.ifCond .ne 5, 3) := by decide +kernel
theorem d_X12_two_25 : decode (qMc M_X12_two) 25 = .ok (.iconst (-1), 1) := by decide +kernel
theorem d_X12_two_26 : decode (qMc M_X12_two) 26 = .ok (.ireturn, 1) := by decide +kernel
theorem d_X12_two_27 : decode (qMc M_X12_two) 27 = .ok (.aload_n 0, 1) := by decide +kernel
theorem d_X12_two_28 : decode (qMc M_X12_two) 28 = .ok (.invokevirtual 275, 3) := by decide +kernel
theorem d_X12_two_31 : decode (qMc M_X12_two) 31 = .ok (.iconst 2, 1) := by decide +kernel
theorem d_X12_two_32 : decode (qMc M_X12_two) 32 = .ok (.istore_n 3, 1) := by decide +kernel
theorem d_X12_two_33 : decode (qMc M_X12_two) 33 = .ok (.iload_n 3, 1) := by decide +kernel
theorem d_X12_two_34 : decode (qMc M_X12_two) 34 = .ok (.iload_n 1, 1) := by decide +kernel
theorem d_X12_two_35 : decode (qMc M_X12_two) 35 = .ok (.if_icmp .gt 20, 3) := by decide +kernel
theorem d_X12_two_38 : decode (qMc M_X12_two) 38 = .ok (.aload_n 0, 1) := by decide +kernel
theorem d_X12_two_39 : decode (qMc M_X12_two) 39 = .ok (.iload_n 3, 1) := by decide +kernel
theorem d_X12_two_40 : decode (qMc M_X12_two) 40 = .ok (.iload_n 2, 1) := by decide +kernel
theorem d_X12_two_41 : decode (qMc M_X12_two) 41 = .ok (.invokevirtual 369, 3) := by decide +kernel
theorem d_X12_two_44 : decode (qMc M_X12_two) 44 = .ok (.ifCond .ne 5, 3) := by decide +kernel
theorem d_X12_two_47 : decode (qMc M_X12_two) 47 = .ok (.iload_n 3, 1) := by decide +kernel
theorem d_X12_two_48 : decode (qMc M_X12_two) 48 = .ok (.ireturn, 1) := by decide +kernel
theorem d_X12_two_49 : decode (qMc M_X12_two) 49 = .ok (.iinc 3 1, 3) := by decide +kernel
theorem d_X12_two_52 : decode (qMc M_X12_two) 52 = .ok (.goto (-19), 3) := by decide +kernel
theorem d_X12_two_55 : decode (qMc M_X12_two) 55 = .ok (.iconst (-1), 1) := by decide +kernel
theorem d_X12_two_56 : decode (qMc M_X12_two) 56 = .ok (.ireturn, 1) := by decide +kernel
theorem d_X12_deafened_0 : decode (qMc M_X12_deafened) 0 = .ok (.aload_n 0, 1) := by decide +kernel
theorem d_X12_deafened_1 : decode (qMc M_X12_deafened) 1 = .ok (.iconst 0, 1) := by decide +kernel
theorem d_X12_deafened_2 : decode (qMc M_X12_deafened) 2 = .ok (.putfield 127, 3) := by decide +kernel
theorem d_X12_deafened_5 : decode (qMc M_X12_deafened) 5 = .ok (.iload_n 1, 1) := by decide +kernel
theorem d_X12_deafened_6 : decode (qMc M_X12_deafened) 6 = .ok (.iload_n 2, 1) := by decide +kernel
theorem d_X12_deafened_7 : decode (qMc M_X12_deafened) 7 = .ok (.invokestatic 347, 3) := by decide +kernel
theorem d_X12_deafened_10 : decode (qMc M_X12_deafened) 10 = .ok (.ifCond .eq 12, 3) := by decide +kernel
theorem d_X12_deafened_13 : decode (qMc M_X12_deafened) 13 = .ok (.iload_n 3, 1) := by decide +kernel
theorem d_X12_deafened_14 : decode (qMc M_X12_deafened) 14 = .ok (.iconst 0, 1) := by decide +kernel
theorem d_X12_deafened_15 : decode (qMc M_X12_deafened) 15 = .ok (.iconst 1, 1) := by decide +kernel
theorem d_X12_deafened_16 : decode (qMc M_X12_deafened) 16 = .ok (.invokestatic 137, 3) := by decide +kernel
theorem d_X12_deafened_19 : decode (qMc M_X12_deafened) 19 = .ok (.ifCond .ne 5, 3) := by decide +kernel
theorem d_X12_deafened_22 : decode (qMc M_X12_deafened) 22 = .ok (.iconst (-1), 1) := by decide +kernel
theorem d_X12_deafened_23 : decode (qMc M_X12_deafened) 23 = .ok (.ireturn, 1) := by decide +kernel
theorem d_X12_deafened_24 : decode (qMc M_X12_deafened) 24 = .ok (.aload_n 0, 1) := by decide +kernel
theorem d_X12_deafened_25 : decode (qMc M_X12_deafened) 25 = .ok (.invokevirtual 275, 3) := by decide +kernel
theorem d_X12_deafened_28 : decode (qMc M_X12_deafened) 28 = .ok (.aload_n 0, 1) := by decide +kernel
theorem d_X12_deafened_29 : decode (qMc M_X12_deafened) 29 = .ok (.getfield 95, 3) := by decide +kernel
theorem d_X12_deafened_32 : decode (qMc M_X12_deafened) 32 = .ok (.iload_n 1, 1) := by decide +kernel
theorem d_X12_deafened_33 : decode (qMc M_X12_deafened) 33 = .ok (.iconst 0, 1) := by decide +kernel
theorem d_X12_deafened_34 : decode (qMc M_X12_deafened) 34 = .ok (.invokestatic 329, 3) := by decide +kernel
theorem d_X12_deafened_37 : decode (qMc M_X12_deafened) 37 = .ok (.iconst 0, 1) := by decide +kernel
theorem d_X12_deafened_38 : decode (qMc M_X12_deafened) 38 = .ok (.istore 4, 2) := by decide +kernel
theorem d_X12_deafened_40 : decode (qMc M_X12_deafened) 40 = .ok (.iconst (-1), 1) := by decide +kernel
theorem d_X12_deafened_41 : decode (qMc M_X12_deafened) 41 = .ok (.istore 5, 2) := by decide +kernel
theorem d_X12_deafened_43 : decode (qMc M_X12_deafened) 43 = .ok (.iconst 0, 1) := by decide +kernel
theorem d_X12_deafened_44 : decode (qMc M_X12_deafened) 44 = .ok (.istore 6, 2) := by decide +kernel
theorem d_X12_deafened_46 : decode (qMc M_X12_deafened) 46 = .ok (.iload 6, 2) := by decide +kernel
theorem d_X12_deafened_48 : decode (qMc M_X12_deafened) 48 = .ok (.iload_n 1, 1) := by decide +kernel
theorem d_X12_deafened_49 : decode (qMc M_X12_deafened) 49 = .ok (.invokestatic 333, 3) := by decide +kernel
theorem d_X12_deafened_52 : decode (qMc M_X12_deafened) 52 = .ok (.if_icmp .ge 74, 3) := by decide +kernel
theorem d_X12_deafened_55 : decode (qMc M_X12_deafened) 55 = .ok (.aload_n 0, 1) := by decide +kernel
theorem d_X12_deafened_56 : decode (qMc M_X12_deafened) 56 = .ok (.getfield 95, 3) := by decide +kernel
theorem d_X12_deafened_59 : decode (qMc M_X12_deafened) 59 = .ok (.iload_n 1, 1) := by decide +kernel
theorem d_X12_deafened_60 : decode (qMc M_X12_deafened) 60 = .ok (.invokestatic 302, 3) := by decide +kernel
theorem d_X12_deafened_63 : decode (qMc M_X12_deafened) 63 = .ok (.istore 7, 2) := by decide +kernel
theorem d_X12_deafened_65 : decode (qMc M_X12_deafened) 65 = .ok (.aload_n 0, 1) := by decide +kernel
theorem d_X12_deafened_66 : decode (qMc M_X12_deafened) 66 = .ok (.aload_n 0, 1) := by decide +kernel
theorem d_X12_deafened_67 : decode (qMc M_X12_deafened) 67 = .ok (.getfield 95, 3) := by decide +kernel
theorem d_X12_deafened_70 : decode (qMc M_X12_deafened) 70 = .ok (.iload_n 1, 1) := by decide +kernel
theorem d_X12_deafened_71 : decode (qMc M_X12_deafened) 71 = .ok (.iconst 0, 1) := by decide +kernel
theorem d_X12_deafened_72 : decode (qMc M_X12_deafened) 72 = .ok (.iload_n 2, 1) := by decide +kernel
theorem d_X12_deafened_73 : decode (qMc M_X12_deafened) 73 = .ok (.aload_n 0, 1) := by decide +kernel
theorem d_X12_deafened_74 : decode (qMc M_X12_deafened) 74 = .ok (.getfield 86, 3) := by decide +kernel
theorem d_X12_deafened_77 : decode (qMc M_X12_deafened) 77 = .ok (.invokevirtual 336, 3) := by decide +kernel
theorem d_X12_deafened_80 : decode (qMc M_X12_deafened) 80 = .ok (.aload_n 0, 1) := by decide +kernel
theorem d_X12_deafened_81 : decode (qMc M_X12_deafened) 81 = .ok (.getfield 95, 3) := by decide +kernel
theorem d_X12_deafened_84 : decode (qMc M_X12_deafened) 84 = .ok (.iload_n 1, 1) := by decide +kernel
theorem d_X12_deafened_85 : decode (qMc M_X12_deafened) 85 = .ok (.invokestatic 302, 3) := by decide +kernel
theorem d_X12_deafened_88 : decode (qMc M_X12_deafened) 88 = .ok (.iload 7, 2) := by decide +kernel
theorem d_X12_deafened_90 : decode (qMc M_X12_deafened) 90 = .ok (.isub, 1) := by decide +kernel
theorem d_X12_deafened_91 : decode (qMc M_X12_deafened) 91 = .ok (.istore 7, 2) := by decide +kernel
theorem d_X12_deafened_93 : decode (qMc M_X12_deafened) 93 = .ok (.iload 7, 2) := by decide +kernel
theorem d_X12_deafened_95 : decode (qMc M_X12_deafened) 95 = .ok (.iload 4, 2) := by decide +kernel
theorem d_X12_deafened_97 : decode (qMc M_X12_deafened) 97 = .ok (.if_icmp .le 10, 3) := by decide +kernel
theorem d_X12_deafened_100 : decode (qMc M_X12_deafened) 100 = .ok (.iload 6, 2) := by decide +kernel
theorem d_X12_deafened_102 : decode (qMc M_X12_deafened) 102 = .ok (.iconst 1, 1) := by decide +kernel
theorem d_X12_deafened_103 : decode (qMc M_X12_deafened) 103 = .ok (.iadd, 1) := by decide +kernel
theorem d_X12_deafened_104 : decode (qMc M_X12_deafened) 104 = .ok (.goto 5, 3) := by decide +kernel
theorem d_X12_deafened_107 : decode (qMc M_X12_deafened) 107 = .ok (.iload 5, 2) := by decide +kernel
theorem d_X12_deafened_109 : decode (qMc M_X12_deafened) 109 = .ok (.istore 5, 2) := by decide +kernel
theorem d_X12_deafened_111 : decode (qMc M_X12_deafened) 111 = .ok (.iload 7, 2) := by decide +kernel
theorem d_X12_deafened_113 : decode (qMc M_X12_deafened) 113 = .ok (.iload 4, 2) := by decide +kernel
theorem d_X12_deafened_115 : decode (qMc M_X12_deafened) 115 = .ok (.invokestatic 372, 3) := by decide +kernel
theorem d_X12_deafened_118 : decode (qMc M_X12_deafened) 118 = .ok (.istore 4, 2) := by decide +kernel
theorem d_X12_deafened_120 : decode (qMc M_X12_deafened) 120 = .ok (.iinc 6 1, 3) := by decide +kernel
theorem d_X12_deafened_123 : decode (qMc M_X12_deafened) 123 = .ok (.goto (-77), 3) := by decide +kernel
theorem d_X12_deafened_126 : decode (qMc M_X12_deafened) 126 = .ok (.iload_n 3, 1) := by decide +kernel
theorem d_X12_deafened_127 : decode (qMc M_X12_deafened) 127 = .ok (.ifCond .ne 8, 3) := by decide +kernel
theorem d_X12_deafened_130 : decode (qMc M_X12_deafened) 130 = .ok (.iload 4, 2) := by decide +kernel
theorem d_X12_deafened_132 : decode (qMc M_X12_deafened) 132 = .ok (.goto 5, 3) := by decide +kernel
theorem d_X12_deafened_135 : decode (qMc M_X12_deafened) 135 = .ok (.iload 5, 2) := by decide +kernel
theorem d_X12_deafened_137 : decode (qMc M_X12_deafened) 137 = .ok (.ireturn, 1) := by decide +kernel
theorem d_X12_changed_0 : decode (qMc M_X12_changed) 0 = .ok (.iconst 0, 1) := by decide +kernel
theorem d_X12_changed_1 : decode (qMc M_X12_changed) 1 = .ok (.istore_n 2, 1) := by decide +kernel
theorem d_X12_changed_2 : decode (qMc M_X12_changed) 2 = .ok (.iconst 0, 1) := by decide +kernel
theorem d_X12_changed_3 : decode (qMc M_X12_changed) 3 = .ok (.istore_n 3, 1) := by decide +kernel
theorem d_X12_changed_4 : decode (qMc M_X12_changed) 4 = .ok (.iload_n 3, 1) := by decide +kernel
theorem d_X12_changed_5 : decode (qMc M_X12_changed) 5 = .ok (.iload_n 1, 1) := by decide +kernel
theorem d_X12_changed_6 : decode (qMc M_X12_changed) 6 = .ok (.if_icmp .ge 32, 3) := by decide +kernel
theorem d_X12_changed_9 : decode (qMc M_X12_changed) 9 = .ok (.iload_n 2, 1) := by decide +kernel
theorem d_X12_changed_10 : decode (qMc M_X12_changed) 10 = .ok (.aload_n 0, 1) := by decide +kernel
theorem d_X12_changed_11 : decode (qMc M_X12_changed) 11 = .ok (.getfield 95, 3) := by decide +kernel
theorem d_X12_changed_14 : decode (qMc M_X12_changed) 14 = .ok (.iload_n 3, 1) := by decide +kernel
theorem d_X12_changed_15 : decode (qMc M_X12_changed) 15 = .ok (.iaload, 1) := by decide +kernel
theorem d_X12_changed_16 : decode (qMc M_X12_changed) 16 = .ok (.aload_n 0, 1) := by decide +kernel
theorem d_X12_changed_17 : decode (qMc M_X12_changed) 17 = .ok (.getfield 101, 3) := by decide +kernel
theorem d_X12_changed_20 : decode (qMc M_X12_changed) 20 = .ok (.iload_n 3, 1) := by decide +kernel
theorem d_X12_changed_21 : decode (qMc M_X12_changed) 21 = .ok (.iaload, 1) := by decide +kernel
theorem d_X12_changed_22 : decode (qMc M_X12_changed) 22 = .ok (.if_icmp .ne 7, 3) := by decide +kernel
theorem d_X12_changed_25 : decode (qMc M_X12_changed) 25 = .ok (.iconst 0, 1) := by decide +kernel
theorem d_X12_changed_26 : decode (qMc M_X12_changed) 26 = .ok (.goto 4, 3) := by decide +kernel
theorem d_X12_changed_29 : decode (qMc M_X12_changed) 29 = .ok (.iconst 1, 1) := by decide +kernel
theorem d_X12_changed_30 : decode (qMc M_X12_changed) 30 = .ok (.iadd, 1) := by decide +kernel
theorem d_X12_changed_31 : decode (qMc M_X12_changed) 31 = .ok (.istore_n 2, 1) := by decide +kernel
theorem d_X12_changed_32 : decode (qMc M_X12_changed) 32 = .ok (.iinc 3 1, 3) := by decide +kernel
theorem d_X12_changed_35 : decode (qMc M_X12_changed) 35 = .ok (.goto (-31), 3) := by decide +kernel
theorem d_X12_changed_38 : decode (qMc M_X12_changed) 38 = .ok (.iload_n 2, 1) := by decide +kernel
theorem d_X12_changed_39 : decode (qMc M_X12_changed) 39 = .ok (.ireturn, 1) := by decide +kernel
theorem d_X12_stir_0 : decode (qMc M_X12_stir) 0 = .ok (.aload_n 0, 1) := by decide +kernel
theorem d_X12_stir_1 : decode (qMc M_X12_stir) 1 = .ok (.iconst 0, 1) := by decide +kernel
theorem d_X12_stir_2 : decode (qMc M_X12_stir) 2 = .ok (.putfield 127, 3) := by decide +kernel
theorem d_X12_stir_5 : decode (qMc M_X12_stir) 5 = .ok (.iload_n 1, 1) := by decide +kernel
theorem d_X12_stir_6 : decode (qMc M_X12_stir) 6 = .ok (.iload_n 2, 1) := by decide +kernel
theorem d_X12_stir_7 : decode (qMc M_X12_stir) 7 = .ok (.invokestatic 347, 3) := by decide +kernel
theorem d_X12_stir_10 : decode (qMc M_X12_stir) 10 = .ok (.ifCond .eq 12, 3) := by decide +kernel
theorem d_X12_stir_13 : decode (qMc M_X12_stir) 13 = .ok (.iload_n 3, 1) := by decide +kernel
theorem d_X12_stir_14 : decode (qMc M_X12_stir) 14 = .ok (.iconst 0, 1) := by decide +kernel
theorem d_X12_stir_15 : decode (qMc M_X12_stir) 15 = .ok (.iconst 2, 1) := by decide +kernel
theorem d_X12_stir_16 : decode (qMc M_X12_stir) 16 = .ok (.invokestatic 137, 3) := by decide +kernel
theorem d_X12_stir_19 : decode (qMc M_X12_stir) 19 = .ok (.ifCond .ne 5, 3) := by decide +kernel
theorem d_X12_stir_22 : decode (qMc M_X12_stir) 22 = .ok (.iconst (-1), 1) := by decide +kernel
theorem d_X12_stir_23 : decode (qMc M_X12_stir) 23 = .ok (.ireturn, 1) := by decide +kernel
theorem d_X12_stir_24 : decode (qMc M_X12_stir) 24 = .ok (.aload_n 0, 1) := by decide +kernel
theorem d_X12_stir_25 : decode (qMc M_X12_stir) 25 = .ok (.invokevirtual 275, 3) := by decide +kernel
theorem d_X12_stir_28 : decode (qMc M_X12_stir) 28 = .ok (.aload_n 0, 1) := by decide +kernel
theorem d_X12_stir_29 : decode (qMc M_X12_stir) 29 = .ok (.getfield 95, 3) := by decide +kernel
theorem d_X12_stir_32 : decode (qMc M_X12_stir) 32 = .ok (.iload_n 1, 1) := by decide +kernel
theorem d_X12_stir_33 : decode (qMc M_X12_stir) 33 = .ok (.iload_n 2, 1) := by decide +kernel
theorem d_X12_stir_34 : decode (qMc M_X12_stir) 34 = .ok (.invokestatic 329, 3) := by decide +kernel
theorem d_X12_stir_37 : decode (qMc M_X12_stir) 37 = .ok (.iconst 0, 1) := by decide +kernel
theorem d_X12_stir_38 : decode (qMc M_X12_stir) 38 = .ok (.istore 4, 2) := by decide +kernel
theorem d_X12_stir_40 : decode (qMc M_X12_stir) 40 = .ok (.iconst 0, 1) := by decide +kernel
theorem d_X12_stir_41 : decode (qMc M_X12_stir) 41 = .ok (.istore 5, 2) := by decide +kernel
theorem d_X12_stir_43 : decode (qMc M_X12_stir) 43 = .ok (.iconst (-1), 1) := by decide +kernel
theorem d_X12_stir_44 : decode (qMc M_X12_stir) 44 = .ok (.istore 6, 2) := by decide +kernel
theorem d_X12_stir_46 : decode (qMc M_X12_stir) 46 = .ok (.iconst 1, 1) := by decide +kernel
theorem d_X12_stir_47 : decode (qMc M_X12_stir) 47 = .ok (.istore 7, 2) := by decide +kernel
theorem d_X12_stir_49 : decode (qMc M_X12_stir) 49 = .ok (.iload 7, 2) := by decide +kernel
theorem d_X12_stir_51 : decode (qMc M_X12_stir) 51 = .ok (.iload_n 1, 1) := by decide +kernel
theorem d_X12_stir_52 : decode (qMc M_X12_stir) 52 = .ok (.invokestatic 333, 3) := by decide +kernel
theorem d_X12_stir_55 : decode (qMc M_X12_stir) 55 = .ok (.if_icmp .gt 111, 3) := by decide +kernel
theorem d_X12_stir_58 : decode (qMc M_X12_stir) 58 = .ok (.aload_n 0, 1) := by decide +kernel
theorem d_X12_stir_59 : decode (qMc M_X12_stir) 59 = .ok (.getfield 95, 3) := by decide +kernel
theorem d_X12_stir_62 : decode (qMc M_X12_stir) 62 = .ok (.iload_n 1, 1) := by decide +kernel
theorem d_X12_stir_63 : decode (qMc M_X12_stir) 63 = .ok (.invokestatic 302, 3) := by decide +kernel
theorem d_X12_stir_66 : decode (qMc M_X12_stir) 66 = .ok (.ifCond .ne 100, 3) := by decide +kernel
theorem d_X12_stir_69 : decode (qMc M_X12_stir) 69 = .ok (.iconst 0, 1) := by decide +kernel
theorem d_X12_stir_70 : decode (qMc M_X12_stir) 70 = .ok (.istore 8, 2) := by decide +kernel
theorem d_X12_stir_72 : decode (qMc M_X12_stir) 72 = .ok (.iload 8, 2) := by decide +kernel
theorem d_X12_stir_74 : decode (qMc M_X12_stir) 74 = .ok (.iload_n 1, 1) := by decide +kernel
theorem d_X12_stir_75 : decode (qMc M_X12_stir) 75 = .ok (.if_icmp .ge 23, 3) := by decide +kernel
theorem d_X12_stir_78 : decode (qMc M_X12_stir) 78 = .ok (.aload_n 0, 1) := by decide +kernel
theorem d_X12_stir_79 : decode (qMc M_X12_stir) 79 = .ok (.getfield 101, 3) := by decide +kernel
theorem d_X12_stir_82 : decode (qMc M_X12_stir) 82 = .ok (.iload 8, 2) := by decide +kernel
theorem d_X12_stir_84 : decode (qMc M_X12_stir) 84 = .ok (.aload_n 0, 1) := by decide +kernel
theorem d_X12_stir_85 : decode (qMc M_X12_stir) 85 = .ok (.getfield 95, 3) := by decide +kernel
theorem d_X12_stir_88 : decode (qMc M_X12_stir) 88 = .ok (.iload 8, 2) := by decide +kernel
theorem d_X12_stir_90 : decode (qMc M_X12_stir) 90 = .ok (.iaload, 1) := by decide +kernel
theorem d_X12_stir_91 : decode (qMc M_X12_stir) 91 = .ok (.iastore, 1) := by decide +kernel
theorem d_X12_stir_92 : decode (qMc M_X12_stir) 92 = .ok (.iinc 8 1, 3) := by decide +kernel
theorem d_X12_stir_95 : decode (qMc M_X12_stir) 95 = .ok (.goto (-23), 3) := by decide +kernel
theorem d_X12_stir_98 : decode (qMc M_X12_stir) 98 = .ok (.aload_n 0, 1) := by decide +kernel
theorem d_X12_stir_99 : decode (qMc M_X12_stir) 99 = .ok (.aload_n 0, 1) := by decide +kernel
theorem d_X12_stir_100 : decode (qMc M_X12_stir) 100 = .ok (.getfield 95, 3) := by decide +kernel
theorem d_X12_stir_103 : decode (qMc M_X12_stir) 103 = .ok (.iload_n 1, 1) := by decide +kernel
theorem d_X12_stir_104 : decode (qMc M_X12_stir) 104 = .ok (.iconst 0, 1) := by decide +kernel
theorem d_X12_stir_105 : decode (qMc M_X12_stir) 105 = .ok (.iconst (-1), 1) := by decide +kernel
theorem d_X12_stir_106 : decode (qMc M_X12_stir) 106 = .ok (.aload_n 0, 1) := by decide +kernel
theorem d_X12_stir_107 : decode (qMc M_X12_stir) 107 = .ok (.getfield 86, 3) := by decide +kernel
theorem d_X12_stir_110 : decode (qMc M_X12_stir) 110 = .ok (.invokevirtual 336, 3) := by decide +kernel
theorem d_X12_stir_113 : decode (qMc M_X12_stir) 113 = .ok (.aload_n 0, 1) := by decide +kernel
theorem d_X12_stir_114 : decode (qMc M_X12_stir) 114 = .ok (.iload_n 1, 1) := by decide +kernel
theorem d_X12_stir_115 : decode (qMc M_X12_stir) 115 = .ok (.invokevirtual 375, 3) := by decide +kernel
theorem d_X12_stir_118 : decode (qMc M_X12_stir) 118 = .ok (.istore 8, 2) := by decide +kernel
theorem d_X12_stir_120 : decode (qMc M_X12_stir) 120 = .ok (.iload 4, 2) := by decide +kernel
theorem d_X12_stir_122 : decode (qMc M_X12_stir) 122 = .ok (.iload 8, 2) := by decide +kernel
theorem d_X12_stir_124 : decode (qMc M_X12_stir) 124 = .ok (.ifCond .ne 7, 3) := by decide +kernel
theorem d_X12_stir_127 : decode (qMc M_X12_stir) 127 = .ok (.iconst 1, 1) := by decide +kernel
theorem d_X12_stir_128 : decode (qMc M_X12_stir) 128 = .ok (.goto 4, 3) := by decide +kernel
theorem d_X12_stir_131 : decode (qMc M_X12_stir) 131 = .ok (.iconst 0, 1) := by decide +kernel
theorem d_X12_stir_132 : decode (qMc M_X12_stir) 132 = .ok (.iadd, 1) := by decide +kernel
theorem d_X12_stir_133 : decode (qMc M_X12_stir) 133 = .ok (.istore 4, 2) := by decide +kernel
theorem d_X12_stir_135 : decode (qMc M_X12_stir) 135 = .ok (.iload 8, 2) := by decide +kernel
theorem d_X12_stir_137 : decode (qMc M_X12_stir) 137 = .ok (.iload 5, 2) := by decide +kernel
theorem d_X12_stir_139 : decode (qMc M_X12_stir) 139 = .ok (.if_icmp .le 8, 3) := by decide +kernel
theorem d_X12_stir_142 : decode (qMc M_X12_stir) 142 = .ok (.iload 7, 2) := by decide +kernel
theorem d_X12_stir_144 : decode (qMc M_X12_stir) 144 = .ok (.goto 5, 3) := by decide +kernel
theorem d_X12_stir_147 : decode (qMc M_X12_stir) 147 = .ok (.iload 6, 2) := by decide +kernel
theorem d_X12_stir_149 : decode (qMc M_X12_stir) 149 = .ok (.istore 6, 2) := by decide +kernel
theorem d_X12_stir_151 : decode (qMc M_X12_stir) 151 = .ok (.iload 8, 2) := by decide +kernel
theorem d_X12_stir_153 : decode (qMc M_X12_stir) 153 = .ok (.iload 5, 2) := by decide +kernel
theorem d_X12_stir_155 : decode (qMc M_X12_stir) 155 = .ok (.invokestatic 372, 3) := by decide +kernel
theorem d_X12_stir_158 : decode (qMc M_X12_stir) 158 = .ok (.istore 5, 2) := by decide +kernel
theorem d_X12_stir_160 : decode (qMc M_X12_stir) 160 = .ok (.iinc 7 1, 3) := by decide +kernel
theorem d_X12_stir_163 : decode (qMc M_X12_stir) 163 = .ok (.goto (-114), 3) := by decide +kernel
theorem d_X12_stir_166 : decode (qMc M_X12_stir) 166 = .ok (.iload_n 3, 1) := by decide +kernel
theorem d_X12_stir_167 : decode (qMc M_X12_stir) 167 = .ok (.ifCond .ne 8, 3) := by decide +kernel
theorem d_X12_stir_170 : decode (qMc M_X12_stir) 170 = .ok (.iload 4, 2) := by decide +kernel
theorem d_X12_stir_172 : decode (qMc M_X12_stir) 172 = .ok (.goto 15, 3) := by decide +kernel
theorem d_X12_stir_175 : decode (qMc M_X12_stir) 175 = .ok (.iload_n 3, 1) := by decide +kernel
theorem d_X12_stir_176 : decode (qMc M_X12_stir) 176 = .ok (.iconst 1, 1) := by decide +kernel
theorem d_X12_stir_177 : decode (qMc M_X12_stir) 177 = .ok (.if_icmp .ne 8, 3) := by decide +kernel
theorem d_X12_stir_180 : decode (qMc M_X12_stir) 180 = .ok (.iload 5, 2) := by decide +kernel
theorem d_X12_stir_182 : decode (qMc M_X12_stir) 182 = .ok (.goto 5, 3) := by decide +kernel
theorem d_X12_stir_185 : decode (qMc M_X12_stir) 185 = .ok (.iload 6, 2) := by decide +kernel
theorem d_X12_stir_187 : decode (qMc M_X12_stir) 187 = .ok (.ireturn, 1) := by decide +kernel
theorem d_X12_crowd_0 : decode (qMc M_X12_crowd) 0 = .ok (.aload_n 0, 1) := by decide +kernel
theorem d_X12_crowd_1 : decode (qMc M_X12_crowd) 1 = .ok (.iconst 0, 1) := by decide +kernel
theorem d_X12_crowd_2 : decode (qMc M_X12_crowd) 2 = .ok (.putfield 127, 3) := by decide +kernel
theorem d_X12_crowd_5 : decode (qMc M_X12_crowd) 5 = .ok (.iload_n 1, 1) := by decide +kernel
theorem d_X12_crowd_6 : decode (qMc M_X12_crowd) 6 = .ok (.iload_n 2, 1) := by decide +kernel
theorem d_X12_crowd_7 : decode (qMc M_X12_crowd) 7 = .ok (.invokestatic 347, 3) := by decide +kernel
theorem d_X12_crowd_10 : decode (qMc M_X12_crowd) 10 = .ok (.ifCond .eq 23, 3) := by decide +kernel
theorem d_X12_crowd_13 : decode (qMc M_X12_crowd) 13 = .ok (.iload_n 3, 1) := by decide +kernel
theorem d_X12_crowd_14 : decode (qMc M_X12_crowd) 14 = .ok (.iconst 0, 1) := by decide +kernel
theorem d_X12_crowd_15 : decode (qMc M_X12_crowd) 15 = .ok (.bipush 7, 2) := by decide +kernel
theorem d_X12_crowd_17 : decode (qMc M_X12_crowd) 17 = .ok (.invokestatic 137, 3) := by decide +kernel
theorem d_X12_crowd_20 : decode (qMc M_X12_crowd) 20 = .ok (.ifCond .eq 13, 3) := by decide +kernel
theorem d_X12_crowd_23 : decode (qMc M_X12_crowd) 23 = .ok (.iload 4, 2) := by decide +kernel
theorem d_X12_crowd_25 : decode (qMc M_X12_crowd) 25 = .ok (.iconst 0, 1) := by decide +kernel
theorem d_X12_crowd_26 : decode (qMc M_X12_crowd) 26 = .ok (.iconst 2, 1) := by decide +kernel
theorem d_X12_crowd_27 : decode (qMc M_X12_crowd) 27 = .ok (.invokestatic 137, 3) := by decide +kernel
theorem d_X12_crowd_30 : decode (qMc M_X12_crowd) 30 = .ok (.ifCond .ne 5, 3) := by decide +kernel
theorem d_X12_crowd_33 : decode (qMc M_X12_crowd) 33 = .ok (.iconst (-1), 1) := by decide +kernel
theorem d_X12_crowd_34 : decode (qMc M_X12_crowd) 34 = .ok (.ireturn, 1) := by decide +kernel
theorem d_X12_crowd_35 : decode (qMc M_X12_crowd) 35 = .ok (.aload_n 0, 1) := by decide +kernel
theorem d_X12_crowd_36 : decode (qMc M_X12_crowd) 36 = .ok (.invokevirtual 275, 3) := by decide +kernel
theorem d_X12_crowd_39 : decode (qMc M_X12_crowd) 39 = .ok (.aload_n 0, 1) := by decide +kernel
theorem d_X12_crowd_40 : decode (qMc M_X12_crowd) 40 = .ok (.getfield 95, 3) := by decide +kernel
theorem d_X12_crowd_43 : decode (qMc M_X12_crowd) 43 = .ok (.iload_n 1, 1) := by decide +kernel
theorem d_X12_crowd_44 : decode (qMc M_X12_crowd) 44 = .ok (.iload_n 2, 1) := by decide +kernel
theorem d_X12_crowd_45 : decode (qMc M_X12_crowd) 45 = .ok (.invokestatic 329, 3) := by decide +kernel
theorem d_X12_crowd_48 : decode (qMc M_X12_crowd) 48 = .ok (.iconst 0, 1) := by decide +kernel
theorem d_X12_crowd_49 : decode (qMc M_X12_crowd) 49 = .ok (.istore 5, 2) := by decide +kernel
theorem d_X12_crowd_51 : decode (qMc M_X12_crowd) 51 = .ok (.iload 5, 2) := by decide +kernel
theorem d_X12_crowd_53 : decode (qMc M_X12_crowd) 53 = .ok (.iload_n 1, 1) := by decide +kernel
theorem d_X12_crowd_54 : decode (qMc M_X12_crowd) 54 = .ok (.if_icmp .ge 17, 3) := by decide +kernel
theorem d_X12_crowd_57 : decode (qMc M_X12_crowd) 57 = .ok (.aload_n 0, 1) := by decide +kernel
theorem d_X12_crowd_58 : decode (qMc M_X12_crowd) 58 = .ok (.getfield 101, 3) := by decide +kernel
theorem d_X12_crowd_61 : decode (qMc M_X12_crowd) 61 = .ok (.iload 5, 2) := by decide +kernel
theorem d_X12_crowd_63 : decode (qMc M_X12_crowd) 63 = .ok (.iconst 0, 1) := by decide +kernel
theorem d_X12_crowd_64 : decode (qMc M_X12_crowd) 64 = .ok (.iastore, 1) := by decide +kernel
theorem d_X12_crowd_65 : decode (qMc M_X12_crowd) 65 = .ok (.iinc 5 1, 3) := by decide +kernel
theorem d_X12_crowd_68 : decode (qMc M_X12_crowd) 68 = .ok (.goto (-17), 3) := by decide +kernel
theorem d_X12_crowd_71 : decode (qMc M_X12_crowd) 71 = .ok (.iconst (-1), 1) := by decide +kernel
theorem d_X12_crowd_72 : decode (qMc M_X12_crowd) 72 = .ok (.istore 5, 2) := by decide +kernel
theorem d_X12_crowd_74 : decode (qMc M_X12_crowd) 74 = .ok (.iconst 0, 1) := by decide +kernel
theorem d_X12_crowd_75 : decode (qMc M_X12_crowd) 75 = .ok (.istore 6, 2) := by decide +kernel
theorem d_X12_crowd_77 : decode (qMc M_X12_crowd) 77 = .ok (.iconst 0, 1) := by decide +kernel
theorem d_X12_crowd_78 : decode (qMc M_X12_crowd) 78 = .ok (.istore 7, 2) := by decide +kernel
theorem d_X12_crowd_80 : decode (qMc M_X12_crowd) 80 = .ok (.iconst 0, 1) := by decide +kernel
theorem d_X12_crowd_81 : decode (qMc M_X12_crowd) 81 = .ok (.istore 8, 2) := by decide +kernel
theorem d_X12_crowd_83 : decode (qMc M_X12_crowd) 83 = .ok (.iload 8, 2) := by decide +kernel
theorem d_X12_crowd_85 : decode (qMc M_X12_crowd) 85 = .ok (.iload_n 1, 1) := by decide +kernel
theorem d_X12_crowd_86 : decode (qMc M_X12_crowd) 86 = .ok (.invokestatic 333, 3) := by decide +kernel
theorem d_X12_crowd_89 : decode (qMc M_X12_crowd) 89 = .ok (.if_icmp .gt 131, 3) := by decide +kernel
theorem d_X12_crowd_92 : decode (qMc M_X12_crowd) 92 = .ok (.iconst 0, 1) := by decide +kernel
theorem d_X12_crowd_93 : decode (qMc M_X12_crowd) 93 = .ok (.istore 9, 2) := by decide +kernel
theorem d_X12_crowd_95 : decode (qMc M_X12_crowd) 95 = .ok (.iconst 0, 1) := by decide +kernel
theorem d_X12_crowd_96 : decode (qMc M_X12_crowd) 96 = .ok (.istore 10, 2) := by decide +kernel
theorem d_X12_crowd_98 : decode (qMc M_X12_crowd) 98 = .ok (.iload 10, 2) := by decide +kernel
theorem d_X12_crowd_100 : decode (qMc M_X12_crowd) 100 = .ok (.iload_n 1, 1) := by decide +kernel
theorem d_X12_crowd_101 : decode (qMc M_X12_crowd) 101 = .ok (.if_icmp .ge 59, 3) := by decide +kernel
theorem d_X12_crowd_104 : decode (qMc M_X12_crowd) 104 = .ok (.iload 9, 2) := by decide +kernel
theorem d_X12_crowd_106 : decode (qMc M_X12_crowd) 106 = .ok (.aload_n 0, 1) := by decide +kernel
theorem d_X12_crowd_107 : decode (qMc M_X12_crowd) 107 = .ok (.getfield 95, 3) := by decide +kernel
theorem d_X12_crowd_110 : decode (qMc M_X12_crowd) 110 = .ok (.iload 10, 2) := by decide +kernel
theorem d_X12_crowd_112 : decode (qMc M_X12_crowd) 112 = .ok (.iaload, 1) := by decide +kernel
theorem d_X12_crowd_113 : decode (qMc M_X12_crowd) 113 = .ok (.iload_n 3, 1) := by decide +kernel
theorem d_X12_crowd_114 : decode (qMc M_X12_crowd) 114 = .ok (.if_icmp .ne 7, 3) := by decide +kernel
theorem d_X12_crowd_117 : decode (qMc M_X12_crowd) 117 = .ok (.iconst 1, 1) := by decide +kernel
theorem d_X12_crowd_118 : decode (qMc M_X12_crowd) 118 = .ok (.goto 4, 3) := by decide +kernel
theorem d_X12_crowd_121 : decode (qMc M_X12_crowd) 121 = .ok (.iconst 0, 1) := by decide +kernel
theorem d_X12_crowd_122 : decode (qMc M_X12_crowd) 122 = .ok (.iadd, 1) := by decide +kernel
theorem d_X12_crowd_123 : decode (qMc M_X12_crowd) 123 = .ok (.istore 9, 2) := by decide +kernel
theorem d_X12_crowd_125 : decode (qMc M_X12_crowd) 125 = .ok (.aload_n 0, 1) := by decide +kernel
theorem d_X12_crowd_126 : decode (qMc M_X12_crowd) 126 = .ok (.getfield 101, 3) := by decide +kernel
theorem d_X12_crowd_129 : decode (qMc M_X12_crowd) 129 = .ok (.iload 10, 2) := by decide +kernel
theorem d_X12_crowd_131 : decode (qMc M_X12_crowd) 131 = .ok (.aload_n 0, 1) := by decide +kernel
theorem d_X12_crowd_132 : decode (qMc M_X12_crowd) 132 = .ok (.getfield 95, 3) := by decide +kernel
theorem d_X12_crowd_135 : decode (qMc M_X12_crowd) 135 = .ok (.iload 10, 2) := by decide +kernel
theorem d_X12_crowd_137 : decode (qMc M_X12_crowd) 137 = .ok (.iaload, 1) := by decide +kernel
theorem d_X12_crowd_138 : decode (qMc M_X12_crowd) 138 = .ok (.iload_n 3, 1) := by decide +kernel
theorem d_X12_crowd_139 : decode (qMc M_X12_crowd) 139 = .ok (.if_icmp .ne 7, 3) := by decide +kernel
theorem d_X12_crowd_142 : decode (qMc M_X12_crowd) 142 = .ok (.iconst 1, 1) := by decide +kernel
theorem d_X12_crowd_143 : decode (qMc M_X12_crowd) 143 = .ok (.goto 10, 3) := by decide +kernel
theorem d_X12_crowd_146 : decode (qMc M_X12_crowd) 146 = .ok (.aload_n 0, 1) := by decide +kernel
theorem d_X12_crowd_147 : decode (qMc M_X12_crowd) 147 = .ok (.getfield 101, 3) := by decide +kernel
theorem d_X12_crowd_150 : decode (qMc M_X12_crowd) 150 = .ok (.iload 10, 2) := by decide +kernel
theorem d_X12_crowd_152 : decode (qMc M_X12_crowd) 152 = .ok (.iaload, 1) := by decide +kernel
theorem d_X12_crowd_153 : decode (qMc M_X12_crowd) 153 = .ok (.iastore, 1) := by decide +kernel
theorem d_X12_crowd_154 : decode (qMc M_X12_crowd) 154 = .ok (.iinc 10 1, 3) := by decide +kernel
theorem d_X12_crowd_157 : decode (qMc M_X12_crowd) 157 = .ok (.goto (-59), 3) := by decide +kernel
theorem d_X12_crowd_160 : decode (qMc M_X12_crowd) 160 = .ok (.iload 9, 2) := by decide +kernel
theorem d_X12_crowd_162 : decode (qMc M_X12_crowd) 162 = .ok (.iload 5, 2) := by decide +kernel
theorem d_X12_crowd_164 : decode (qMc M_X12_crowd) 164 = .ok (.if_icmp .le 8, 3) := by decide +kernel
theorem d_X12_crowd_167 : decode (qMc M_X12_crowd) 167 = .ok (.iload 8, 2) := by decide +kernel
theorem d_X12_crowd_169 : decode (qMc M_X12_crowd) 169 = .ok (.goto 5, 3) := by decide +kernel
theorem d_X12_crowd_172 : decode (qMc M_X12_crowd) 172 = .ok (.iload 6, 2) := by decide +kernel
theorem d_X12_crowd_174 : decode (qMc M_X12_crowd) 174 = .ok (.istore 6, 2) := by decide +kernel
theorem d_X12_crowd_176 : decode (qMc M_X12_crowd) 176 = .ok (.iload 9, 2) := by decide +kernel
theorem d_X12_crowd_178 : decode (qMc M_X12_crowd) 178 = .ok (.iload 5, 2) := by decide +kernel
theorem d_X12_crowd_180 : decode (qMc M_X12_crowd) 180 = .ok (.invokestatic 372, 3) := by decide +kernel
theorem d_X12_crowd_183 : decode (qMc M_X12_crowd) 183 = .ok (.istore 5, 2) := by decide +kernel
theorem d_X12_crowd_185 : decode (qMc M_X12_crowd) 185 = .ok (.aload_n 0, 1) := by decide +kernel
theorem d_X12_crowd_186 : decode (qMc M_X12_crowd) 186 = .ok (.getfield 95, 3) := by decide +kernel
theorem d_X12_crowd_189 : decode (qMc M_X12_crowd) 189 = .ok (.iload_n 1, 1) := by decide +kernel
theorem d_X12_crowd_190 : decode (qMc M_X12_crowd) 190 = .ok (.invokestatic 302, 3) := by decide +kernel
theorem d_X12_crowd_193 : decode (qMc M_X12_crowd) 193 = .ok (.ifCond .le 6, 3) := by decide +kernel
theorem d_X12_crowd_196 : decode (qMc M_X12_crowd) 196 = .ok (.goto 24, 3) := by decide +kernel
theorem d_X12_crowd_199 : decode (qMc M_X12_crowd) 199 = .ok (.aload_n 0, 1) := by decide +kernel
theorem d_X12_crowd_200 : decode (qMc M_X12_crowd) 200 = .ok (.aload_n 0, 1) := by decide +kernel
theorem d_X12_crowd_201 : decode (qMc M_X12_crowd) 201 = .ok (.getfield 95, 3) := by decide +kernel
theorem d_X12_crowd_204 : decode (qMc M_X12_crowd) 204 = .ok (.iload_n 1, 1) := by decide +kernel
theorem d_X12_crowd_205 : decode (qMc M_X12_crowd) 205 = .ok (.iconst 0, 1) := by decide +kernel
theorem d_X12_crowd_206 : decode (qMc M_X12_crowd) 206 = .ok (.iconst (-1), 1) := by decide +kernel
theorem d_X12_crowd_207 : decode (qMc M_X12_crowd) 207 = .ok (.aload_n 0, 1) := by decide +kernel
theorem d_X12_crowd_208 : decode (qMc M_X12_crowd) 208 = .ok (.getfield 86, 3) := by decide +kernel
theorem d_X12_crowd_211 : decode (qMc M_X12_crowd) 211 = .ok (.invokevirtual 336, 3) := by decide +kernel
theorem d_X12_crowd_214 : decode (qMc M_X12_crowd) 214 = .ok (.iinc 8 1, 3) := by decide +kernel
theorem d_X12_crowd_217 : decode (qMc M_X12_crowd) 217 = .ok (.goto (-134), 3) := by decide +kernel
theorem d_X12_crowd_220 : decode (qMc M_X12_crowd) 220 = .ok (.iconst 0, 1) := by decide +kernel
theorem d_X12_crowd_221 : decode (qMc M_X12_crowd) 221 = .ok (.istore 8, 2) := by decide +kernel
theorem d_X12_crowd_223 : decode (qMc M_X12_crowd) 223 = .ok (.iload 8, 2) := by decide +kernel
theorem d_X12_crowd_225 : decode (qMc M_X12_crowd) 225 = .ok (.iload_n 1, 1) := by decide +kernel
theorem d_X12_crowd_226 : decode (qMc M_X12_crowd) 226 = .ok (.if_icmp .ge 21, 3) := by decide +kernel
theorem d_X12_crowd_229 : decode (qMc M_X12_crowd) 229 = .ok (.iload 7, 2) := by decide +kernel
theorem d_X12_crowd_231 : decode (qMc M_X12_crowd) 231 = .ok (.aload_n 0, 1) := by decide +kernel
theorem d_X12_crowd_232 : decode (qMc M_X12_crowd) 232 = .ok (.getfield 101, 3) := by decide +kernel
theorem d_X12_crowd_235 : decode (qMc M_X12_crowd) 235 = .ok (.iload 8, 2) := by decide +kernel
theorem d_X12_crowd_237 : decode (qMc M_X12_crowd) 237 = .ok (.iaload, 1) := by decide +kernel
theorem d_X12_crowd_238 : decode (qMc M_X12_crowd) 238 = .ok (.iadd, 1) := by decide +kernel
theorem d_X12_crowd_239 : decode (qMc M_X12_crowd) 239 = .ok (.istore 7, 2) := by decide +kernel
theorem d_X12_crowd_241 : decode (qMc M_X12_crowd) 241 = .ok (.iinc 8 1, 3) := by decide +kernel
theorem d_X12_crowd_244 : decode (qMc M_X12_crowd) 244 = .ok (.goto (-21), 3) := by decide +kernel
theorem d_X12_crowd_247 : decode (qMc M_X12_crowd) 247 = .ok (.iload 4, 2) := by decide +kernel
theorem d_X12_crowd_249 : decode (qMc M_X12_crowd) 249 = .ok (.ifCond .ne 8, 3) := by decide +kernel
theorem d_X12_crowd_252 : decode (qMc M_X12_crowd) 252 = .ok (.iload 5, 2) := by decide +kernel
theorem d_X12_crowd_254 : decode (qMc M_X12_crowd) 254 = .ok (.goto 16, 3) := by decide +kernel
theorem d_X12_crowd_257 : decode (qMc M_X12_crowd) 257 = .ok (.iload 4, 2) := by decide +kernel
theorem d_X12_crowd_259 : decode (qMc M_X12_crowd) 259 = .ok (.iconst 1, 1) := by decide +kernel
theorem d_X12_crowd_260 : decode (qMc M_X12_crowd) 260 = .ok (.if_icmp .ne 8, 3) := by decide +kernel
theorem d_X12_crowd_263 : decode (qMc M_X12_crowd) 263 = .ok (.iload 6, 2) := by decide +kernel
theorem d_X12_crowd_265 : decode (qMc M_X12_crowd) 265 = .ok (.goto 5, 3) := by decide +kernel
theorem d_X12_crowd_268 : decode (qMc M_X12_crowd) 268 = .ok (.iload 7, 2) := by decide +kernel
theorem d_X12_crowd_270 : decode (qMc M_X12_crowd) 270 = .ok (.ireturn, 1) := by decide +kernel
theorem d_X12_begun_0 : decode (qMc M_X12_begun) 0 = .ok (.aload_n 0, 1) := by decide +kernel
theorem d_X12_begun_1 : decode (qMc M_X12_begun) 1 = .ok (.iconst 0, 1) := by decide +kernel
theorem d_X12_begun_2 : decode (qMc M_X12_begun) 2 = .ok (.putfield 127, 3) := by decide +kernel
theorem d_X12_begun_5 : decode (qMc M_X12_begun) 5 = .ok (.iload_n 1, 1) := by decide +kernel
theorem d_X12_begun_6 : decode (qMc M_X12_begun) 6 = .ok (.iconst 1, 1) := by decide +kernel
theorem d_X12_begun_7 : decode (qMc M_X12_begun) 7 = .ok (.bipush 32, 2) := by decide +kernel
theorem d_X12_begun_9 : decode (qMc M_X12_begun) 9 = .ok (.invokestatic 137, 3) := by decide +kernel
theorem d_X12_begun_12 : decode (qMc M_X12_begun) 12 = .ok (.ifCond .eq 12, 3) := by decide +kernel
theorem d_X12_begun_15 : decode (qMc M_X12_begun) 15 = .ok (.iload_n 2, 1) := by decide +kernel
theorem d_X12_begun_16 : decode (qMc M_X12_begun) 16 = .ok (.iconst 0, 1) := by decide +kernel
theorem d_X12_begun_17 : decode (qMc M_X12_begun) 17 = .ok (.iconst 2, 1) := by decide +kernel
theorem d_X12_begun_18 : decode (qMc M_X12_begun) 18 = .ok (.invokestatic 137, 3) := by decide +kernel
theorem d_X12_begun_21 : decode (qMc M_X12_begun) 21 = .ok (.ifCond .ne 5, 3) := by decide +kernel
theorem d_X12_begun_24 : decode (qMc M_X12_begun) 24 = .ok (.iconst (-1), 1) := by decide +kernel
theorem d_X12_begun_25 : decode (qMc M_X12_begun) 25 = .ok (.ireturn, 1) := by decide +kernel
theorem d_X12_begun_26 : decode (qMc M_X12_begun) 26 = .ok (.aload_n 0, 1) := by decide +kernel
theorem d_X12_begun_27 : decode (qMc M_X12_begun) 27 = .ok (.invokevirtual 275, 3) := by decide +kernel
theorem d_X12_begun_30 : decode (qMc M_X12_begun) 30 = .ok (.iconst 0, 1) := by decide +kernel
theorem d_X12_begun_31 : decode (qMc M_X12_begun) 31 = .ok (.istore_n 3, 1) := by decide +kernel
theorem d_X12_begun_32 : decode (qMc M_X12_begun) 32 = .ok (.iconst (-1), 1) := by decide +kernel
theorem d_X12_begun_33 : decode (qMc M_X12_begun) 33 = .ok (.istore 4, 2) := by decide +kernel
theorem d_X12_begun_35 : decode (qMc M_X12_begun) 35 = .ok (.iconst (-1), 1) := by decide +kernel
theorem d_X12_begun_36 : decode (qMc M_X12_begun) 36 = .ok (.istore 5, 2) := by decide +kernel
theorem d_X12_begun_38 : decode (qMc M_X12_begun) 38 = .ok (.iconst 0, 1) := by decide +kernel
theorem d_X12_begun_39 : decode (qMc M_X12_begun) 39 = .ok (.istore 6, 2) := by decide +kernel
theorem d_X12_begun_41 : decode (qMc M_X12_begun) 41 = .ok (.iconst 0, 1) := by decide +kernel
theorem d_X12_begun_42 : decode (qMc M_X12_begun) 42 = .ok (.istore 7, 2) := by decide +kernel
theorem d_X12_begun_44 : decode (qMc M_X12_begun) 44 = .ok (.iload 7, 2) := by decide +kernel
theorem d_X12_begun_46 : decode (qMc M_X12_begun) 46 = .ok (.iload_n 1, 1) := by decide +kernel
theorem d_X12_begun_47 : decode (qMc M_X12_begun) 47 = .ok (.if_icmp .ge 82, 3) := by decide +kernel
theorem d_X12_begun_50 : decode (qMc M_X12_begun) 50 = .ok (.aload_n 0, 1) := by decide +kernel
theorem d_X12_begun_51 : decode (qMc M_X12_begun) 51 = .ok (.iload_n 1, 1) := by decide +kernel
theorem d_X12_begun_52 : decode (qMc M_X12_begun) 52 = .ok (.iload 7, 2) := by decide +kernel
theorem d_X12_begun_54 : decode (qMc M_X12_begun) 54 = .ok (.iconst 0, 1) := by decide +kernel
theorem d_X12_begun_55 : decode (qMc M_X12_begun) 55 = .ok (.invokevirtual 340, 3) := by decide +kernel
theorem d_X12_begun_58 : decode (qMc M_X12_begun) 58 = .ok (.istore 8, 2) := by decide +kernel
theorem d_X12_begun_60 : decode (qMc M_X12_begun) 60 = .ok (.iload 8, 2) := by decide +kernel
theorem d_X12_begun_62 : decode (qMc M_X12_begun) 62 = .ok (.iconst (-1), 1) := by decide +kernel
theorem d_X12_begun_63 : decode (qMc M_X12_begun) 63 = .ok (.if_icmp .eq 15, 3) := by decide +kernel
theorem d_X12_begun_66 : decode (qMc M_X12_begun) 66 = .ok (.aload_n 0, 1) := by decide +kernel
theorem d_X12_begun_67 : decode (qMc M_X12_begun) 67 = .ok (.getfield 95, 3) := by decide +kernel
theorem d_X12_begun_70 : decode (qMc M_X12_begun) 70 = .ok (.iload_n 1, 1) := by decide +kernel
theorem d_X12_begun_71 : decode (qMc M_X12_begun) 71 = .ok (.invokestatic 302, 3) := by decide +kernel
theorem d_X12_begun_74 : decode (qMc M_X12_begun) 74 = .ok (.iload_n 1, 1) := by decide +kernel
theorem d_X12_begun_75 : decode (qMc M_X12_begun) 75 = .ok (.if_icmp .ge 21, 3) := by decide +kernel
theorem d_X12_begun_78 : decode (qMc M_X12_begun) 78 = .ok (.iload 4, 2) := by decide +kernel
theorem d_X12_begun_80 : decode (qMc M_X12_begun) 80 = .ok (.iconst (-1), 1) := by decide +kernel
theorem d_X12_begun_81 : decode (qMc M_X12_begun) 81 = .ok (.if_icmp .ne 8, 3) := by decide +kernel
theorem d_X12_begun_84 : decode (qMc M_X12_begun) 84 = .ok (.iload 7, 2) := by decide +kernel
theorem d_X12_begun_86 : decode (qMc M_X12_begun) 86 = .ok (.goto 5, 3) := by decide +kernel
theorem d_X12_begun_89 : decode (qMc M_X12_begun) 89 = .ok (.iload 4, 2) := by decide +kernel
theorem d_X12_begun_91 : decode (qMc M_X12_begun) 91 = .ok (.istore 4, 2) := by decide +kernel
theorem d_X12_begun_93 : decode (qMc M_X12_begun) 93 = .ok (.goto 30, 3) := by decide +kernel
theorem d_X12_begun_96 : decode (qMc M_X12_begun) 96 = .ok (.iinc 3 1, 3) := by decide +kernel
theorem d_X12_begun_99 : decode (qMc M_X12_begun) 99 = .ok (.iload 5, 2) := by decide +kernel
theorem d_X12_begun_101 : decode (qMc M_X12_begun) 101 = .ok (.iconst (-1), 1) := by decide +kernel
theorem d_X12_begun_102 : decode (qMc M_X12_begun) 102 = .ok (.if_icmp .eq 13, 3) := by decide +kernel
theorem d_X12_begun_105 : decode (qMc M_X12_begun) 105 = .ok (.iload 8, 2) := by decide +kernel
theorem d_X12_begun_107 : decode (qMc M_X12_begun) 107 = .ok (.iload 6, 2) := by decide +kernel
theorem d_X12_begun_109 : decode (qMc M_X12_begun) 109 = .ok (.if_icmp .lt 6, 3) := by decide +kernel
theorem d_X12_begun_112 : decode (qMc M_X12_begun) 112 = .ok (.goto 11, 3) := by decide +kernel
theorem d_X12_begun_115 : decode (qMc M_X12_begun) 115 = .ok (.iload 7, 2) := by decide +kernel
theorem d_X12_begun_117 : decode (qMc M_X12_begun) 117 = .ok (.istore 5, 2) := by decide +kernel
theorem d_X12_begun_119 : decode (qMc M_X12_begun) 119 = .ok (.iload 8, 2) := by decide +kernel
theorem d_X12_begun_121 : decode (qMc M_X12_begun) 121 = .ok (.istore 6, 2) := by decide +kernel
theorem d_X12_begun_123 : decode (qMc M_X12_begun) 123 = .ok (.iinc 7 1, 3) := by decide +kernel
theorem d_X12_begun_126 : decode (qMc M_X12_begun) 126 = .ok (.goto (-82), 3) := by decide +kernel
theorem d_X12_begun_129 : decode (qMc M_X12_begun) 129 = .ok (.iload_n 2, 1) := by decide +kernel
theorem d_X12_begun_130 : decode (qMc M_X12_begun) 130 = .ok (.ifCond .ne 7, 3) := by decide +kernel
theorem d_X12_begun_133 : decode (qMc M_X12_begun) 133 = .ok (.iload_n 3, 1) := by decide +kernel
theorem d_X12_begun_134 : decode (qMc M_X12_begun) 134 = .ok (.goto 15, 3) := by decide +kernel
theorem d_X12_begun_137 : decode (qMc M_X12_begun) 137 = .ok (.iload_n 2, 1) := by decide +kernel
theorem d_X12_begun_138 : decode (qMc M_X12_begun) 138 = .ok (.iconst 1, 1) := by decide +kernel
theorem d_X12_begun_139 : decode (qMc M_X12_begun) 139 = .ok (.if_icmp .ne 8, 3) := by decide +kernel
theorem d_X12_begun_142 : decode (qMc M_X12_begun) 142 = .ok (.iload 4, 2) := by decide +kernel
theorem d_X12_begun_144 : decode (qMc M_X12_begun) 144 = .ok (.goto 5, 3) := by decide +kernel
theorem d_X12_begun_147 : decode (qMc M_X12_begun) 147 = .ok (.iload 5, 2) := by decide +kernel
theorem d_X12_begun_149 : decode (qMc M_X12_begun) 149 = .ok (.ireturn, 1) := by decide +kernel
theorem d_X12_below_0 : decode (qMc M_X12_below) 0 = .ok (.iconst (-1), 1) := by decide +kernel
theorem d_X12_below_1 : decode (qMc M_X12_below) 1 = .ok (.istore_n 3, 1) := by decide +kernel
theorem d_X12_below_2 : decode (qMc M_X12_below) 2 = .ok (.iconst 0, 1) := by decide +kernel
theorem d_X12_below_3 : decode (qMc M_X12_below) 3 = .ok (.istore 4, 2) := by decide +kernel
theorem d_X12_below_5 : decode (qMc M_X12_below) 5 = .ok (.iload 4, 2) := by decide +kernel
theorem d_X12_below_7 : decode (qMc M_X12_below) 7 = .ok (.iload_n 2, 1) := by decide +kernel
theorem d_X12_below_8 : decode (qMc M_X12_below) 8 = .ok (.if_icmp .ge 36, 3) := by decide +kernel
theorem d_X12_below_11 : decode (qMc M_X12_below) 11 = .ok (.aload_n 0, 1) := by decide +kernel
theorem d_X12_below_12 : decode (qMc M_X12_below) 12 = .ok (.getfield 38, 3) := by decide +kernel
theorem d_X12_below_15 : decode (qMc M_X12_below) 15 = .ok (.iload 4, 2) := by decide +kernel
theorem d_X12_below_17 : decode (qMc M_X12_below) 17 = .ok (.iaload, 1) := by decide +kernel
theorem d_X12_below_18 : decode (qMc M_X12_below) 18 = .ok (.iload_n 1, 1) := by decide +kernel
theorem d_X12_below_19 : decode (qMc M_X12_below) 19 = .ok (.if_icmp .ne 17, 3) := by decide +kernel
theorem d_X12_below_22 : decode (qMc M_X12_below) 22 = .ok (.iload_n 3, 1) := by decide +kernel
theorem d_X12_below_23 : decode (qMc M_X12_below) 23 = .ok (.aload_n 0, 1) := by decide +kernel
theorem d_X12_below_24 : decode (qMc M_X12_below) 24 = .ok (.getfield 95, 3) := by decide +kernel
theorem d_X12_below_27 : decode (qMc M_X12_below) 27 = .ok (.iload 4, 2) := by decide +kernel
theorem d_X12_below_29 : decode (qMc M_X12_below) 29 = .ok (.iaload, 1) := by decide +kernel
theorem d_X12_below_30 : decode (qMc M_X12_below) 30 = .ok (.invokestatic 372, 3) := by decide +kernel
theorem d_X12_below_33 : decode (qMc M_X12_below) 33 = .ok (.goto 4, 3) := by decide +kernel
theorem d_X12_below_36 : decode (qMc M_X12_below) 36 = .ok (.iload_n 3, 1) := by decide +kernel
theorem d_X12_below_37 : decode (qMc M_X12_below) 37 = .ok (.istore_n 3, 1) := by decide +kernel
theorem d_X12_below_38 : decode (qMc M_X12_below) 38 = .ok (.iinc 4 1, 3) := by decide +kernel
theorem d_X12_below_41 : decode (qMc M_X12_below) 41 = .ok (.goto (-36), 3) := by decide +kernel
theorem d_X12_below_44 : decode (qMc M_X12_below) 44 = .ok (.iload_n 3, 1) := by decide +kernel
theorem d_X12_below_45 : decode (qMc M_X12_below) 45 = .ok (.iconst (-1), 1) := by decide +kernel
theorem d_X12_below_46 : decode (qMc M_X12_below) 46 = .ok (.if_icmp .ne 8, 3) := by decide +kernel
theorem d_X12_below_49 : decode (qMc M_X12_below) 49 = .ok (.bipush 8, 2) := by decide +kernel
theorem d_X12_below_51 : decode (qMc M_X12_below) 51 = .ok (.goto 4, 3) := by decide +kernel
theorem d_X12_below_54 : decode (qMc M_X12_below) 54 = .ok (.iload_n 3, 1) := by decide +kernel
theorem d_X12_below_55 : decode (qMc M_X12_below) 55 = .ok (.ireturn, 1) := by decide +kernel
theorem d_X12_trees_0 : decode (qMc M_X12_trees) 0 = .ok (.aload_n 0, 1) := by decide +kernel
theorem d_X12_trees_1 : decode (qMc M_X12_trees) 1 = .ok (.iconst 0, 1) := by decide +kernel
theorem d_X12_trees_2 : decode (qMc M_X12_trees) 2 = .ok (.putfield 127, 3) := by decide +kernel
theorem d_X12_trees_5 : decode (qMc M_X12_trees) 5 = .ok (.iload_n 1, 1) := by decide +kernel
theorem d_X12_trees_6 : decode (qMc M_X12_trees) 6 = .ok (.iconst 0, 1) := by decide +kernel
theorem d_X12_trees_7 : decode (qMc M_X12_trees) 7 = .ok (.iconst 2, 1) := by decide +kernel
theorem d_X12_trees_8 : decode (qMc M_X12_trees) 8 = .ok (.invokestatic 137, 3) := by decide +kernel
theorem d_X12_trees_11 : decode (qMc M_X12_trees) 11 = .ok (.ifCond .ne 5, 3) := by decide +kernel
theorem d_X12_trees_14 : decode (qMc M_X12_trees) 14 = .ok (.iconst (-1), 1) := by decide +kernel
theorem d_X12_trees_15 : decode (qMc M_X12_trees) 15 = .ok (.ireturn, 1) := by decide +kernel
theorem d_X12_trees_16 : decode (qMc M_X12_trees) 16 = .ok (.aload_n 0, 1) := by decide +kernel
theorem d_X12_trees_17 : decode (qMc M_X12_trees) 17 = .ok (.invokevirtual 275, 3) := by decide +kernel
theorem d_X12_trees_20 : decode (qMc M_X12_trees) 20 = .ok (.iconst 1, 1) := by decide +kernel
theorem d_X12_trees_21 : decode (qMc M_X12_trees) 21 = .ok (.istore_n 2, 1) := by decide +kernel
theorem d_X12_trees_22 : decode (qMc M_X12_trees) 22 = .ok (.iconst (-1), 1) := by decide +kernel
theorem d_X12_trees_23 : decode (qMc M_X12_trees) 23 = .ok (.istore_n 3, 1) := by decide +kernel
theorem d_X12_trees_24 : decode (qMc M_X12_trees) 24 = .ok (.iconst 0, 1) := by decide +kernel
theorem d_X12_trees_25 : decode (qMc M_X12_trees) 25 = .ok (.istore 4, 2) := by decide +kernel
theorem d_X12_trees_27 : decode (qMc M_X12_trees) 27 = .ok (.iload 4, 2) := by decide +kernel
theorem d_X12_trees_29 : decode (qMc M_X12_trees) 29 = .ok (.bipush 16, 2) := by decide +kernel
theorem d_X12_trees_31 : decode (qMc M_X12_trees) 31 = .ok (.if_icmp .ge 29, 3) := by decide +kernel
theorem d_X12_trees_34 : decode (qMc M_X12_trees) 34 = .ok (.aload_n 0, 1) := by decide +kernel
theorem d_X12_trees_35 : decode (qMc M_X12_trees) 35 = .ok (.getfield 38, 3) := by decide +kernel
theorem d_X12_trees_38 : decode (qMc M_X12_trees) 38 = .ok (.iload 4, 2) := by decide +kernel
theorem d_X12_trees_40 : decode (qMc M_X12_trees) 40 = .ok (.iaload, 1) := by decide +kernel
theorem d_X12_trees_41 : decode (qMc M_X12_trees) 41 = .ok (.iconst (-1), 1) := by decide +kernel
theorem d_X12_trees_42 : decode (qMc M_X12_trees) 42 = .ok (.if_icmp .ne 7, 3) := by decide +kernel
theorem d_X12_trees_45 : decode (qMc M_X12_trees) 45 = .ok (.iload_n 2, 1) := by decide +kernel
theorem d_X12_trees_46 : decode (qMc M_X12_trees) 46 = .ok (.goto 7, 3) := by decide +kernel
theorem d_X12_trees_49 : decode (qMc M_X12_trees) 49 = .ok (.iload 4, 2) := by decide +kernel
theorem d_X12_trees_51 : decode (qMc M_X12_trees) 51 = .ok (.iconst 1, 1) := by decide +kernel
theorem d_X12_trees_52 : decode (qMc M_X12_trees) 52 = .ok (.iadd, 1) := by decide +kernel
theorem d_X12_trees_53 : decode (qMc M_X12_trees) 53 = .ok (.istore_n 2, 1) := by decide +kernel
theorem d_X12_trees_54 : decode (qMc M_X12_trees) 54 = .ok (.iinc 4 1, 3) := by decide +kernel
theorem d_X12_trees_57 : decode (qMc M_X12_trees) 57 = .ok (.goto (-30), 3) := by decide +kernel
theorem d_X12_trees_60 : decode (qMc M_X12_trees) 60 = .ok (.aload_n 0, 1) := by decide +kernel
theorem d_X12_trees_61 : decode (qMc M_X12_trees) 61 = .ok (.getfield 95, 3) := by decide +kernel
theorem d_X12_trees_64 : decode (qMc M_X12_trees) 64 = .ok (.iload_n 2, 1) := by decide +kernel
theorem d_X12_trees_65 : decode (qMc M_X12_trees) 65 = .ok (.iconst 0, 1) := by decide +kernel
theorem d_X12_trees_66 : decode (qMc M_X12_trees) 66 = .ok (.invokestatic 329, 3) := by decide +kernel
theorem d_X12_trees_69 : decode (qMc M_X12_trees) 69 = .ok (.iconst 1, 1) := by decide +kernel
theorem d_X12_trees_70 : decode (qMc M_X12_trees) 70 = .ok (.istore 4, 2) := by decide +kernel
theorem d_X12_trees_72 : decode (qMc M_X12_trees) 72 = .ok (.iload 4, 2) := by decide +kernel
theorem d_X12_trees_74 : decode (qMc M_X12_trees) 74 = .ok (.iload_n 2, 1) := by decide +kernel
theorem d_X12_trees_75 : decode (qMc M_X12_trees) 75 = .ok (.invokestatic 333, 3) := by decide +kernel
theorem d_X12_trees_78 : decode (qMc M_X12_trees) 78 = .ok (.if_icmp .gt 133, 3) := by decide +kernel
theorem d_X12_trees_81 : decode (qMc M_X12_trees) 81 = .ok (.iload_n 3, 1) := by decide +kernel
theorem d_X12_trees_82 : decode (qMc M_X12_trees) 82 = .ok (.iconst (-1), 1) := by decide +kernel
theorem d_X12_trees_83 : decode (qMc M_X12_trees) 83 = .ok (.if_icmp .ne 128, 3) := by decide +kernel
theorem d_X12_trees_86 : decode (qMc M_X12_trees) 86 = .ok (.iconst 0, 1) := by decide +kernel
theorem d_X12_trees_87 : decode (qMc M_X12_trees) 87 = .ok (.istore 5, 2) := by decide +kernel
theorem d_X12_trees_89 : decode (qMc M_X12_trees) 89 = .ok (.iload 5, 2) := by decide +kernel
theorem d_X12_trees_91 : decode (qMc M_X12_trees) 91 = .ok (.iload_n 2, 1) := by decide +kernel
theorem d_X12_trees_92 : decode (qMc M_X12_trees) 92 = .ok (.if_icmp .ge 66, 3) := by decide +kernel
theorem d_X12_trees_95 : decode (qMc M_X12_trees) 95 = .ok (.aload_n 0, 1) := by decide +kernel
theorem d_X12_trees_96 : decode (qMc M_X12_trees) 96 = .ok (.getfield 98, 3) := by decide +kernel
theorem d_X12_trees_99 : decode (qMc M_X12_trees) 99 = .ok (.iload 5, 2) := by decide +kernel
theorem d_X12_trees_101 : decode (qMc M_X12_trees) 101 = .ok (.aload_n 0, 1) := by decide +kernel
theorem d_X12_trees_102 : decode (qMc M_X12_trees) 102 = .ok (.getfield 86, 3) := by decide +kernel
theorem d_X12_trees_105 : decode (qMc M_X12_trees) 105 = .ok (.aload_n 0, 1) := by decide +kernel
theorem d_X12_trees_106 : decode (qMc M_X12_trees) 106 = .ok (.getfield 95, 3) := by decide +kernel
theorem d_X12_trees_109 : decode (qMc M_X12_trees) 109 = .ok (.iload 5, 2) := by decide +kernel
theorem d_X12_trees_111 : decode (qMc M_X12_trees) 111 = .ok (.iaload, 1) := by decide +kernel
theorem d_X12_trees_112 : decode (qMc M_X12_trees) 112 = .ok (.aload_n 0, 1) := by decide +kernel
theorem d_X12_trees_113 : decode (qMc M_X12_trees) 113 = .ok (.getfield 38, 3) := by decide +kernel
theorem d_X12_trees_116 : decode (qMc M_X12_trees) 116 = .ok (.iload 5, 2) := by decide +kernel
theorem d_X12_trees_118 : decode (qMc M_X12_trees) 118 = .ok (.iaload, 1) := by decide +kernel
theorem d_X12_trees_119 : decode (qMc M_X12_trees) 119 = .ok (.iconst (-1), 1) := by decide +kernel
theorem d_X12_trees_120 : decode (qMc M_X12_trees) 120 = .ok (.if_icmp .ne 8, 3) := by decide +kernel
theorem d_X12_trees_123 : decode (qMc M_X12_trees) 123 = .ok (.bipush 8, 2) := by decide +kernel
theorem d_X12_trees_125 : decode (qMc M_X12_trees) 125 = .ok (.goto 15, 3) := by decide +kernel
theorem d_X12_trees_128 : decode (qMc M_X12_trees) 128 = .ok (.aload_n 0, 1) := by decide +kernel
theorem d_X12_trees_129 : decode (qMc M_X12_trees) 129 = .ok (.getfield 95, 3) := by decide +kernel
theorem d_X12_trees_132 : decode (qMc M_X12_trees) 132 = .ok (.aload_n 0, 1) := by decide +kernel
theorem d_X12_trees_133 : decode (qMc M_X12_trees) 133 = .ok (.getfield 38, 3) := by decide +kernel
theorem d_X12_trees_136 : decode (qMc M_X12_trees) 136 = .ok (.iload 5, 2) := by decide +kernel
theorem d_X12_trees_138 : decode (qMc M_X12_trees) 138 = .ok (.iaload, 1) := by decide +kernel
theorem d_X12_trees_139 : decode (qMc M_X12_trees) 139 = .ok (.iaload, 1) := by decide +kernel
theorem d_X12_trees_140 : decode (qMc M_X12_trees) 140 = .ok (.aload_n 0, 1) := by decide +kernel
theorem d_X12_trees_141 : decode (qMc M_X12_trees) 141 = .ok (.iload 5, 2) := by decide +kernel
theorem d_X12_trees_143 : decode (qMc M_X12_trees) 143 = .ok (.iload_n 2, 1) := by decide +kernel
theorem d_X12_trees_144 : decode (qMc M_X12_trees) 144 = .ok (.invokevirtual 378, 3) := by decide +kernel
theorem d_X12_trees_147 : decode (qMc M_X12_trees) 147 = .ok (.invokestatic 263, 3) := by decide +kernel
theorem d_X12_trees_150 : decode (qMc M_X12_trees) 150 = .ok (.iaload, 1) := by decide +kernel
theorem d_X12_trees_151 : decode (qMc M_X12_trees) 151 = .ok (.iastore, 1) := by decide +kernel
theorem d_X12_trees_152 : decode (qMc M_X12_trees) 152 = .ok (.iinc 5 1, 3) := by decide +kernel
theorem d_X12_trees_155 : decode (qMc M_X12_trees) 155 = .ok (.goto (-66), 3) := by decide +kernel
theorem d_X12_trees_158 : decode (qMc M_X12_trees) 158 = .ok (.iconst 0, 1) := by decide +kernel
theorem d_X12_trees_159 : decode (qMc M_X12_trees) 159 = .ok (.istore 5, 2) := by decide +kernel
theorem d_X12_trees_161 : decode (qMc M_X12_trees) 161 = .ok (.iload 5, 2) := by decide +kernel
theorem d_X12_trees_163 : decode (qMc M_X12_trees) 163 = .ok (.iload_n 2, 1) := by decide +kernel
theorem d_X12_trees_164 : decode (qMc M_X12_trees) 164 = .ok (.if_icmp .ge 23, 3) := by decide +kernel
theorem d_X12_trees_167 : decode (qMc M_X12_trees) 167 = .ok (.aload_n 0, 1) := by decide +kernel
theorem d_X12_trees_168 : decode (qMc M_X12_trees) 168 = .ok (.getfield 95, 3) := by decide +kernel
theorem d_X12_trees_171 : decode (qMc M_X12_trees) 171 = .ok (.iload 5, 2) := by decide +kernel
theorem d_X12_trees_173 : decode (qMc M_X12_trees) 173 = .ok (.aload_n 0, 1) := by decide +kernel
theorem d_X12_trees_174 : decode (qMc M_X12_trees) 174 = .ok (.getfield 98, 3) := by decide +kernel
theorem d_X12_trees_177 : decode (qMc M_X12_trees) 177 = .ok (.iload 5, 2) := by decide +kernel
theorem d_X12_trees_179 : decode (qMc M_X12_trees) 179 = .ok (.iaload, 1) := by decide +kernel
theorem d_X12_trees_180 : decode (qMc M_X12_trees) 180 = .ok (.iastore, 1) := by decide +kernel
theorem d_X12_trees_181 : decode (qMc M_X12_trees) 181 = .ok (.iinc 5 1, 3) := by decide +kernel
theorem d_X12_trees_184 : decode (qMc M_X12_trees) 184 = .ok (.goto (-23), 3) := by decide +kernel
theorem d_X12_trees_187 : decode (qMc M_X12_trees) 187 = .ok (.aload_n 0, 1) := by decide +kernel
theorem d_X12_trees_188 : decode (qMc M_X12_trees) 188 = .ok (.getfield 95, 3) := by decide +kernel
theorem d_X12_trees_191 : decode (qMc M_X12_trees) 191 = .ok (.iload_n 2, 1) := by decide +kernel
theorem d_X12_trees_192 : decode (qMc M_X12_trees) 192 = .ok (.invokestatic 302, 3) := by decide +kernel
theorem d_X12_trees_195 : decode (qMc M_X12_trees) 195 = .ok (.ifCond .le 8, 3) := by decide +kernel
theorem d_X12_trees_198 : decode (qMc M_X12_trees) 198 = .ok (.iload 4, 2) := by decide +kernel
theorem d_X12_trees_200 : decode (qMc M_X12_trees) 200 = .ok (.goto 4, 3) := by decide +kernel
theorem d_X12_trees_203 : decode (qMc M_X12_trees) 203 = .ok (.iconst (-1), 1) := by decide +kernel
theorem d_X12_trees_204 : decode (qMc M_X12_trees) 204 = .ok (.istore_n 3, 1) := by decide +kernel
theorem d_X12_trees_205 : decode (qMc M_X12_trees) 205 = .ok (.iinc 4 1, 3) := by decide +kernel
theorem d_X12_trees_208 : decode (qMc M_X12_trees) 208 = .ok (.goto (-136), 3) := by decide +kernel
theorem d_X12_trees_211 : decode (qMc M_X12_trees) 211 = .ok (.iload_n 1, 1) := by decide +kernel
theorem d_X12_trees_212 : decode (qMc M_X12_trees) 212 = .ok (.ifCond .ne 7, 3) := by decide +kernel
theorem d_X12_trees_215 : decode (qMc M_X12_trees) 215 = .ok (.iload_n 3, 1) := by decide +kernel
theorem d_X12_trees_216 : decode (qMc M_X12_trees) 216 = .ok (.goto 28, 3) := by decide +kernel
theorem d_X12_trees_219 : decode (qMc M_X12_trees) 219 = .ok (.iload_n 1, 1) := by decide +kernel
theorem d_X12_trees_220 : decode (qMc M_X12_trees) 220 = .ok (.iconst 1, 1) := by decide +kernel
theorem d_X12_trees_221 : decode (qMc M_X12_trees) 221 = .ok (.if_icmp .ne 14, 3) := by decide +kernel
theorem d_X12_trees_224 : decode (qMc M_X12_trees) 224 = .ok (.aload_n 0, 1) := by decide +kernel
theorem d_X12_trees_225 : decode (qMc M_X12_trees) 225 = .ok (.getfield 95, 3) := by decide +kernel
theorem d_X12_trees_228 : decode (qMc M_X12_trees) 228 = .ok (.iload_n 2, 1) := by decide +kernel
theorem d_X12_trees_229 : decode (qMc M_X12_trees) 229 = .ok (.invokestatic 302, 3) := by decide +kernel
theorem d_X12_trees_232 : decode (qMc M_X12_trees) 232 = .ok (.goto 12, 3) := by decide +kernel
theorem d_X12_trees_235 : decode (qMc M_X12_trees) 235 = .ok (.aload_n 0, 1) := by decide +kernel
theorem d_X12_trees_236 : decode (qMc M_X12_trees) 236 = .ok (.getfield 95, 3) := by decide +kernel
theorem d_X12_trees_239 : decode (qMc M_X12_trees) 239 = .ok (.iload_n 2, 1) := by decide +kernel
theorem d_X12_trees_240 : decode (qMc M_X12_trees) 240 = .ok (.iconst 0, 1) := by decide +kernel
theorem d_X12_trees_241 : decode (qMc M_X12_trees) 241 = .ok (.invokestatic 306, 3) := by decide +kernel
theorem d_X12_trees_244 : decode (qMc M_X12_trees) 244 = .ok (.ireturn, 1) := by decide +kernel
theorem d_X12_alike_0 : decode (qMc M_X12_alike) 0 = .ok (.aload_n 0, 1) := by decide +kernel
theorem d_X12_alike_1 : decode (qMc M_X12_alike) 1 = .ok (.iconst 0, 1) := by decide +kernel
theorem d_X12_alike_2 : decode (qMc M_X12_alike) 2 = .ok (.putfield 127, 3) := by decide +kernel
theorem d_X12_alike_5 : decode (qMc M_X12_alike) 5 = .ok (.iload_n 1, 1) := by decide +kernel
theorem d_X12_alike_6 : decode (qMc M_X12_alike) 6 = .ok (.iconst 1, 1) := by decide +kernel
theorem d_X12_alike_7 : decode (qMc M_X12_alike) 7 = .ok (.bipush 24, 2) := by decide +kernel
theorem d_X12_alike_9 : decode (qMc M_X12_alike) 9 = .ok (.invokestatic 137, 3) := by decide +kernel
theorem d_X12_alike_12 : decode (qMc M_X12_alike) 12 = .ok (.ifCond .eq 12, 3) := by decide +kernel
theorem d_X12_alike_15 : decode (qMc M_X12_alike) 15 = .ok (.iload_n 2, 1) := by decide +kernel
theorem d_X12_alike_16 : decode (qMc M_X12_alike) 16 = .ok (.iconst 0, 1) := by decide +kernel
theorem d_X12_alike_17 : decode (qMc M_X12_alike) 17 = .ok (.iconst 2, 1) := by decide +kernel
theorem d_X12_alike_18 : decode (qMc M_X12_alike) 18 = .ok (.invokestatic 137, 3) := by decide +kernel
theorem d_X12_alike_21 : decode (qMc M_X12_alike) 21 = .ok (.ifCond .ne 5, 3) := by decide +kernel
theorem d_X12_alike_24 : decode (qMc M_X12_alike) 24 = .ok (.iconst (-1), 1) := by decide +kernel
theorem d_X12_alike_25 : decode (qMc M_X12_alike) 25 = .ok (.ireturn, 1) := by decide +kernel
theorem d_X12_alike_26 : decode (qMc M_X12_alike) 26 = .ok (.aload_n 0, 1) := by decide +kernel
theorem d_X12_alike_27 : decode (qMc M_X12_alike) 27 = .ok (.aload_n 0, 1) := by decide +kernel
theorem d_X12_alike_28 : decode (qMc M_X12_alike) 28 = .ok (.getfield 20, 3) := by decide +kernel
theorem d_X12_alike_31 : decode (qMc M_X12_alike) 31 = .ok (.aload_n 0, 1) := by decide +kernel
theorem d_X12_alike_32 : decode (qMc M_X12_alike) 32 = .ok (.getfield 29, 3) := by decide +kernel
theorem d_X12_alike_35 : decode (qMc M_X12_alike) 35 = .ok (.bipush 15, 2) := by decide +kernel
theorem d_X12_alike_37 : decode (qMc M_X12_alike) 37 = .ok (.iconst (-1), 1) := by decide +kernel
theorem d_X12_alike_38 : decode (qMc M_X12_alike) 38 = .ok (.iconst (-1), 1) := by decide +kernel
theorem d_X12_alike_39 : decode (qMc M_X12_alike) 39 = .ok (.iconst 0, 1) := by decide +kernel
theorem d_X12_alike_40 : decode (qMc M_X12_alike) 40 = .ok (.aload_n 0, 1) := by decide +kernel
theorem d_X12_alike_41 : decode (qMc M_X12_alike) 41 = .ok (.getfield 92, 3) := by decide +kernel
theorem d_X12_alike_44 : decode (qMc M_X12_alike) 44 = .ok (.invokevirtual 271, 3) := by decide +kernel
theorem d_X12_alike_47 : decode (qMc M_X12_alike) 47 = .ok (.aload_n 0, 1) := by decide +kernel
theorem d_X12_alike_48 : decode (qMc M_X12_alike) 48 = .ok (.invokevirtual 275, 3) := by decide +kernel
theorem d_X12_alike_51 : decode (qMc M_X12_alike) 51 = .ok (.iconst 1, 1) := by decide +kernel
theorem d_X12_alike_52 : decode (qMc M_X12_alike) 52 = .ok (.istore_n 3, 1) := by decide +kernel
theorem d_X12_alike_53 : decode (qMc M_X12_alike) 53 = .ok (.iload_n 3, 1) := by decide +kernel
theorem d_X12_alike_54 : decode (qMc M_X12_alike) 54 = .ok (.iload_n 1, 1) := by decide +kernel
theorem d_X12_alike_55 : decode (qMc M_X12_alike) 55 = .ok (.if_icmp .gt 139, 3) := by decide +kernel
theorem d_X12_alike_58 : decode (qMc M_X12_alike) 58 = .ok (.aload_n 0, 1) := by decide +kernel
theorem d_X12_alike_59 : decode (qMc M_X12_alike) 59 = .ok (.getfield 95, 3) := by decide +kernel
theorem d_X12_alike_62 : decode (qMc M_X12_alike) 62 = .ok (.iload_n 3, 1) := by decide +kernel
theorem d_X12_alike_63 : decode (qMc M_X12_alike) 63 = .ok (.iconst 0, 1) := by decide +kernel
theorem d_X12_alike_64 : decode (qMc M_X12_alike) 64 = .ok (.invokestatic 329, 3) := by decide +kernel
theorem d_X12_alike_67 : decode (qMc M_X12_alike) 67 = .ok (.aload_n 0, 1) := by decide +kernel
theorem d_X12_alike_68 : decode (qMc M_X12_alike) 68 = .ok (.getfield 101, 3) := by decide +kernel
theorem d_X12_alike_71 : decode (qMc M_X12_alike) 71 = .ok (.iload_n 3, 1) := by decide +kernel
theorem d_X12_alike_72 : decode (qMc M_X12_alike) 72 = .ok (.iconst 0, 1) := by decide +kernel
theorem d_X12_alike_73 : decode (qMc M_X12_alike) 73 = .ok (.invokestatic 329, 3) := by decide +kernel
theorem d_X12_alike_76 : decode (qMc M_X12_alike) 76 = .ok (.iconst 1, 1) := by decide +kernel
theorem d_X12_alike_77 : decode (qMc M_X12_alike) 77 = .ok (.istore 4, 2) := by decide +kernel
theorem d_X12_alike_79 : decode (qMc M_X12_alike) 79 = .ok (.iload 4, 2) := by decide +kernel
theorem d_X12_alike_81 : decode (qMc M_X12_alike) 81 = .ok (.iload_n 3, 1) := by decide +kernel
theorem d_X12_alike_82 : decode (qMc M_X12_alike) 82 = .ok (.invokestatic 333, 3) := by decide +kernel
theorem d_X12_alike_85 : decode (qMc M_X12_alike) 85 = .ok (.if_icmp .gt 103, 3) := by decide +kernel
theorem d_X12_alike_88 : decode (qMc M_X12_alike) 88 = .ok (.aload_n 0, 1) := by decide +kernel
theorem d_X12_alike_89 : decode (qMc M_X12_alike) 89 = .ok (.getfield 95, 3) := by decide +kernel
theorem d_X12_alike_92 : decode (qMc M_X12_alike) 92 = .ok (.iload_n 3, 1) := by decide +kernel
theorem d_X12_alike_93 : decode (qMc M_X12_alike) 93 = .ok (.invokestatic 302, 3) := by decide +kernel
theorem d_X12_alike_96 : decode (qMc M_X12_alike) 96 = .ok (.ifCond .ne 92, 3) := by decide +kernel
theorem d_X12_alike_99 : decode (qMc M_X12_alike) 99 = .ok (.aload_n 0, 1) := by decide +kernel
theorem d_X12_alike_100 : decode (qMc M_X12_alike) 100 = .ok (.aload_n 0, 1) := by decide +kernel
theorem d_X12_alike_101 : decode (qMc M_X12_alike) 101 = .ok (.getfield 95, 3) := by decide +kernel
theorem d_X12_alike_104 : decode (qMc M_X12_alike) 104 = .ok (.iload_n 3, 1) := by decide +kernel
theorem d_X12_alike_105 : decode (qMc M_X12_alike) 105 = .ok (.iconst 0, 1) := by decide +kernel
theorem d_X12_alike_106 : decode (qMc M_X12_alike) 106 = .ok (.iconst (-1), 1) := by decide +kernel
theorem d_X12_alike_107 : decode (qMc M_X12_alike) 107 = .ok (.aload_n 0, 1) := by decide +kernel
theorem d_X12_alike_108 : decode (qMc M_X12_alike) 108 = .ok (.getfield 86, 3) := by decide +kernel
theorem d_X12_alike_111 : decode (qMc M_X12_alike) 111 = .ok (.invokevirtual 336, 3) := by decide +kernel
theorem d_X12_alike_114 : decode (qMc M_X12_alike) 114 = .ok (.aload_n 0, 1) := by decide +kernel
theorem d_X12_alike_115 : decode (qMc M_X12_alike) 115 = .ok (.aload_n 0, 1) := by decide +kernel
theorem d_X12_alike_116 : decode (qMc M_X12_alike) 116 = .ok (.getfield 101, 3) := by decide +kernel
theorem d_X12_alike_119 : decode (qMc M_X12_alike) 119 = .ok (.iload_n 3, 1) := by decide +kernel
theorem d_X12_alike_120 : decode (qMc M_X12_alike) 120 = .ok (.iconst 0, 1) := by decide +kernel
theorem d_X12_alike_121 : decode (qMc M_X12_alike) 121 = .ok (.iconst (-1), 1) := by decide +kernel
theorem d_X12_alike_122 : decode (qMc M_X12_alike) 122 = .ok (.aload_n 0, 1) := by decide +kernel
theorem d_X12_alike_123 : decode (qMc M_X12_alike) 123 = .ok (.getfield 92, 3) := by decide +kernel
theorem d_X12_alike_126 : decode (qMc M_X12_alike) 126 = .ok (.invokevirtual 336, 3) := by decide +kernel
theorem d_X12_alike_129 : decode (qMc M_X12_alike) 129 = .ok (.iconst 0, 1) := by decide +kernel
theorem d_X12_alike_130 : decode (qMc M_X12_alike) 130 = .ok (.istore 5, 2) := by decide +kernel
theorem d_X12_alike_132 : decode (qMc M_X12_alike) 132 = .ok (.iload 5, 2) := by decide +kernel
theorem d_X12_alike_134 : decode (qMc M_X12_alike) 134 = .ok (.iload_n 3, 1) := by decide +kernel
theorem d_X12_alike_135 : decode (qMc M_X12_alike) 135 = .ok (.if_icmp .ge 47, 3) := by decide +kernel
theorem d_X12_alike_138 : decode (qMc M_X12_alike) 138 = .ok (.aload_n 0, 1) := by decide +kernel
theorem d_X12_alike_139 : decode (qMc M_X12_alike) 139 = .ok (.getfield 95, 3) := by decide +kernel
theorem d_X12_alike_142 : decode (qMc M_X12_alike) 142 = .ok (.iload 5, 2) := by decide +kernel
theorem d_X12_alike_144 : decode (qMc M_X12_alike) 144 = .ok (.iaload, 1) := by decide +kernel
theorem d_X12_alike_145 : decode (qMc M_X12_alike) 145 = .ok (.aload_n 0, 1) := by decide +kernel
theorem d_X12_alike_146 : decode (qMc M_X12_alike) 146 = .ok (.getfield 101, 3) := by decide +kernel
theorem d_X12_alike_149 : decode (qMc M_X12_alike) 149 = .ok (.iload 5, 2) := by decide +kernel
theorem d_X12_alike_151 : decode (qMc M_X12_alike) 151 = .ok (.iaload, 1) := by decide +kernel
theorem d_X12_alike_152 : decode (qMc M_X12_alike) 152 = .ok (.if_icmp .eq 24, 3) := by decide +kernel
theorem d_X12_alike_155 : decode (qMc M_X12_alike) 155 = .ok (.iload_n 2, 1) := by decide +kernel
theorem d_X12_alike_156 : decode (qMc M_X12_alike) 156 = .ok (.ifCond .ne 7, 3) := by decide +kernel
theorem d_X12_alike_159 : decode (qMc M_X12_alike) 159 = .ok (.iload_n 3, 1) := by decide +kernel
theorem d_X12_alike_160 : decode (qMc M_X12_alike) 160 = .ok (.goto 15, 3) := by decide +kernel
theorem d_X12_alike_163 : decode (qMc M_X12_alike) 163 = .ok (.iload_n 2, 1) := by decide +kernel
theorem d_X12_alike_164 : decode (qMc M_X12_alike) 164 = .ok (.iconst 1, 1) := by decide +kernel
theorem d_X12_alike_165 : decode (qMc M_X12_alike) 165 = .ok (.if_icmp .ne 8, 3) := by decide +kernel
theorem d_X12_alike_168 : decode (qMc M_X12_alike) 168 = .ok (.iload 4, 2) := by decide +kernel
theorem d_X12_alike_170 : decode (qMc M_X12_alike) 170 = .ok (.goto 5, 3) := by decide +kernel
theorem d_X12_alike_173 : decode (qMc M_X12_alike) 173 = .ok (.iload 5, 2) := by decide +kernel
theorem d_X12_alike_175 : decode (qMc M_X12_alike) 175 = .ok (.ireturn, 1) := by decide +kernel
theorem d_X12_alike_176 : decode (qMc M_X12_alike) 176 = .ok (.iinc 5 1, 3) := by decide +kernel
theorem d_X12_alike_179 : decode (qMc M_X12_alike) 179 = .ok (.goto (-47), 3) := by decide +kernel
theorem d_X12_alike_182 : decode (qMc M_X12_alike) 182 = .ok (.iinc 4 1, 3) := by decide +kernel
theorem d_X12_alike_185 : decode (qMc M_X12_alike) 185 = .ok (.goto (-106), 3) := by decide +kernel
theorem d_X12_alike_188 : decode (qMc M_X12_alike) 188 = .ok (.iinc 3 1, 3) := by decide +kernel
theorem d_X12_alike_191 : decode (qMc M_X12_alike) 191 = .ok (.goto (-138), 3) := by decide +kernel
theorem d_X12_alike_194 : decode (qMc M_X12_alike) 194 = .ok (.iconst (-1), 1) := by decide +kernel
theorem d_X12_alike_195 : decode (qMc M_X12_alike) 195 = .ok (.ireturn, 1) := by decide +kernel
theorem d_X12_picture_0 : decode (qMc M_X12_picture) 0 = .ok (.aload_n 0, 1) := by decide +kernel
theorem d_X12_picture_1 : decode (qMc M_X12_picture) 1 = .ok (.iconst 0, 1) := by decide +kernel
theorem d_X12_picture_2 : decode (qMc M_X12_picture) 2 = .ok (.putfield 127, 3) := by decide +kernel
theorem d_X12_picture_5 : decode (qMc M_X12_picture) 5 = .ok (.iload_n 1, 1) := by decide +kernel
theorem d_X12_picture_6 : decode (qMc M_X12_picture) 6 = .ok (.iload_n 2, 1) := by decide +kernel
theorem d_X12_picture_7 : decode (qMc M_X12_picture) 7 = .ok (.invokestatic 347, 3) := by decide +kernel
theorem d_X12_picture_10 : decode (qMc M_X12_picture) 10 = .ok (.ifCond .eq 25, 3) := by decide +kernel
theorem d_X12_picture_13 : decode (qMc M_X12_picture) 13 = .ok (.iload_n 3, 1) := by decide +kernel
theorem d_X12_picture_14 : decode (qMc M_X12_picture) 14 = .ok (.iconst 0, 1) := by decide +kernel
theorem d_X12_picture_15 : decode (qMc M_X12_picture) 15 = .ok (.bipush 116, 2) := by decide +kernel
theorem d_X12_picture_17 : decode (qMc M_X12_picture) 17 = .ok (.invokestatic 137, 3) := by decide +kernel
theorem d_X12_picture_20 : decode (qMc M_X12_picture) 20 = .ok (.ifCond .eq 15, 3) := by decide +kernel
theorem d_X12_picture_23 : decode (qMc M_X12_picture) 23 = .ok (.iload 4, 2) := by decide +kernel
theorem d_X12_picture_25 : decode (qMc M_X12_picture) 25 = .ok (.iconst 0, 1) := by decide +kernel
theorem d_X12_picture_26 : decode (qMc M_X12_picture) 26 = .ok (.iload_n 1, 1) := by decide +kernel
theorem d_X12_picture_27 : decode (qMc M_X12_picture) 27 = .ok (.iconst 1, 1) := by decide +kernel
theorem d_X12_picture_28 : decode (qMc M_X12_picture) 28 = .ok (.isub, 1) := by decide +kernel
theorem d_X12_picture_29 : decode (qMc M_X12_picture) 29 = .ok (.invokestatic 137, 3) := by decide +kernel
theorem d_X12_picture_32 : decode (qMc M_X12_picture) 32 = .ok (.ifCond .ne 5, 3) := by decide +kernel
theorem d_X12_picture_35 : decode (qMc M_X12_picture) 35 = .ok (.iconst (-1), 1) := by decide +kernel
theorem d_X12_picture_36 : decode (qMc M_X12_picture) 36 = .ok (.ireturn, 1) := by decide +kernel
theorem d_X12_picture_37 : decode (qMc M_X12_picture) 37 = .ok (.aload_n 0, 1) := by decide +kernel
theorem d_X12_picture_38 : decode (qMc M_X12_picture) 38 = .ok (.invokevirtual 275, 3) := by decide +kernel
theorem d_X12_picture_41 : decode (qMc M_X12_picture) 41 = .ok (.aload_n 0, 1) := by decide +kernel
theorem d_X12_picture_42 : decode (qMc M_X12_picture) 42 = .ok (.getfield 95, 3) := by decide +kernel
theorem d_X12_picture_45 : decode (qMc M_X12_picture) 45 = .ok (.iload_n 1, 1) := by decide +kernel
theorem d_X12_picture_46 : decode (qMc M_X12_picture) 46 = .ok (.iload_n 2, 1) := by decide +kernel
theorem d_X12_picture_47 : decode (qMc M_X12_picture) 47 = .ok (.invokestatic 329, 3) := by decide +kernel
theorem d_X12_picture_50 : decode (qMc M_X12_picture) 50 = .ok (.iconst 0, 1) := by decide +kernel
theorem d_X12_picture_51 : decode (qMc M_X12_picture) 51 = .ok (.istore 5, 2) := by decide +kernel
theorem d_X12_picture_53 : decode (qMc M_X12_picture) 53 = .ok (.iload 5, 2) := by decide +kernel
theorem d_X12_picture_55 : decode (qMc M_X12_picture) 55 = .ok (.iload_n 3, 1) := by decide +kernel
theorem d_X12_picture_56 : decode (qMc M_X12_picture) 56 = .ok (.if_icmp .ge 44, 3) := by decide +kernel
theorem d_X12_picture_59 : decode (qMc M_X12_picture) 59 = .ok (.iload 5, 2) := by decide +kernel
theorem d_X12_picture_61 : decode (qMc M_X12_picture) 61 = .ok (.iload_n 1, 1) := by decide +kernel
theorem d_X12_picture_62 : decode (qMc M_X12_picture) 62 = .ok (.invokestatic 333, 3) := by decide +kernel
theorem d_X12_picture_65 : decode (qMc M_X12_picture) 65 = .ok (.if_icmp .ge 35, 3) := by decide +kernel
theorem d_X12_picture_68 : decode (qMc M_X12_picture) 68 = .ok (.aload_n 0, 1) := by decide +kernel
theorem d_X12_picture_69 : decode (qMc M_X12_picture) 69 = .ok (.getfield 95, 3) := by decide +kernel
theorem d_X12_picture_72 : decode (qMc M_X12_picture) 72 = .ok (.iload_n 1, 1) := by decide +kernel
theorem d_X12_picture_73 : decode (qMc M_X12_picture) 73 = .ok (.invokestatic 302, 3) := by decide +kernel
theorem d_X12_picture_76 : decode (qMc M_X12_picture) 76 = .ok (.ifCond .ne 24, 3) := by decide +kernel
theorem d_X12_picture_79 : decode (qMc M_X12_picture) 79 = .ok (.aload_n 0, 1) := by decide +kernel
theorem d_X12_picture_80 : decode (qMc M_X12_picture) 80 = .ok (.aload_n 0, 1) := by decide +kernel
theorem d_X12_picture_81 : decode (qMc M_X12_picture) 81 = .ok (.getfield 95, 3) := by decide +kernel
theorem d_X12_picture_84 : decode (qMc M_X12_picture) 84 = .ok (.iload_n 1, 1) := by decide +kernel
theorem d_X12_picture_85 : decode (qMc M_X12_picture) 85 = .ok (.iconst 0, 1) := by decide +kernel
theorem d_X12_picture_86 : decode (qMc M_X12_picture) 86 = .ok (.iconst (-1), 1) := by decide +kernel
theorem d_X12_picture_87 : decode (qMc M_X12_picture) 87 = .ok (.aload_n 0, 1) := by decide +kernel
theorem d_X12_picture_88 : decode (qMc M_X12_picture) 88 = .ok (.getfield 86, 3) := by decide +kernel
theorem d_X12_picture_91 : decode (qMc M_X12_picture) 91 = .ok (.invokevirtual 336, 3) := by decide +kernel
theorem d_X12_picture_94 : decode (qMc M_X12_picture) 94 = .ok (.iinc 5 1, 3) := by decide +kernel
theorem d_X12_picture_97 : decode (qMc M_X12_picture) 97 = .ok (.goto (-44), 3) := by decide +kernel
theorem d_X12_picture_100 : decode (qMc M_X12_picture) 100 = .ok (.aload_n 0, 1) := by decide +kernel
theorem d_X12_picture_101 : decode (qMc M_X12_picture) 101 = .ok (.getfield 95, 3) := by decide +kernel
theorem d_X12_picture_104 : decode (qMc M_X12_picture) 104 = .ok (.iload 4, 2) := by decide +kernel
theorem d_X12_picture_106 : decode (qMc M_X12_picture) 106 = .ok (.iaload, 1) := by decide +kernel
theorem d_X12_picture_107 : decode (qMc M_X12_picture) 107 = .ok (.ireturn, 1) := by decide +kernel
theorem d_X12_mark_0 : decode (qMc M_X12_mark) 0 = .ok (.aload_n 0, 1) := by decide +kernel
theorem d_X12_mark_1 : decode (qMc M_X12_mark) 1 = .ok (.iconst 0, 1) := by decide +kernel
theorem d_X12_mark_2 : decode (qMc M_X12_mark) 2 = .ok (.putfield 127, 3) := by decide +kernel
theorem d_X12_mark_5 : decode (qMc M_X12_mark) 5 = .ok (.iload_n 1, 1) := by decide +kernel
theorem d_X12_mark_6 : decode (qMc M_X12_mark) 6 = .ok (.iload_n 2, 1) := by decide +kernel
theorem d_X12_mark_7 : decode (qMc M_X12_mark) 7 = .ok (.invokestatic 347, 3) := by decide +kernel
theorem d_X12_mark_10 : decode (qMc M_X12_mark) 10 = .ok (.ifCond .eq 25, 3) := by decide +kernel
theorem d_X12_mark_13 : decode (qMc M_X12_mark) 13 = .ok (.iload_n 3, 1) := by decide +kernel
theorem d_X12_mark_14 : decode (qMc M_X12_mark) 14 = .ok (.iconst 0, 1) := by decide +kernel
theorem d_X12_mark_15 : decode (qMc M_X12_mark) 15 = .ok (.bipush 7, 2) := by decide +kernel
theorem d_X12_mark_17 : decode (qMc M_X12_mark) 17 = .ok (.invokestatic 137, 3) := by decide +kernel
theorem d_X12_mark_20 : decode (qMc M_X12_mark) 20 = .ok (.ifCond .eq 15, 3) := by decide +kernel
theorem d_X12_mark_23 : decode (qMc M_X12_mark) 23 = .ok (.iload 4, 2) := by decide +kernel
theorem d_X12_mark_25 : decode (qMc M_X12_mark) 25 = .ok (.iconst 0, 1) := by decide +kernel
theorem d_X12_mark_26 : decode (qMc M_X12_mark) 26 = .ok (.iload_n 1, 1) := by decide +kernel
theorem d_X12_mark_27 : decode (qMc M_X12_mark) 27 = .ok (.iconst 1, 1) := by decide +kernel
theorem d_X12_mark_28 : decode (qMc M_X12_mark) 28 = .ok (.isub, 1) := by decide +kernel
theorem d_X12_mark_29 : decode (qMc M_X12_mark) 29 = .ok (.invokestatic 137, 3) := by decide +kernel
theorem d_X12_mark_32 : decode (qMc M_X12_mark) 32 = .ok (.ifCond .ne 5, 3) := by decide +kernel
theorem d_X12_mark_35 : decode (qMc M_X12_mark) 35 = .ok (.iconst (-1), 1) := by decide +kernel
theorem d_X12_mark_36 : decode (qMc M_X12_mark) 36 = .ok (.ireturn, 1) := by decide +kernel
theorem d_X12_mark_37 : decode (qMc M_X12_mark) 37 = .ok (.aload_n 0, 1) := by decide +kernel
theorem d_X12_mark_38 : decode (qMc M_X12_mark) 38 = .ok (.invokevirtual 275, 3) := by decide +kernel
theorem d_X12_mark_41 : decode (qMc M_X12_mark) 41 = .ok (.aload_n 0, 1) := by decide +kernel
theorem d_X12_mark_42 : decode (qMc M_X12_mark) 42 = .ok (.getfield 95, 3) := by decide +kernel
theorem d_X12_mark_45 : decode (qMc M_X12_mark) 45 = .ok (.iload_n 1, 1) := by decide +kernel
theorem d_X12_mark_46 : decode (qMc M_X12_mark) 46 = .ok (.iload_n 2, 1) := by decide +kernel
theorem d_X12_mark_47 : decode (qMc M_X12_mark) 47 = .ok (.invokestatic 329, 3) := by decide +kernel
theorem d_X12_mark_50 : decode (qMc M_X12_mark) 50 = .ok (.iconst 0, 1) := by decide +kernel
theorem d_X12_mark_51 : decode (qMc M_X12_mark) 51 = .ok (.istore 5, 2) := by decide +kernel
theorem d_X12_mark_53 : decode (qMc M_X12_mark) 53 = .ok (.iload 5, 2) := by decide +kernel
theorem d_X12_mark_55 : decode (qMc M_X12_mark) 55 = .ok (.iload_n 1, 1) := by decide +kernel
theorem d_X12_mark_56 : decode (qMc M_X12_mark) 56 = .ok (.invokestatic 333, 3) := by decide +kernel
theorem d_X12_mark_59 : decode (qMc M_X12_mark) 59 = .ok (.if_icmp .gt 51, 3) := by decide +kernel
theorem d_X12_mark_62 : decode (qMc M_X12_mark) 62 = .ok (.aload_n 0, 1) := by decide +kernel
theorem d_X12_mark_63 : decode (qMc M_X12_mark) 63 = .ok (.getfield 95, 3) := by decide +kernel
theorem d_X12_mark_66 : decode (qMc M_X12_mark) 66 = .ok (.iload 4, 2) := by decide +kernel
theorem d_X12_mark_68 : decode (qMc M_X12_mark) 68 = .ok (.iaload, 1) := by decide +kernel
theorem d_X12_mark_69 : decode (qMc M_X12_mark) 69 = .ok (.iload_n 3, 1) := by decide +kernel
theorem d_X12_mark_70 : decode (qMc M_X12_mark) 70 = .ok (.if_icmp .ne 6, 3) := by decide +kernel
theorem d_X12_mark_73 : decode (qMc M_X12_mark) 73 = .ok (.iload 5, 2) := by decide +kernel
theorem d_X12_mark_75 : decode (qMc M_X12_mark) 75 = .ok (.ireturn, 1) := by decide +kernel
theorem d_X12_mark_76 : decode (qMc M_X12_mark) 76 = .ok (.aload_n 0, 1) := by decide +kernel
theorem d_X12_mark_77 : decode (qMc M_X12_mark) 77 = .ok (.getfield 95, 3) := by decide +kernel
theorem d_X12_mark_80 : decode (qMc M_X12_mark) 80 = .ok (.iload_n 1, 1) := by decide +kernel
theorem d_X12_mark_81 : decode (qMc M_X12_mark) 81 = .ok (.invokestatic 302, 3) := by decide +kernel
theorem d_X12_mark_84 : decode (qMc M_X12_mark) 84 = .ok (.ifCond .le 5, 3) := by decide +kernel
theorem d_X12_mark_87 : decode (qMc M_X12_mark) 87 = .ok (.iconst (-1), 1) := by decide +kernel
theorem d_X12_mark_88 : decode (qMc M_X12_mark) 88 = .ok (.ireturn, 1) := by decide +kernel
theorem d_X12_mark_89 : decode (qMc M_X12_mark) 89 = .ok (.aload_n 0, 1) := by decide +kernel
theorem d_X12_mark_90 : decode (qMc M_X12_mark) 90 = .ok (.aload_n 0, 1) := by decide +kernel
theorem d_X12_mark_91 : decode (qMc M_X12_mark) 91 = .ok (.getfield 95, 3) := by decide +kernel
theorem d_X12_mark_94 : decode (qMc M_X12_mark) 94 = .ok (.iload_n 1, 1) := by decide +kernel
theorem d_X12_mark_95 : decode (qMc M_X12_mark) 95 = .ok (.iconst 0, 1) := by decide +kernel
theorem d_X12_mark_96 : decode (qMc M_X12_mark) 96 = .ok (.iconst (-1), 1) := by decide +kernel
theorem d_X12_mark_97 : decode (qMc M_X12_mark) 97 = .ok (.aload_n 0, 1) := by decide +kernel
theorem d_X12_mark_98 : decode (qMc M_X12_mark) 98 = .ok (.getfield 86, 3) := by decide +kernel
theorem d_X12_mark_101 : decode (qMc M_X12_mark) 101 = .ok (.invokevirtual 336, 3) := by decide +kernel
theorem d_X12_mark_104 : decode (qMc M_X12_mark) 104 = .ok (.iinc 5 1, 3) := by decide +kernel
theorem d_X12_mark_107 : decode (qMc M_X12_mark) 107 = .ok (.goto (-54), 3) := by decide +kernel
theorem d_X12_mark_110 : decode (qMc M_X12_mark) 110 = .ok (.iconst (-1), 1) := by decide +kernel
theorem d_X12_mark_111 : decode (qMc M_X12_mark) 111 = .ok (.ireturn, 1) := by decide +kernel
theorem d_X12_before_0 : decode (qMc M_X12_before) 0 = .ok (.aload_n 0, 1) := by decide +kernel
theorem d_X12_before_1 : decode (qMc M_X12_before) 1 = .ok (.iconst 0, 1) := by decide +kernel
theorem d_X12_before_2 : decode (qMc M_X12_before) 2 = .ok (.putfield 127, 3) := by decide +kernel
theorem d_X12_before_5 : decode (qMc M_X12_before) 5 = .ok (.aload_n 0, 1) := by decide +kernel
theorem d_X12_before_6 : decode (qMc M_X12_before) 6 = .ok (.getfield 44, 3) := by decide +kernel
theorem d_X12_before_9 : decode (qMc M_X12_before) 9 = .ok (.sipush 160, 3) := by decide +kernel
theorem d_X12_before_12 : decode (qMc M_X12_before) 12 = .ok (.iaload, 1) := by decide +kernel
theorem d_X12_before_13 : decode (qMc M_X12_before) 13 = .ok (.istore_n 1, 1) := by decide +kernel
theorem d_X12_before_14 : decode (qMc M_X12_before) 14 = .ok (.iload_n 1, 1) := by decide +kernel
theorem d_X12_before_15 : decode (qMc M_X12_before) 15 = .ok (.ifCond .ne 5, 3) := by decide +kernel
theorem d_X12_before_18 : decode (qMc M_X12_before) 18 = .ok (.iconst (-1), 1) := by decide +kernel
theorem d_X12_before_19 : decode (qMc M_X12_before) 19 = .ok (.ireturn, 1) := by decide +kernel
theorem d_X12_before_20 : decode (qMc M_X12_before) 20 = .ok (.aload_n 0, 1) := by decide +kernel
theorem d_X12_before_21 : decode (qMc M_X12_before) 21 = .ok (.invokevirtual 275, 3) := by decide +kernel
theorem d_X12_before_24 : decode (qMc M_X12_before) 24 = .ok (.iconst 0, 1) := by decide +kernel
theorem d_X12_before_25 : decode (qMc M_X12_before) 25 = .ok (.istore_n 2, 1) := by decide +kernel
theorem d_X12_before_26 : decode (qMc M_X12_before) 26 = .ok (.iload_n 2, 1) := by decide +kernel
theorem d_X12_before_27 : decode (qMc M_X12_before) 27 = .ok (.bipush 81, 2) := by decide +kernel
theorem d_X12_before_29 : decode (qMc M_X12_before) 29 = .ok (.if_icmp .ge 38, 3) := by decide +kernel
theorem d_X12_before_32 : decode (qMc M_X12_before) 32 = .ok (.aload_n 0, 1) := by decide +kernel
theorem d_X12_before_33 : decode (qMc M_X12_before) 33 = .ok (.getfield 108, 3) := by decide +kernel
theorem d_X12_before_36 : decode (qMc M_X12_before) 36 = .ok (.iload_n 2, 1) := by decide +kernel
theorem d_X12_before_37 : decode (qMc M_X12_before) 37 = .ok (.iload_n 2, 1) := by decide +kernel
theorem d_X12_before_38 : decode (qMc M_X12_before) 38 = .ok (.bipush 9, 2) := by decide +kernel
theorem d_X12_before_40 : decode (qMc M_X12_before) 40 = .ok (.idiv, 1) := by decide +kernel
theorem d_X12_before_41 : decode (qMc M_X12_before) 41 = .ok (.bipush 8, 2) := by decide +kernel
theorem d_X12_before_43 : decode (qMc M_X12_before) 43 = .ok (.if_icmp .ne 16, 3) := by decide +kernel
theorem d_X12_before_46 : decode (qMc M_X12_before) 46 = .ok (.iload_n 2, 1) := by decide +kernel
theorem d_X12_before_47 : decode (qMc M_X12_before) 47 = .ok (.bipush 9, 2) := by decide +kernel
theorem d_X12_before_49 : decode (qMc M_X12_before) 49 = .ok (.irem, 1) := by decide +kernel
theorem d_X12_before_50 : decode (qMc M_X12_before) 50 = .ok (.bipush 8, 2) := by decide +kernel
theorem d_X12_before_52 : decode (qMc M_X12_before) 52 = .ok (.if_icmp .eq 7, 3) := by decide +kernel
theorem d_X12_before_55 : decode (qMc M_X12_before) 55 = .ok (.lconst 1, 1) := by decide +kernel
theorem d_X12_before_56 : decode (qMc M_X12_before) 56 = .ok (.goto 4, 3) := by decide +kernel
theorem d_X12_before_59 : decode (qMc M_X12_before) 59 = .ok (.lconst 0, 1) := by decide +kernel
theorem d_X12_before_60 : decode (qMc M_X12_before) 60 = .ok (.lastore, 1) := by decide +kernel
theorem d_X12_before_61 : decode (qMc M_X12_before) 61 = .ok (.iinc 2 1, 3) := by decide +kernel
theorem d_X12_before_64 : decode (qMc M_X12_before) 64 = .ok (.goto (-38), 3) := by decide +kernel
theorem d_X12_before_67 : decode (qMc M_X12_before) 67 = .ok (.iconst 0, 1) := by decide +kernel
theorem d_X12_before_68 : decode (qMc M_X12_before) 68 = .ok (.istore_n 2, 1) := by decide +kernel
theorem d_X12_before_69 : decode (qMc M_X12_before) 69 = .ok (.iload_n 2, 1) := by decide +kernel
theorem d_X12_before_70 : decode (qMc M_X12_before) 70 = .ok (.iload_n 1, 1) := by decide +kernel
theorem d_X12_before_71 : decode (qMc M_X12_before) 71 = .ok (.if_icmp .ge 208, 3) := by decide +kernel
theorem d_X12_before_74 : decode (qMc M_X12_before) 74 = .ok (.iconst 0, 1) := by decide +kernel
theorem d_X12_before_75 : decode (qMc M_X12_before) 75 = .ok (.istore_n 3, 1) := by decide +kernel
theorem d_X12_before_76 : decode (qMc M_X12_before) 76 = .ok (.iload_n 3, 1) := by decide +kernel
theorem d_X12_before_77 : decode (qMc M_X12_before) 77 = .ok (.bipush 81, 2) := by decide +kernel
theorem d_X12_before_79 : decode (qMc M_X12_before) 79 = .ok (.if_icmp .ge 16, 3) := by decide +kernel
theorem d_X12_before_82 : decode (qMc M_X12_before) 82 = .ok (.aload_n 0, 1) := by decide +kernel
theorem d_X12_before_83 : decode (qMc M_X12_before) 83 = .ok (.getfield 112, 3) := by decide +kernel
theorem d_X12_before_86 : decode (qMc M_X12_before) 86 = .ok (.iload_n 3, 1) := by decide +kernel
theorem d_X12_before_87 : decode (qMc M_X12_before) 87 = .ok (.lconst 0, 1) := by decide +kernel
theorem d_X12_before_88 : decode (qMc M_X12_before) 88 = .ok (.lastore, 1) := by decide +kernel
theorem d_X12_before_89 : decode (qMc M_X12_before) 89 = .ok (.iinc 3 1, 3) := by decide +kernel
theorem d_X12_before_92 : decode (qMc M_X12_before) 92 = .ok (.goto (-16), 3) := by decide +kernel
theorem d_X12_before_95 : decode (qMc M_X12_before) 95 = .ok (.iconst 0, 1) := by decide +kernel
theorem d_X12_before_96 : decode (qMc M_X12_before) 96 = .ok (.istore_n 3, 1) := by decide +kernel
theorem d_X12_before_97 : decode (qMc M_X12_before) 97 = .ok (.iload_n 3, 1) := by decide +kernel
theorem d_X12_before_98 : decode (qMc M_X12_before) 98 = .ok (.bipush 81, 2) := by decide +kernel
theorem d_X12_before_100 : decode (qMc M_X12_before) 100 = .ok (.if_icmp .ge 147, 3) := by decide +kernel
theorem d_X12_before_103 : decode (qMc M_X12_before) 103 = .ok (.iload_n 3, 1) := by decide +kernel
theorem d_X12_before_104 : decode (qMc M_X12_before) 104 = .ok (.bipush 9, 2) := by decide +kernel
theorem d_X12_before_106 : decode (qMc M_X12_before) 106 = .ok (.idiv, 1) := by decide +kernel
theorem d_X12_before_107 : decode (qMc M_X12_before) 107 = .ok (.istore 4, 2) := by decide +kernel
theorem d_X12_before_109 : decode (qMc M_X12_before) 109 = .ok (.iload_n 3, 1) := by decide +kernel
theorem d_X12_before_110 : decode (qMc M_X12_before) 110 = .ok (.bipush 9, 2) := by decide +kernel
theorem d_X12_before_112 : decode (qMc M_X12_before) 112 = .ok (.irem, 1) := by decide +kernel
theorem d_X12_before_113 : decode (qMc M_X12_before) 113 = .ok (.istore 5, 2) := by decide +kernel
theorem d_X12_before_115 : decode (qMc M_X12_before) 115 = .ok (.iconst 0, 1) := by decide +kernel
theorem d_X12_before_116 : decode (qMc M_X12_before) 116 = .ok (.istore 6, 2) := by decide +kernel
theorem d_X12_before_118 : decode (qMc M_X12_before) 118 = .ok (.iload 6, 2) := by decide +kernel
theorem d_X12_before_120 : decode (qMc M_X12_before) 120 = .ok (.bipush 9, 2) := by decide +kernel
theorem d_X12_before_122 : decode (qMc M_X12_before) 122 = .ok (.if_icmp .ge 119, 3) := by decide +kernel
theorem d_X12_before_125 : decode (qMc M_X12_before) 125 = .ok (.aload_n 0, 1) := by decide +kernel
theorem d_X12_before_126 : decode (qMc M_X12_before) 126 = .ok (.getfield 108, 3) := by decide +kernel
theorem d_X12_before_129 : decode (qMc M_X12_before) 129 = .ok (.iload_n 3, 1) := by decide +kernel
theorem d_X12_before_130 : decode (qMc M_X12_before) 130 = .ok (.laload, 1) := by decide +kernel
theorem d_X12_before_131 : decode (qMc M_X12_before) 131 = .ok (.lconst 0, 1) := by decide +kernel
theorem d_X12_before_132 : decode (qMc M_X12_before) 132 = .ok (.lcmp, 1) := by decide +kernel
theorem d_X12_before_133 : decode (qMc M_X12_before) 133 = .ok (.ifCond .le 108, 3) := by decide +kernel
theorem d_X12_before_136 : decode (qMc M_X12_before) 136 = .ok (.iload 5, 2) := by decide +kernel
theorem d_X12_before_138 : decode (qMc M_X12_before) 138 = .ok (.bipush 8, 2) := by decide +kernel
theorem d_X12_before_140 : decode (qMc M_X12_before) 140 = .ok (.if_icmp .eq 101, 3) := by decide +kernel
theorem d_X12_before_143 : decode (qMc M_X12_before) 143 = .ok (.iload 6, 2) := by decide +kernel
theorem d_X12_before_145 : decode (qMc M_X12_before) 145 = .ok (.bipush 8, 2) := by decide +kernel
theorem d_X12_before_147 : decode (qMc M_X12_before) 147 = .ok (.if_icmp .ne 7, 3) := by decide +kernel
theorem d_X12_before_150 : decode (qMc M_X12_before) 150 = .ok (.iconst 1, 1) := by decide +kernel
theorem d_X12_before_151 : decode (qMc M_X12_before) 151 = .ok (.goto 4, 3) := by decide +kernel
theorem d_X12_before_154 : decode (qMc M_X12_before) 154 = .ok (.iconst 0, 1) := by decide +kernel
theorem d_X12_before_155 : decode (qMc M_X12_before) 155 = .ok (.iload_n 2, 1) := by decide +kernel
theorem d_X12_before_156 : decode (qMc M_X12_before) 156 = .ok (.iload_n 1, 1) := by decide +kernel
theorem d_X12_before_157 : decode (qMc M_X12_before) 157 = .ok (.iconst 1, 1) := by decide +kernel
theorem d_X12_before_158 : decode (qMc M_X12_before) 158 = .ok (.isub, 1) := by decide +kernel
theorem d_X12_before_159 : decode (qMc M_X12_before) 159 = .ok (.if_icmp .ne 7, 3) := by decide +kernel
theorem d_X12_before_162 : decode (qMc M_X12_before) 162 = .ok (.iconst 1, 1) := by decide +kernel
theorem d_X12_before_163 : decode (qMc M_X12_before) 163 = .ok (.goto 4, 3) := by decide +kernel
theorem d_X12_before_166 : decode (qMc M_X12_before) 166 = .ok (.iconst 0, 1) := by decide +kernel
theorem d_X12_before_167 : decode (qMc M_X12_before) 167 = .ok (.if_icmp .ne 68, 3) := by decide +kernel
theorem d_X12_before_170 : decode (qMc M_X12_before) 170 = .ok (.aload_n 0, 1) := by decide +kernel
theorem d_X12_before_171 : decode (qMc M_X12_before) 171 = .ok (.getfield 86, 3) := by decide +kernel
theorem d_X12_before_174 : decode (qMc M_X12_before) 174 = .ok (.iload 5, 2) := by decide +kernel
theorem d_X12_before_176 : decode (qMc M_X12_before) 176 = .ok (.iload 4, 2) := by decide +kernel
theorem d_X12_before_178 : decode (qMc M_X12_before) 178 = .ok (.iload 6, 2) := by decide +kernel
theorem d_X12_before_180 : decode (qMc M_X12_before) 180 = .ok (.invokestatic 263, 3) := by decide +kernel
theorem d_X12_before_183 : decode (qMc M_X12_before) 183 = .ok (.iaload, 1) := by decide +kernel
theorem d_X12_before_184 : decode (qMc M_X12_before) 184 = .ok (.aload_n 0, 1) := by decide +kernel
theorem d_X12_before_185 : decode (qMc M_X12_before) 185 = .ok (.getfield 44, 3) := by decide +kernel
theorem d_X12_before_188 : decode (qMc M_X12_before) 188 = .ok (.iconst 0, 1) := by decide +kernel
theorem d_X12_before_189 : decode (qMc M_X12_before) 189 = .ok (.iload_n 2, 1) := by decide +kernel
theorem d_X12_before_190 : decode (qMc M_X12_before) 190 = .ok (.iadd, 1) := by decide +kernel
theorem d_X12_before_191 : decode (qMc M_X12_before) 191 = .ok (.iaload, 1) := by decide +kernel
theorem d_X12_before_192 : decode (qMc M_X12_before) 192 = .ok (.if_icmp .eq 6, 3) := by decide +kernel
theorem d_X12_before_195 : decode (qMc M_X12_before) 195 = .ok (.goto 40, 3) := by decide +kernel
theorem d_X12_before_198 : decode (qMc M_X12_before) 198 = .ok (.aload_n 0, 1) := by decide +kernel
theorem d_X12_before_199 : decode (qMc M_X12_before) 199 = .ok (.getfield 112, 3) := by decide +kernel
theorem d_X12_before_202 : decode (qMc M_X12_before) 202 = .ok (.bipush 9, 2) := by decide +kernel
theorem d_X12_before_204 : decode (qMc M_X12_before) 204 = .ok (.iload 5, 2) := by decide +kernel
theorem d_X12_before_206 : decode (qMc M_X12_before) 206 = .ok (.imul, 1) := by decide +kernel
theorem d_X12_before_207 : decode (qMc M_X12_before) 207 = .ok (.iload 6, 2) := by decide +kernel
theorem d_X12_before_209 : decode (qMc M_X12_before) 209 = .ok (.iadd, 1) := by decide +kernel
theorem d_X12_before_210 : decode (qMc M_X12_before) 210 = .ok (.aload_n 0, 1) := by decide +kernel
theorem d_X12_before_211 : decode (qMc M_X12_before) 211 = .ok (.getfield 112, 3) := by decide +kernel
theorem d_X12_before_214 : decode (qMc M_X12_before) 214 = .ok (.bipush 9, 2) := by decide +kernel
theorem d_X12_before_216 : decode (qMc M_X12_before) 216 = .ok (.iload 5, 2) := by decide +kernel
theorem d_X12_before_218 : decode (qMc M_X12_before) 218 = .ok (.imul, 1) := by decide +kernel
theorem d_X12_before_219 : decode (qMc M_X12_before) 219 = .ok (.iload 6, 2) := by decide +kernel
theorem d_X12_before_221 : decode (qMc M_X12_before) 221 = .ok (.iadd, 1) := by decide +kernel
theorem d_X12_before_222 : decode (qMc M_X12_before) 222 = .ok (.laload, 1) := by decide +kernel
theorem d_X12_before_223 : decode (qMc M_X12_before) 223 = .ok (.aload_n 0, 1) := by decide +kernel
theorem d_X12_before_224 : decode (qMc M_X12_before) 224 = .ok (.getfield 108, 3) := by decide +kernel
theorem d_X12_before_227 : decode (qMc M_X12_before) 227 = .ok (.iload_n 3, 1) := by decide +kernel
theorem d_X12_before_228 : decode (qMc M_X12_before) 228 = .ok (.laload, 1) := by decide +kernel
theorem d_X12_before_229 : decode (qMc M_X12_before) 229 = .ok (.ladd, 1) := by decide +kernel
theorem d_X12_before_230 : decode (qMc M_X12_before) 230 = .ok (.ldc2_w 381, 3) := by decide +kernel
theorem d_X12_before_233 : decode (qMc M_X12_before) 233 = .ok (.lrem, 1) := by decide +kernel
theorem d_X12_before_234 : decode (qMc M_X12_before) 234 = .ok (.lastore, 1) := by decide +kernel
theorem d_X12_before_235 : decode (qMc M_X12_before) 235 = .ok (.iinc 6 1, 3) := by decide +kernel
theorem d_X12_before_238 : decode (qMc M_X12_before) 238 = .ok (.goto (-120), 3) := by decide +kernel
theorem d_X12_before_241 : decode (qMc M_X12_before) 241 = .ok (.iinc 3 1, 3) := by decide +kernel
theorem d_X12_before_244 : decode (qMc M_X12_before) 244 = .ok (.goto (-147), 3) := by decide +kernel
theorem d_X12_before_247 : decode (qMc M_X12_before) 247 = .ok (.iconst 0, 1) := by decide +kernel
theorem d_X12_before_248 : decode (qMc M_X12_before) 248 = .ok (.istore_n 3, 1) := by decide +kernel
theorem d_X12_before_249 : decode (qMc M_X12_before) 249 = .ok (.iload_n 3, 1) := by decide +kernel
theorem d_X12_before_250 : decode (qMc M_X12_before) 250 = .ok (.bipush 81, 2) := by decide +kernel
theorem d_X12_before_252 : decode (qMc M_X12_before) 252 = .ok (.if_icmp .ge 21, 3) := by decide +kernel
theorem d_X12_before_255 : decode (qMc M_X12_before) 255 = .ok (.aload_n 0, 1) := by decide +kernel
theorem d_X12_before_256 : decode (qMc M_X12_before) 256 = .ok (.getfield 108, 3) := by decide +kernel
theorem d_X12_before_259 : decode (qMc M_X12_before) 259 = .ok (.iload_n 3, 1) := by decide +kernel
theorem d_X12_before_260 : decode (qMc M_X12_before) 260 = .ok (.aload_n 0, 1) := by decide +kernel
theorem d_X12_before_261 : decode (qMc M_X12_before) 261 = .ok (.getfield 112, 3) := by decide +kernel
theorem d_X12_before_264 : decode (qMc M_X12_before) 264 = .ok (.iload_n 3, 1) := by decide +kernel
theorem d_X12_before_265 : decode (qMc M_X12_before) 265 = .ok (.laload, 1) := by decide +kernel
theorem d_X12_before_266 : decode (qMc M_X12_before) 266 = .ok (.lastore, 1) := by decide +kernel
theorem d_X12_before_267 : decode (qMc M_X12_before) 267 = .ok (.iinc 3 1, 3) := by decide +kernel
theorem d_X12_before_270 : decode (qMc M_X12_before) 270 = .ok (.goto (-21), 3) := by decide +kernel
theorem d_X12_before_273 : decode (qMc M_X12_before) 273 = .ok (.iinc 2 1, 3) := by decide +kernel
theorem d_X12_before_276 : decode (qMc M_X12_before) 276 = .ok (.goto (-207), 3) := by decide +kernel
theorem d_X12_before_279 : decode (qMc M_X12_before) 279 = .ok (.lconst 0, 1) := by decide +kernel
theorem d_X12_before_280 : decode (qMc M_X12_before) 280 = .ok (.lstore_n 2, 1) := by decide +kernel
theorem d_X12_before_281 : decode (qMc M_X12_before) 281 = .ok (.iconst 0, 1) := by decide +kernel
theorem d_X12_before_282 : decode (qMc M_X12_before) 282 = .ok (.istore 4, 2) := by decide +kernel
theorem d_X12_before_284 : decode (qMc M_X12_before) 284 = .ok (.iload 4, 2) := by decide +kernel
theorem d_X12_before_286 : decode (qMc M_X12_before) 286 = .ok (.bipush 8, 2) := by decide +kernel
theorem d_X12_before_288 : decode (qMc M_X12_before) 288 = .ok (.if_icmp .ge 25, 3) := by decide +kernel
theorem d_X12_before_291 : decode (qMc M_X12_before) 291 = .ok (.lload_n 2, 1) := by decide +kernel
theorem d_X12_before_292 : decode (qMc M_X12_before) 292 = .ok (.aload_n 0, 1) := by decide +kernel
theorem d_X12_before_293 : decode (qMc M_X12_before) 293 = .ok (.getfield 108, 3) := by decide +kernel
theorem d_X12_before_296 : decode (qMc M_X12_before) 296 = .ok (.bipush 9, 2) := by decide +kernel
theorem d_X12_before_298 : decode (qMc M_X12_before) 298 = .ok (.iload 4, 2) := by decide +kernel
theorem d_X12_before_300 : decode (qMc M_X12_before) 300 = .ok (.imul, 1) := by decide +kernel
theorem d_X12_before_301 : decode (qMc M_X12_before) 301 = .ok (.bipush 8, 2) := by decide +kernel
theorem d_X12_before_303 : decode (qMc M_X12_before) 303 = .ok (.iadd, 1) := by decide +kernel
theorem d_X12_before_304 : decode (qMc M_X12_before) 304 = .ok (.laload, 1) := by decide +kernel
theorem d_X12_before_305 : decode (qMc M_X12_before) 305 = .ok (.ladd, 1) := by decide +kernel
theorem d_X12_before_306 : decode (qMc M_X12_before) 306 = .ok (.lstore_n 2, 1) := by decide +kernel
theorem d_X12_before_307 : decode (qMc M_X12_before) 307 = .ok (.iinc 4 1, 3) := by decide +kernel
theorem d_X12_before_310 : decode (qMc M_X12_before) 310 = .ok (.goto (-26), 3) := by decide +kernel
theorem d_X12_before_313 : decode (qMc M_X12_before) 313 = .ok (.lload_n 2, 1) := by decide +kernel
theorem d_X12_before_314 : decode (qMc M_X12_before) 314 = .ok (.ldc2_w 381, 3) := by decide +kernel
theorem d_X12_before_317 : decode (qMc M_X12_before) 317 = .ok (.lrem, 1) := by decide +kernel
theorem d_X12_before_318 : decode (qMc M_X12_before) 318 = .ok (.l2i, 1) := by decide +kernel
theorem d_X12_before_319 : decode (qMc M_X12_before) 319 = .ok (.ireturn, 1) := by decide +kernel
theorem d_X12_packs_0 : decode (qMc M_X12_packs) 0 = .ok (.iconst 0, 1) := by decide +kernel
theorem d_X12_packs_1 : decode (qMc M_X12_packs) 1 = .ok (.istore_n 3, 1) := by decide +kernel
theorem d_X12_packs_2 : decode (qMc M_X12_packs) 2 = .ok (.iload_n 3, 1) := by decide +kernel
theorem d_X12_packs_3 : decode (qMc M_X12_packs) 3 = .ok (.iconst 4, 1) := by decide +kernel
theorem d_X12_packs_4 : decode (qMc M_X12_packs) 4 = .ok (.if_icmp .ge 59, 3) := by decide +kernel
theorem d_X12_packs_7 : decode (qMc M_X12_packs) 7 = .ok (.lconst 0, 1) := by decide +kernel
theorem d_X12_packs_8 : decode (qMc M_X12_packs) 8 = .ok (.lstore 4, 2) := by decide +kernel
theorem d_X12_packs_10 : decode (qMc M_X12_packs) 10 = .ok (.iconst 0, 1) := by decide +kernel
theorem d_X12_packs_11 : decode (qMc M_X12_packs) 11 = .ok (.istore 6, 2) := by decide +kernel
theorem d_X12_packs_13 : decode (qMc M_X12_packs) 13 = .ok (.iload 6, 2) := by decide +kernel
theorem d_X12_packs_15 : decode (qMc M_X12_packs) 15 = .ok (.bipush 16, 2) := by decide +kernel
theorem d_X12_packs_17 : decode (qMc M_X12_packs) 17 = .ok (.if_icmp .ge 28, 3) := by decide +kernel
theorem d_X12_packs_20 : decode (qMc M_X12_packs) 20 = .ok (.ldc2_w 383, 3) := by decide +kernel
theorem d_X12_packs_23 : decode (qMc M_X12_packs) 23 = .ok (.lload 4, 2) := by decide +kernel
theorem d_X12_packs_25 : decode (qMc M_X12_packs) 25 = .ok (.lmul, 1) := by decide +kernel
theorem d_X12_packs_26 : decode (qMc M_X12_packs) 26 = .ok (.aload_n 1, 1) := by decide +kernel
theorem d_X12_packs_27 : decode (qMc M_X12_packs) 27 = .ok (.bipush 16, 2) := by decide +kernel
theorem d_X12_packs_29 : decode (qMc M_X12_packs) 29 = .ok (.iload_n 3, 1) := by decide +kernel
theorem d_X12_packs_30 : decode (qMc M_X12_packs) 30 = .ok (.imul, 1) := by decide +kernel
theorem d_X12_packs_31 : decode (qMc M_X12_packs) 31 = .ok (.iload 6, 2) := by decide +kernel
theorem d_X12_packs_33 : decode (qMc M_X12_packs) 33 = .ok (.iadd, 1) := by decide +kernel
theorem d_X12_packs_34 : decode (qMc M_X12_packs) 34 = .ok (.iaload, 1) := by decide +kernel
theorem d_X12_packs_35 : decode (qMc M_X12_packs) 35 = .ok (.i2l, 1) := by decide +kernel
theorem d_X12_packs_36 : decode (qMc M_X12_packs) 36 = .ok (.ladd, 1) := by decide +kernel
theorem d_X12_packs_37 : decode (qMc M_X12_packs) 37 = .ok (.lstore 4, 2) := by decide +kernel
theorem d_X12_packs_39 : decode (qMc M_X12_packs) 39 = .ok (.iinc 6 1, 3) := by decide +kernel
theorem d_X12_packs_42 : decode (qMc M_X12_packs) 42 = .ok (.goto (-29), 3) := by decide +kernel
theorem d_X12_packs_45 : decode (qMc M_X12_packs) 45 = .ok (.aload_n 0, 1) := by decide +kernel
theorem d_X12_packs_46 : decode (qMc M_X12_packs) 46 = .ok (.getfield 115, 3) := by decide +kernel
theorem d_X12_packs_49 : decode (qMc M_X12_packs) 49 = .ok (.iconst 4, 1) := by decide +kernel
theorem d_X12_packs_50 : decode (qMc M_X12_packs) 50 = .ok (.iload_n 2, 1) := by decide +kernel
theorem d_X12_packs_51 : decode (qMc M_X12_packs) 51 = .ok (.imul, 1) := by decide +kernel
theorem d_X12_packs_52 : decode (qMc M_X12_packs) 52 = .ok (.iload_n 3, 1) := by decide +kernel
theorem d_X12_packs_53 : decode (qMc M_X12_packs) 53 = .ok (.iadd, 1) := by decide +kernel
theorem d_X12_packs_54 : decode (qMc M_X12_packs) 54 = .ok (.lload 4, 2) := by decide +kernel
theorem d_X12_packs_56 : decode (qMc M_X12_packs) 56 = .ok (.lastore, 1) := by decide +kernel
theorem d_X12_packs_57 : decode (qMc M_X12_packs) 57 = .ok (.iinc 3 1, 3) := by decide +kernel
theorem d_X12_packs_60 : decode (qMc M_X12_packs) 60 = .ok (.goto (-58), 3) := by decide +kernel
theorem d_X12_packs_63 : decode (qMc M_X12_packs) 63 = .ok (.return_, 1) := by decide +kernel
theorem d_X12_isSame_0 : decode (qMc M_X12_isSame) 0 = .ok (.iconst 0, 1) := by decide +kernel
theorem d_X12_isSame_1 : decode (qMc M_X12_isSame) 1 = .ok (.istore_n 3, 1) := by decide +kernel
theorem d_X12_isSame_2 : decode (qMc M_X12_isSame) 2 = .ok (.iload_n 3, 1) := by decide +kernel
theorem d_X12_isSame_3 : decode (qMc M_X12_isSame) 3 = .ok (.iconst 4, 1) := by decide +kernel
theorem d_X12_isSame_4 : decode (qMc M_X12_isSame) 4 = .ok (.if_icmp .ge 35, 3) := by decide +kernel
theorem d_X12_isSame_7 : decode (qMc M_X12_isSame) 7 = .ok (.aload_n 0, 1) := by decide +kernel
theorem d_X12_isSame_8 : decode (qMc M_X12_isSame) 8 = .ok (.getfield 115, 3) := by decide +kernel
theorem d_X12_isSame_11 : decode (qMc M_X12_isSame) 11 = .ok (.iconst 4, 1) := by decide +kernel
theorem d_X12_isSame_12 : decode (qMc M_X12_isSame) 12 = .ok (.iload_n 1, 1) := by decide +kernel
theorem d_X12_isSame_13 : decode (qMc M_X12_isSame) 13 = .ok (.imul, 1) := by decide +kernel
theorem d_X12_isSame_14 : decode (qMc M_X12_isSame) 14 = .ok (.iload_n 3, 1) := by decide +kernel
theorem d_X12_isSame_15 : decode (qMc M_X12_isSame) 15 = .ok (.iadd, 1) := by decide +kernel
theorem d_X12_isSame_16 : decode (qMc M_X12_isSame) 16 = .ok (.laload, 1) := by decide +kernel
theorem d_X12_isSame_17 : decode (qMc M_X12_isSame) 17 = .ok (.aload_n 0, 1) := by decide +kernel
theorem d_X12_isSame_18 : decode (qMc M_X12_isSame) 18 = .ok (.getfield 115, 3) := by decide +kernel
theorem d_X12_isSame_21 : decode (qMc M_X12_isSame) 21 = .ok (.iconst 4, 1) := by decide +kernel
theorem d_X12_isSame_22 : decode (qMc M_X12_isSame) 22 = .ok (.iload_n 2, 1) := by decide +kernel
theorem d_X12_isSame_23 : decode (qMc M_X12_isSame) 23 = .ok (.imul, 1) := by decide +kernel
theorem d_X12_isSame_24 : decode (qMc M_X12_isSame) 24 = .ok (.iload_n 3, 1) := by decide +kernel
theorem d_X12_isSame_25 : decode (qMc M_X12_isSame) 25 = .ok (.iadd, 1) := by decide +kernel
theorem d_X12_isSame_26 : decode (qMc M_X12_isSame) 26 = .ok (.laload, 1) := by decide +kernel
theorem d_X12_isSame_27 : decode (qMc M_X12_isSame) 27 = .ok (.lcmp, 1) := by decide +kernel
theorem d_X12_isSame_28 : decode (qMc M_X12_isSame) 28 = .ok (.ifCond .eq 5, 3) := by decide +kernel
theorem d_X12_isSame_31 : decode (qMc M_X12_isSame) 31 = .ok (.iconst 0, 1) := by decide +kernel
theorem d_X12_isSame_32 : decode (qMc M_X12_isSame) 32 = .ok (.ireturn, 1) := by decide +kernel
theorem d_X12_isSame_33 : decode (qMc M_X12_isSame) 33 = .ok (.iinc 3 1, 3) := by decide +kernel
theorem d_X12_isSame_36 : decode (qMc M_X12_isSame) 36 = .ok (.goto (-34), 3) := by decide +kernel
theorem d_X12_isSame_39 : decode (qMc M_X12_isSame) 39 = .ok (.iconst 1, 1) := by decide +kernel
theorem d_X12_isSame_40 : decode (qMc M_X12_isSame) 40 = .ok (.ireturn, 1) := by decide +kernel
theorem d_X12_round_0 : decode (qMc M_X12_round) 0 = .ok (.aload_n 0, 1) := by decide +kernel
theorem d_X12_round_1 : decode (qMc M_X12_round) 1 = .ok (.iconst 0, 1) := by decide +kernel
theorem d_X12_round_2 : decode (qMc M_X12_round) 2 = .ok (.putfield 127, 3) := by decide +kernel
theorem d_X12_round_5 : decode (qMc M_X12_round) 5 = .ok (.iload_n 1, 1) := by decide +kernel
theorem d_X12_round_6 : decode (qMc M_X12_round) 6 = .ok (.iconst 0, 1) := by decide +kernel
theorem d_X12_round_7 : decode (qMc M_X12_round) 7 = .ok (.iconst 1, 1) := by decide +kernel
theorem d_X12_round_8 : decode (qMc M_X12_round) 8 = .ok (.invokestatic 137, 3) := by decide +kernel
theorem d_X12_round_11 : decode (qMc M_X12_round) 11 = .ok (.ifCond .ne 5, 3) := by decide +kernel
theorem d_X12_round_14 : decode (qMc M_X12_round) 14 = .ok (.iconst (-1), 1) := by decide +kernel
theorem d_X12_round_15 : decode (qMc M_X12_round) 15 = .ok (.ireturn, 1) := by decide +kernel
theorem d_X12_round_16 : decode (qMc M_X12_round) 16 = .ok (.aload_n 0, 1) := by decide +kernel
theorem d_X12_round_17 : decode (qMc M_X12_round) 17 = .ok (.invokevirtual 275, 3) := by decide +kernel
theorem d_X12_round_20 : decode (qMc M_X12_round) 20 = .ok (.aload_n 0, 1) := by decide +kernel
theorem d_X12_round_21 : decode (qMc M_X12_round) 21 = .ok (.getfield 44, 3) := by decide +kernel
theorem d_X12_round_24 : decode (qMc M_X12_round) 24 = .ok (.aload_n 0, 1) := by decide +kernel
theorem d_X12_round_25 : decode (qMc M_X12_round) 25 = .ok (.getfield 47, 3) := by decide +kernel
theorem d_X12_round_28 : decode (qMc M_X12_round) 28 = .ok (.invokestatic 249, 3) := by decide +kernel
theorem d_X12_round_31 : decode (qMc M_X12_round) 31 = .ok (.aload_n 0, 1) := by decide +kernel
theorem d_X12_round_32 : decode (qMc M_X12_round) 32 = .ok (.aload_n 0, 1) := by decide +kernel
theorem d_X12_round_33 : decode (qMc M_X12_round) 33 = .ok (.getfield 47, 3) := by decide +kernel
theorem d_X12_round_36 : decode (qMc M_X12_round) 36 = .ok (.iconst 0, 1) := by decide +kernel
theorem d_X12_round_37 : decode (qMc M_X12_round) 37 = .ok (.invokevirtual 385, 3) := by decide +kernel
theorem d_X12_round_40 : decode (qMc M_X12_round) 40 = .ok (.iconst 1, 1) := by decide +kernel
theorem d_X12_round_41 : decode (qMc M_X12_round) 41 = .ok (.istore_n 2, 1) := by decide +kernel
theorem d_X12_round_42 : decode (qMc M_X12_round) 42 = .ok (.iload_n 2, 1) := by decide +kernel
theorem d_X12_round_43 : decode (qMc M_X12_round) 43 = .ok (.sipush 2000, 3) := by decide +kernel
theorem d_X12_round_46 : decode (qMc M_X12_round) 46 = .ok (.if_icmp .gt 61, 3) := by decide +kernel
theorem d_X12_round_49 : decode (qMc M_X12_round) 49 = .ok (.aload_n 0, 1) := by decide +kernel
theorem d_X12_round_50 : decode (qMc M_X12_round) 50 = .ok (.aload_n 0, 1) := by decide +kernel
theorem d_X12_round_51 : decode (qMc M_X12_round) 51 = .ok (.getfield 47, 3) := by decide +kernel
theorem d_X12_round_54 : decode (qMc M_X12_round) 54 = .ok (.invokevirtual 299, 3) := by decide +kernel
theorem d_X12_round_57 : decode (qMc M_X12_round) 57 = .ok (.pop, 1) := by decide +kernel
theorem d_X12_round_58 : decode (qMc M_X12_round) 58 = .ok (.aload_n 0, 1) := by decide +kernel
theorem d_X12_round_59 : decode (qMc M_X12_round) 59 = .ok (.aload_n 0, 1) := by decide +kernel
theorem d_X12_round_60 : decode (qMc M_X12_round) 60 = .ok (.getfield 47, 3) := by decide +kernel
theorem d_X12_round_63 : decode (qMc M_X12_round) 63 = .ok (.iload_n 2, 1) := by decide +kernel
theorem d_X12_round_64 : decode (qMc M_X12_round) 64 = .ok (.invokevirtual 385, 3) := by decide +kernel
theorem d_X12_round_67 : decode (qMc M_X12_round) 67 = .ok (.iconst 0, 1) := by decide +kernel
theorem d_X12_round_68 : decode (qMc M_X12_round) 68 = .ok (.istore_n 3, 1) := by decide +kernel
theorem d_X12_round_69 : decode (qMc M_X12_round) 69 = .ok (.iload_n 3, 1) := by decide +kernel
theorem d_X12_round_70 : decode (qMc M_X12_round) 70 = .ok (.iload_n 2, 1) := by decide +kernel
theorem d_X12_round_71 : decode (qMc M_X12_round) 71 = .ok (.if_icmp .ge 30, 3) := by decide +kernel
theorem d_X12_round_74 : decode (qMc M_X12_round) 74 = .ok (.aload_n 0, 1) := by decide +kernel
theorem d_X12_round_75 : decode (qMc M_X12_round) 75 = .ok (.iload_n 3, 1) := by decide +kernel
theorem d_X12_round_76 : decode (qMc M_X12_round) 76 = .ok (.iload_n 2, 1) := by decide +kernel
theorem d_X12_round_77 : decode (qMc M_X12_round) 77 = .ok (.invokevirtual 389, 3) := by decide +kernel
theorem d_X12_round_80 : decode (qMc M_X12_round) 80 = .ok (.ifCond .eq 15, 3) := by decide +kernel
theorem d_X12_round_83 : decode (qMc M_X12_round) 83 = .ok (.iload_n 1, 1) := by decide +kernel
theorem d_X12_round_84 : decode (qMc M_X12_round) 84 = .ok (.ifCond .ne 7, 3) := by decide +kernel
theorem d_X12_round_87 : decode (qMc M_X12_round) 87 = .ok (.iload_n 2, 1) := by decide +kernel
theorem d_X12_round_88 : decode (qMc M_X12_round) 88 = .ok (.goto 6, 3) := by decide +kernel
theorem d_X12_round_91 : decode (qMc M_X12_round) 91 = .ok (.iload_n 2, 1) := by decide +kernel
theorem d_X12_round_92 : decode (qMc M_X12_round) 92 = .ok (.iload_n 3, 1) := by decide +kernel
theorem d_X12_round_93 : decode (qMc M_X12_round) 93 = .ok (.isub, 1) := by decide +kernel
theorem d_X12_round_94 : decode (qMc M_X12_round) 94 = .ok (.ireturn, 1) := by decide +kernel
theorem d_X12_round_95 : decode (qMc M_X12_round) 95 = .ok (.iinc 3 1, 3) := by decide +kernel
theorem d_X12_round_98 : decode (qMc M_X12_round) 98 = .ok (.goto (-29), 3) := by decide +kernel
theorem d_X12_round_101 : decode (qMc M_X12_round) 101 = .ok (.iinc 2 1, 3) := by decide +kernel
theorem d_X12_round_104 : decode (qMc M_X12_round) 104 = .ok (.goto (-62), 3) := by decide +kernel
theorem d_X12_round_107 : decode (qMc M_X12_round) 107 = .ok (.iconst (-1), 1) := by decide +kernel
theorem d_X12_round_108 : decode (qMc M_X12_round) 108 = .ok (.ireturn, 1) := by decide +kernel
theorem d_X12_quiet_0 : decode (qMc M_X12_quiet) 0 = .ok (.aload_n 0, 1) := by decide +kernel
theorem d_X12_quiet_1 : decode (qMc M_X12_quiet) 1 = .ok (.iconst 0, 1) := by decide +kernel
theorem d_X12_quiet_2 : decode (qMc M_X12_quiet) 2 = .ok (.putfield 127, 3) := by decide +kernel
theorem d_X12_quiet_5 : decode (qMc M_X12_quiet) 5 = .ok (.iload_n 1, 1) := by decide +kernel
theorem d_X12_quiet_6 : decode (qMc M_X12_quiet) 6 = .ok (.iconst 0, 1) := by decide +kernel
theorem d_X12_quiet_7 : decode (qMc M_X12_quiet) 7 = .ok (.iconst 1, 1) := by decide +kernel
theorem d_X12_quiet_8 : decode (qMc M_X12_quiet) 8 = .ok (.invokestatic 137, 3) := by decide +kernel
theorem d_X12_quiet_11 : decode (qMc M_X12_quiet) 11 = .ok (.ifCond .ne 5, 3) := by decide +kernel
theorem d_X12_quiet_14 : decode (qMc M_X12_quiet) 14 = .ok (.iconst (-1), 1) := by decide +kernel
theorem d_X12_quiet_15 : decode (qMc M_X12_quiet) 15 = .ok (.ireturn, 1) := by decide +kernel
theorem d_X12_quiet_16 : decode (qMc M_X12_quiet) 16 = .ok (.aload_n 0, 1) := by decide +kernel
theorem d_X12_quiet_17 : decode (qMc M_X12_quiet) 17 = .ok (.invokevirtual 275, 3) := by decide +kernel
theorem d_X12_quiet_20 : decode (qMc M_X12_quiet) 20 = .ok (.iconst 0, 1) := by decide +kernel
theorem d_X12_quiet_21 : decode (qMc M_X12_quiet) 21 = .ok (.istore_n 2, 1) := by decide +kernel
theorem d_X12_quiet_22 : decode (qMc M_X12_quiet) 22 = .ok (.iconst 0, 1) := by decide +kernel
theorem d_X12_quiet_23 : decode (qMc M_X12_quiet) 23 = .ok (.istore_n 3, 1) := by decide +kernel
theorem d_X12_quiet_24 : decode (qMc M_X12_quiet) 24 = .ok (.iload_n 3, 1) := by decide +kernel
theorem d_X12_quiet_25 : decode (qMc M_X12_quiet) 25 = .ok (.bipush 8, 2) := by decide +kernel
theorem d_X12_quiet_27 : decode (qMc M_X12_quiet) 27 = .ok (.if_icmp .ge 49, 3) := by decide +kernel
theorem d_X12_quiet_30 : decode (qMc M_X12_quiet) 30 = .ok (.iload_n 2, 1) := by decide +kernel
theorem d_X12_quiet_31 : decode (qMc M_X12_quiet) 31 = .ok (.aload_n 0, 1) := by decide +kernel
theorem d_X12_quiet_32 : decode (qMc M_X12_quiet) 32 = .ok (.getfield 86, 3) := by decide +kernel
theorem d_X12_quiet_35 : decode (qMc M_X12_quiet) 35 = .ok (.iload_n 1, 1) := by decide +kernel
theorem d_X12_quiet_36 : decode (qMc M_X12_quiet) 36 = .ok (.ifCond .ne 12, 3) := by decide +kernel
theorem d_X12_quiet_39 : decode (qMc M_X12_quiet) 39 = .ok (.iload_n 3, 1) := by decide +kernel
theorem d_X12_quiet_40 : decode (qMc M_X12_quiet) 40 = .ok (.iload_n 3, 1) := by decide +kernel
theorem d_X12_quiet_41 : decode (qMc M_X12_quiet) 41 = .ok (.iload_n 3, 1) := by decide +kernel
theorem d_X12_quiet_42 : decode (qMc M_X12_quiet) 42 = .ok (.invokestatic 263, 3) := by decide +kernel
theorem d_X12_quiet_45 : decode (qMc M_X12_quiet) 45 = .ok (.goto 11, 3) := by decide +kernel
theorem d_X12_quiet_48 : decode (qMc M_X12_quiet) 48 = .ok (.iload_n 3, 1) := by decide +kernel
theorem d_X12_quiet_49 : decode (qMc M_X12_quiet) 49 = .ok (.bipush 8, 2) := by decide +kernel
theorem d_X12_quiet_51 : decode (qMc M_X12_quiet) 51 = .ok (.bipush 8, 2) := by decide +kernel
theorem d_X12_quiet_53 : decode (qMc M_X12_quiet) 53 = .ok (.invokestatic 263, 3) := by decide +kernel
theorem d_X12_quiet_56 : decode (qMc M_X12_quiet) 56 = .ok (.iaload, 1) := by decide +kernel
theorem d_X12_quiet_57 : decode (qMc M_X12_quiet) 57 = .ok (.iload_n 3, 1) := by decide +kernel
theorem d_X12_quiet_58 : decode (qMc M_X12_quiet) 58 = .ok (.if_icmp .ne 9, 3) := by decide +kernel
theorem d_X12_quiet_61 : decode (qMc M_X12_quiet) 61 = .ok (.iconst 1, 1) := by decide +kernel
theorem d_X12_quiet_62 : decode (qMc M_X12_quiet) 62 = .ok (.iload_n 3, 1) := by decide +kernel
theorem d_X12_quiet_63 : decode (qMc M_X12_quiet) 63 = .ok (.ishl, 1) := by decide +kernel
theorem d_X12_quiet_64 : decode (qMc M_X12_quiet) 64 = .ok (.goto 4, 3) := by decide +kernel
theorem d_X12_quiet_67 : decode (qMc M_X12_quiet) 67 = .ok (.iconst 0, 1) := by decide +kernel
theorem d_X12_quiet_68 : decode (qMc M_X12_quiet) 68 = .ok (.ior, 1) := by decide +kernel
theorem d_X12_quiet_69 : decode (qMc M_X12_quiet) 69 = .ok (.istore_n 2, 1) := by decide +kernel
theorem d_X12_quiet_70 : decode (qMc M_X12_quiet) 70 = .ok (.iinc 3 1, 3) := by decide +kernel
theorem d_X12_quiet_73 : decode (qMc M_X12_quiet) 73 = .ok (.goto (-49), 3) := by decide +kernel
theorem d_X12_quiet_76 : decode (qMc M_X12_quiet) 76 = .ok (.iload_n 2, 1) := by decide +kernel
theorem d_X12_quiet_77 : decode (qMc M_X12_quiet) 77 = .ok (.ireturn, 1) := by decide +kernel
