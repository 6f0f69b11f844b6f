theorem d_X11_unlike_0 : decode (qMc M_X11_unlike) 0 = .ok (.iload_n 1, 1) := by decide +kernel
theorem d_X11_unlike_1 : decode (qMc M_X11_unlike) 1 = .ok (.iconst 0, 1) := by decide +kernel
theorem d_X11_unlike_2 : decode (qMc M_X11_unlike) 2 = .ok (.iconst 3, 1) := by decide +kernel
theorem d_X11_unlike_3 : decode (qMc M_X11_unlike) 3 = .ok (.invokestatic 62, 3) := by decide +kernel
theorem d_X11_unlike_6 : decode (qMc M_X11_unlike) 6 = .ok (.ifCond .eq 21, 3) := by decide +kernel
theorem d_X11_unlike_9 : decode (qMc M_X11_unlike) 9 = .ok (.iload_n 2, 1) := by decide +kernel
theorem d_X11_unlike_10 : decode (qMc M_X11_unlike) 10 = .ok (.iconst 0, 1) := by decide +kernel
theorem d_X11_unlike_11 : decode (qMc M_X11_unlike) 11 = .ok (.iconst 3, 1) := by decide +kernel
theorem d_X11_unlike_12 : decode (qMc M_X11_unlike) 12 = .ok (.invokestatic 62, 3) := by decide +kernel
theorem d_X11_unlike_15 : decode (qMc M_X11_unlike) 15 = .ok (.ifCond .eq 12, 3) := by decide +kernel
theorem d_X11_unlike_18 : decode (qMc M_X11_unlike) 18 = .ok (.iload_n 3, 1) := by decide +kernel
theorem d_X11_unlike_19 : decode (qMc M_X11_unlike) 19 = .ok (.iconst 0, 1) := by decide +kernel
theorem d_X11_unlike_20 : decode (qMc M_X11_unlike) 20 = .ok (.iconst 1, 1) := by decide +kernel
theorem d_X11_unlike_21 : decode (qMc M_X11_unlike) 21 = .ok (.invokestatic 62, 3) := by decide +kernel
theorem d_X11_unlike_24 : decode (qMc M_X11_unlike) 24 = .ok (.ifCond .ne 5, 3) := by decide +kernel
theorem d_X11_unlike_27 : decode (qMc M_X11_unlike) 27 = .ok (.iconst (-1), 1) := by decide +kernel
theorem d_X11_unlike_28 : decode (qMc M_X11_unlike) 28 = .ok (.ireturn, 1) := by decide +kernel
theorem d_X11_unlike_29 : decode (qMc M_X11_unlike) 29 = .ok (.aload_n 0, 1) := by decide +kernel
theorem d_X11_unlike_30 : decode (qMc M_X11_unlike) 30 = .ok (.getfield 12, 3) := by decide +kernel
theorem d_X11_unlike_33 : decode (qMc M_X11_unlike) 33 = .ok (.getfield 144, 3) := by decide +kernel
theorem d_X11_unlike_36 : decode (qMc M_X11_unlike) 36 = .ok (.getfield 148, 3) := by decide +kernel
theorem d_X11_unlike_39 : decode (qMc M_X11_unlike) 39 = .ok (.iload_n 1, 1) := by decide +kernel
theorem d_X11_unlike_40 : decode (qMc M_X11_unlike) 40 = .ok (.aaload, 1) := by decide +kernel
theorem d_X11_unlike_41 : decode (qMc M_X11_unlike) 41 = .ok (.astore 4, 2) := by decide +kernel
theorem d_X11_unlike_43 : decode (qMc M_X11_unlike) 43 = .ok (.aload_n 0, 1) := by decide +kernel
theorem d_X11_unlike_44 : decode (qMc M_X11_unlike) 44 = .ok (.getfield 12, 3) := by decide +kernel
theorem d_X11_unlike_47 : decode (qMc M_X11_unlike) 47 = .ok (.getfield 144, 3) := by decide +kernel
theorem d_X11_unlike_50 : decode (qMc M_X11_unlike) 50 = .ok (.getfield 148, 3) := by decide +kernel
theorem d_X11_unlike_53 : decode (qMc M_X11_unlike) 53 = .ok (.iload_n 2, 1) := by decide +kernel
theorem d_X11_unlike_54 : decode (qMc M_X11_unlike) 54 = .ok (.aaload, 1) := by decide +kernel
theorem d_X11_unlike_55 : decode (qMc M_X11_unlike) 55 = .ok (.astore 5, 2) := by decide +kernel
theorem d_X11_unlike_57 : decode (qMc M_X11_unlike) 57 = .ok (.iconst 0, 1) := by decide +kernel
theorem d_X11_unlike_58 : decode (qMc M_X11_unlike) 58 = .ok (.istore 6, 2) := by decide +kernel
theorem d_X11_unlike_60 : decode (qMc M_X11_unlike) 60 = .ok (.iconst (-1), 1) := by decide +kernel
theorem d_X11_unlike_61 : decode (qMc M_X11_unlike) 61 = .ok (.istore 7, 2) := by decide +kernel
theorem d_X11_unlike_63 : decode (qMc M_X11_unlike) 63 = .ok (.iconst 0, 1) := by decide +kernel
theorem d_X11_unlike_64 : decode (qMc M_X11_unlike) 64 = .ok (.istore 8, 2) := by decide +kernel
theorem d_X11_unlike_66 : decode (qMc M_X11_unlike) 66 = .ok (.iload 8, 2) := by decide +kernel
theorem d_X11_unlike_68 : decode (qMc M_X11_unlike) 68 = .ok (.sipush 567, 3) := by decide +kernel
theorem d_X11_unlike_71 : decode (qMc M_X11_unlike) 71 = .ok (.if_icmp .ge 84, 3) := by decide +kernel
theorem d_X11_unlike_74 : decode (qMc M_X11_unlike) 74 = .ok (.iload 8, 2) := by decide +kernel
theorem d_X11_unlike_76 : decode (qMc M_X11_unlike) 76 = .ok (.invokestatic 268, 3) := by decide +kernel
theorem d_X11_unlike_79 : decode (qMc M_X11_unlike) 79 = .ok (.istore 9, 2) := by decide +kernel
theorem d_X11_unlike_81 : decode (qMc M_X11_unlike) 81 = .ok (.iload 8, 2) := by decide +kernel
theorem d_X11_unlike_83 : decode (qMc M_X11_unlike) 83 = .ok (.invokestatic 271, 3) := by decide +kernel
theorem d_X11_unlike_86 : decode (qMc M_X11_unlike) 86 = .ok (.istore 10, 2) := by decide +kernel
theorem d_X11_unlike_88 : decode (qMc M_X11_unlike) 88 = .ok (.iload 8, 2) := by decide +kernel
theorem d_X11_unlike_90 : decode (qMc M_X11_unlike) 90 = .ok (.invokestatic 274, 3) := by decide +kernel
theorem d_X11_unlike_93 : decode (qMc M_X11_unlike) 93 = .ok (.istore 11, 2) := by decide +kernel
theorem d_X11_unlike_95 : decode (qMc M_X11_unlike) 95 = .ok (.aload 4, 2) := by decide +kernel
theorem d_X11_unlike_97 : decode (qMc M_X11_unlike) 97 = .ok (.iload 9, 2) := by decide +kernel
theorem d_X11_unlike_99 : decode (qMc M_X11_unlike) 99 = .ok (.iload 10, 2) := by decide +kernel
theorem d_X11_unlike_101 : decode (qMc M_X11_unlike) 101 = .ok (.iload 11, 2) := by decide +kernel
theorem d_X11_unlike_103 : decode (qMc M_X11_unlike) 103 = .ok (.invokevirtual 277, 3) := by decide +kernel
theorem d_X11_unlike_106 : decode (qMc M_X11_unlike) 106 = .ok (.aload 5, 2) := by decide +kernel
theorem d_X11_unlike_108 : decode (qMc M_X11_unlike) 108 = .ok (.iload 9, 2) := by decide +kernel
theorem d_X11_unlike_110 : decode (qMc M_X11_unlike) 110 = .ok (.iload 10, 2) := by decide +kernel
theorem d_X11_unlike_112 : decode (qMc M_X11_unlike) 112 = .ok (.iload 11, 2) := by decide +kernel
theorem d_X11_unlike_114 : decode (qMc M_X11_unlike) 114 = .ok (.invokevirtual 277, 3) := by decide +kernel
theorem d_X11_unlike_117 : decode (qMc M_X11_unlike) 117 = .ok (.if_icmp .eq 32, 3) := by decide +kernel
theorem d_X11_unlike_120 : decode (qMc M_X11_unlike) 120 = .ok (.iload 6, 2) := by decide +kernel
theorem d_X11_unlike_122 : decode (qMc M_X11_unlike) 122 = .ok (.ifCond .ne 20, 3) := by decide +kernel
theorem d_X11_unlike_125 : decode (qMc M_X11_unlike) 125 = .ok (.bipush 100, 2) := by decide +kernel
theorem d_X11_unlike_127 : decode (qMc M_X11_unlike) 127 = .ok (.iload 9, 2) := by decide +kernel
theorem d_X11_unlike_129 : decode (qMc M_X11_unlike) 129 = .ok (.imul, 1) := by decide +kernel
theorem d_X11_unlike_130 : decode (qMc M_X11_unlike) 130 = .ok (.bipush 10, 2) := by decide +kernel
theorem d_X11_unlike_132 : decode (qMc M_X11_unlike) 132 = .ok (.iload 10, 2) := by decide +kernel
theorem d_X11_unlike_134 : decode (qMc M_X11_unlike) 134 = .ok (.imul, 1) := by decide +kernel
theorem d_X11_unlike_135 : decode (qMc M_X11_unlike) 135 = .ok (.iadd, 1) := by decide +kernel
theorem d_X11_unlike_136 : decode (qMc M_X11_unlike) 136 = .ok (.iload 11, 2) := by decide +kernel
theorem d_X11_unlike_138 : decode (qMc M_X11_unlike) 138 = .ok (.iadd, 1) := by decide +kernel
theorem d_X11_unlike_139 : decode (qMc M_X11_unlike) 139 = .ok (.goto 5, 3) := by decide +kernel
theorem d_X11_unlike_142 : decode (qMc M_X11_unlike) 142 = .ok (.iload 7, 2) := by decide +kernel
theorem d_X11_unlike_144 : decode (qMc M_X11_unlike) 144 = .ok (.istore 7, 2) := by decide +kernel
theorem d_X11_unlike_146 : decode (qMc M_X11_unlike) 146 = .ok (.iinc 6 1, 3) := by decide +kernel
theorem d_X11_unlike_149 : decode (qMc M_X11_unlike) 149 = .ok (.iinc 8 1, 3) := by decide +kernel
theorem d_X11_unlike_152 : decode (qMc M_X11_unlike) 152 = .ok (.goto (-86), 3) := by decide +kernel
theorem d_X11_unlike_155 : decode (qMc M_X11_unlike) 155 = .ok (.iload_n 3, 1) := by decide +kernel
theorem d_X11_unlike_156 : decode (qMc M_X11_unlike) 156 = .ok (.ifCond .ne 8, 3) := by decide +kernel
theorem d_X11_unlike_159 : decode (qMc M_X11_unlike) 159 = .ok (.iload 6, 2) := by decide +kernel
theorem d_X11_unlike_161 : decode (qMc M_X11_unlike) 161 = .ok (.goto 5, 3) := by decide +kernel
theorem d_X11_unlike_164 : decode (qMc M_X11_unlike) 164 = .ok (.iload 7, 2) := by decide +kernel
theorem d_X11_unlike_166 : decode (qMc M_X11_unlike) 166 = .ok (.ireturn, 1) := by decide +kernel
theorem d_X11_fires_0 : decode (qMc M_X11_fires) 0 = .ok (.iload_n 1, 1) := by decide +kernel
theorem d_X11_fires_1 : decode (qMc M_X11_fires) 1 = .ok (.iload_n 2, 1) := by decide +kernel
theorem d_X11_fires_2 : decode (qMc M_X11_fires) 2 = .ok (.invokestatic 280, 3) := by decide +kernel
theorem d_X11_fires_5 : decode (qMc M_X11_fires) 5 = .ok (.ifCond .eq 17, 3) := by decide +kernel
theorem d_X11_fires_8 : decode (qMc M_X11_fires) 8 = .ok (.aload_n 0, 1) := by decide +kernel
theorem d_X11_fires_9 : decode (qMc M_X11_fires) 9 = .ok (.iload_n 1, 1) := by decide +kernel
theorem d_X11_fires_10 : decode (qMc M_X11_fires) 10 = .ok (.iload_n 2, 1) := by decide +kernel
theorem d_X11_fires_11 : decode (qMc M_X11_fires) 11 = .ok (.iconst 0, 1) := by decide +kernel
theorem d_X11_fires_12 : decode (qMc M_X11_fires) 12 = .ok (.invokevirtual 284, 3) := by decide +kernel
theorem d_X11_fires_15 : decode (qMc M_X11_fires) 15 = .ok (.iload_n 3, 1) := by decide +kernel
theorem d_X11_fires_16 : decode (qMc M_X11_fires) 16 = .ok (.invokevirtual 288, 3) := by decide +kernel
theorem d_X11_fires_19 : decode (qMc M_X11_fires) 19 = .ok (.goto 4, 3) := by decide +kernel
theorem d_X11_fires_22 : decode (qMc M_X11_fires) 22 = .ok (.iconst (-1), 1) := by decide +kernel
theorem d_X11_fires_23 : decode (qMc M_X11_fires) 23 = .ok (.ireturn, 1) := by decide +kernel
theorem d_X11_ring_0 : decode (qMc M_X11_ring) 0 = .ok (.iload_n 1, 1) := by decide +kernel
theorem d_X11_ring_1 : decode (qMc M_X11_ring) 1 = .ok (.iload_n 2, 1) := by decide +kernel
theorem d_X11_ring_2 : decode (qMc M_X11_ring) 2 = .ok (.invokestatic 280, 3) := by decide +kernel
theorem d_X11_ring_5 : decode (qMc M_X11_ring) 5 = .ok (.ifCond .eq 17, 3) := by decide +kernel
theorem d_X11_ring_8 : decode (qMc M_X11_ring) 8 = .ok (.aload_n 0, 1) := by decide +kernel
theorem d_X11_ring_9 : decode (qMc M_X11_ring) 9 = .ok (.iload_n 1, 1) := by decide +kernel
theorem d_X11_ring_10 : decode (qMc M_X11_ring) 10 = .ok (.iload_n 2, 1) := by decide +kernel
theorem d_X11_ring_11 : decode (qMc M_X11_ring) 11 = .ok (.iconst 1, 1) := by decide +kernel
theorem d_X11_ring_12 : decode (qMc M_X11_ring) 12 = .ok (.invokevirtual 284, 3) := by decide +kernel
theorem d_X11_ring_15 : decode (qMc M_X11_ring) 15 = .ok (.iload_n 3, 1) := by decide +kernel
theorem d_X11_ring_16 : decode (qMc M_X11_ring) 16 = .ok (.invokevirtual 288, 3) := by decide +kernel
theorem d_X11_ring_19 : decode (qMc M_X11_ring) 19 = .ok (.goto 4, 3) := by decide +kernel
theorem d_X11_ring_22 : decode (qMc M_X11_ring) 22 = .ok (.iconst (-1), 1) := by decide +kernel
theorem d_X11_ring_23 : decode (qMc M_X11_ring) 23 = .ok (.ireturn, 1) := by decide +kernel
theorem d_X11_firesOf_0 : decode (qMc M_X11_firesOf) 0 = .ok (.aload_n 0, 1) := by decide +kernel
theorem d_X11_firesOf_1 : decode (qMc M_X11_firesOf) 1 = .ok (.getfield 40, 3) := by decide +kernel
theorem d_X11_firesOf_4 : decode (qMc M_X11_firesOf) 4 = .ok (.getfield 293, 3) := by decide +kernel
theorem d_X11_firesOf_7 : decode (qMc M_X11_firesOf) 7 = .ok (.astore 4, 2) := by decide +kernel
theorem d_X11_firesOf_9 : decode (qMc M_X11_firesOf) 9 = .ok (.aload 4, 2) := by decide +kernel
theorem d_X11_firesOf_11 : decode (qMc M_X11_firesOf) 11 = .ok (.iload_n 1, 1) := by decide +kernel
theorem d_X11_firesOf_12 : decode (qMc M_X11_firesOf) 12 = .ok (.iload_n 2, 1) := by decide +kernel
theorem d_X11_firesOf_13 : decode (qMc M_X11_firesOf) 13 = .ok (.iload_n 3, 1) := by decide +kernel
theorem d_X11_firesOf_14 : decode (qMc M_X11_firesOf) 14 = .ok (.invokevirtual 297, 3) := by decide +kernel
theorem d_X11_firesOf_17 : decode (qMc M_X11_firesOf) 17 = .ok (.aload 4, 2) := by decide +kernel
theorem d_X11_firesOf_19 : decode (qMc M_X11_firesOf) 19 = .ok (.aload_n 0, 1) := by decide +kernel
theorem d_X11_firesOf_20 : decode (qMc M_X11_firesOf) 20 = .ok (.getfield 12, 3) := by decide +kernel
theorem d_X11_firesOf_23 : decode (qMc M_X11_firesOf) 23 = .ok (.getfield 144, 3) := by decide +kernel
theorem d_X11_firesOf_26 : decode (qMc M_X11_firesOf) 26 = .ok (.getfield 243, 3) := by decide +kernel
theorem d_X11_firesOf_29 : decode (qMc M_X11_firesOf) 29 = .ok (.invokevirtual 301, 3) := by decide +kernel
theorem d_X11_firesOf_32 : decode (qMc M_X11_firesOf) 32 = .ok (.aload 4, 2) := by decide +kernel
theorem d_X11_firesOf_34 : decode (qMc M_X11_firesOf) 34 = .ok (.areturn, 1) := by decide +kernel
theorem d_X11_trees_0 : decode (qMc M_X11_trees) 0 = .ok (.aload_n 0, 1) := by decide +kernel
theorem d_X11_trees_1 : decode (qMc M_X11_trees) 1 = .ok (.getfield 40, 3) := by decide +kernel
theorem d_X11_trees_4 : decode (qMc M_X11_trees) 4 = .ok (.getfield 293, 3) := by decide +kernel
theorem d_X11_trees_7 : decode (qMc M_X11_trees) 7 = .ok (.astore_n 2, 1) := by decide +kernel
theorem d_X11_trees_8 : decode (qMc M_X11_trees) 8 = .ok (.aload_n 2, 1) := by decide +kernel
theorem d_X11_trees_9 : decode (qMc M_X11_trees) 9 = .ok (.aload_n 0, 1) := by decide +kernel
theorem d_X11_trees_10 : decode (qMc M_X11_trees) 10 = .ok (.getfield 12, 3) := by decide +kernel
theorem d_X11_trees_13 : decode (qMc M_X11_trees) 13 = .ok (.getfield 178, 3) := by decide +kernel
theorem d_X11_trees_16 : decode (qMc M_X11_trees) 16 = .ok (.invokevirtual 305, 3) := by decide +kernel
theorem d_X11_trees_19 : decode (qMc M_X11_trees) 19 = .ok (.aload_n 2, 1) := by decide +kernel
theorem d_X11_trees_20 : decode (qMc M_X11_trees) 20 = .ok (.aload_n 0, 1) := by decide +kernel
theorem d_X11_trees_21 : decode (qMc M_X11_trees) 21 = .ok (.getfield 12, 3) := by decide +kernel
theorem d_X11_trees_24 : decode (qMc M_X11_trees) 24 = .ok (.getfield 144, 3) := by decide +kernel
theorem d_X11_trees_27 : decode (qMc M_X11_trees) 27 = .ok (.getfield 243, 3) := by decide +kernel
theorem d_X11_trees_30 : decode (qMc M_X11_trees) 30 = .ok (.invokevirtual 301, 3) := by decide +kernel
theorem d_X11_trees_33 : decode (qMc M_X11_trees) 33 = .ok (.aload_n 2, 1) := by decide +kernel
theorem d_X11_trees_34 : decode (qMc M_X11_trees) 34 = .ok (.iload_n 1, 1) := by decide +kernel
theorem d_X11_trees_35 : decode (qMc M_X11_trees) 35 = .ok (.invokevirtual 288, 3) := by decide +kernel
theorem d_X11_trees_38 : decode (qMc M_X11_trees) 38 = .ok (.ireturn, 1) := by decide +kernel
theorem d_X11_works_0 : decode (qMc M_X11_works) 0 = .ok (.iload_n 1, 1) := by decide +kernel
theorem d_X11_works_1 : decode (qMc M_X11_works) 1 = .ok (.invokestatic 308, 3) := by decide +kernel
theorem d_X11_works_4 : decode (qMc M_X11_works) 4 = .ok (.ifCond .eq 12, 3) := by decide +kernel
theorem d_X11_works_7 : decode (qMc M_X11_works) 7 = .ok (.iload_n 2, 1) := by decide +kernel
theorem d_X11_works_8 : decode (qMc M_X11_works) 8 = .ok (.iconst 0, 1) := by decide +kernel
theorem d_X11_works_9 : decode (qMc M_X11_works) 9 = .ok (.iconst 2, 1) := by decide +kernel
theorem d_X11_works_10 : decode (qMc M_X11_works) 10 = .ok (.invokestatic 62, 3) := by decide +kernel
theorem d_X11_works_13 : decode (qMc M_X11_works) 13 = .ok (.ifCond .ne 5, 3) := by decide +kernel
theorem d_X11_works_16 : decode (qMc M_X11_works) 16 = .ok (.iconst (-1), 1) := by decide +kernel
theorem d_X11_works_17 : decode (qMc M_X11_works) 17 = .ok (.ireturn, 1) := by decide +kernel
theorem d_X11_works_18 : decode (qMc M_X11_works) 18 = .ok (.aload_n 0, 1) := by decide +kernel
theorem d_X11_works_19 : decode (qMc M_X11_works) 19 = .ok (.getfield 40, 3) := by decide +kernel
theorem d_X11_works_22 : decode (qMc M_X11_works) 22 = .ok (.aload_n 0, 1) := by decide +kernel
theorem d_X11_works_23 : decode (qMc M_X11_works) 23 = .ok (.getfield 12, 3) := by decide +kernel
theorem d_X11_works_26 : decode (qMc M_X11_works) 26 = .ok (.getfield 144, 3) := by decide +kernel
theorem d_X11_works_29 : decode (qMc M_X11_works) 29 = .ok (.getfield 243, 3) := by decide +kernel
theorem d_X11_works_32 : decode (qMc M_X11_works) 32 = .ok (.iload_n 1, 1) := by decide +kernel
theorem d_X11_works_33 : decode (qMc M_X11_works) 33 = .ok (.invokevirtual 311, 3) := by decide +kernel
theorem d_X11_works_36 : decode (qMc M_X11_works) 36 = .ok (.istore_n 3, 1) := by decide +kernel
theorem d_X11_works_37 : decode (qMc M_X11_works) 37 = .ok (.iload_n 3, 1) := by decide +kernel
theorem d_X11_works_38 : decode (qMc M_X11_works) 38 = .ok (.iconst (-1), 1) := by decide +kernel
theorem d_X11_works_39 : decode (qMc M_X11_works) 39 = .ok (.if_icmp .eq 7, 3) := by decide +kernel
theorem d_X11_works_42 : decode (qMc M_X11_works) 42 = .ok (.iload_n 2, 1) := by decide +kernel
theorem d_X11_works_43 : decode (qMc M_X11_works) 43 = .ok (.ifCond .ne 5, 3) := by decide +kernel
theorem d_X11_works_46 : decode (qMc M_X11_works) 46 = .ok (.iload_n 3, 1) := by decide +kernel
theorem d_X11_works_47 : decode (qMc M_X11_works) 47 = .ok (.ireturn, 1) := by decide +kernel
theorem d_X11_works_48 : decode (qMc M_X11_works) 48 = .ok (.aload_n 0, 1) := by decide +kernel
theorem d_X11_works_49 : decode (qMc M_X11_works) 49 = .ok (.getfield 40, 3) := by decide +kernel
theorem d_X11_works_52 : decode (qMc M_X11_works) 52 = .ok (.getfield 293, 3) := by decide +kernel
theorem d_X11_works_55 : decode (qMc M_X11_works) 55 = .ok (.iload_n 2, 1) := by decide +kernel
theorem d_X11_works_56 : decode (qMc M_X11_works) 56 = .ok (.iconst 1, 1) := by decide +kernel
theorem d_X11_works_57 : decode (qMc M_X11_works) 57 = .ok (.if_icmp .ne 7, 3) := by decide +kernel
theorem d_X11_works_60 : decode (qMc M_X11_works) 60 = .ok (.iconst 0, 1) := by decide +kernel
theorem d_X11_works_61 : decode (qMc M_X11_works) 61 = .ok (.goto 4, 3) := by decide +kernel
theorem d_X11_works_64 : decode (qMc M_X11_works) 64 = .ok (.iconst 2, 1) := by decide +kernel
theorem d_X11_works_65 : decode (qMc M_X11_works) 65 = .ok (.invokevirtual 288, 3) := by decide +kernel
theorem d_X11_works_68 : decode (qMc M_X11_works) 68 = .ok (.ireturn, 1) := by decide +kernel
theorem d_X11_soon_0 : decode (qMc M_X11_soon) 0 = .ok (.iload_n 1, 1) := by decide +kernel
theorem d_X11_soon_1 : decode (qMc M_X11_soon) 1 = .ok (.iload_n 2, 1) := by decide +kernel
theorem d_X11_soon_2 : decode (qMc M_X11_soon) 2 = .ok (.invokestatic 280, 3) := by decide +kernel
theorem d_X11_soon_5 : decode (qMc M_X11_soon) 5 = .ok (.ifCond .eq 12, 3) := by decide +kernel
theorem d_X11_soon_8 : decode (qMc M_X11_soon) 8 = .ok (.iload_n 3, 1) := by decide +kernel
theorem d_X11_soon_9 : decode (qMc M_X11_soon) 9 = .ok (.iconst 0, 1) := by decide +kernel
theorem d_X11_soon_10 : decode (qMc M_X11_soon) 10 = .ok (.iconst 1, 1) := by decide +kernel
theorem d_X11_soon_11 : decode (qMc M_X11_soon) 11 = .ok (.invokestatic 62, 3) := by decide +kernel
theorem d_X11_soon_14 : decode (qMc M_X11_soon) 14 = .ok (.ifCond .ne 6, 3) := by decide +kernel
theorem d_X11_soon_17 : decode (qMc M_X11_soon) 17 = .ok (.bipush (-100), 2) := by decide +kernel
theorem d_X11_soon_19 : decode (qMc M_X11_soon) 19 = .ok (.ireturn, 1) := by decide +kernel
theorem d_X11_soon_20 : decode (qMc M_X11_soon) 20 = .ok (.iconst 2, 1) := by decide +kernel
theorem d_X11_soon_21 : decode (qMc M_X11_soon) 21 = .ok (.iload_n 1, 1) := by decide +kernel
theorem d_X11_soon_22 : decode (qMc M_X11_soon) 22 = .ok (.imul, 1) := by decide +kernel
theorem d_X11_soon_23 : decode (qMc M_X11_soon) 23 = .ok (.iconst 2, 1) := by decide +kernel
theorem d_X11_soon_24 : decode (qMc M_X11_soon) 24 = .ok (.isub, 1) := by decide +kernel
theorem d_X11_soon_25 : decode (qMc M_X11_soon) 25 = .ok (.iload_n 2, 1) := by decide +kernel
theorem d_X11_soon_26 : decode (qMc M_X11_soon) 26 = .ok (.iload_n 1, 1) := by decide +kernel
theorem d_X11_soon_27 : decode (qMc M_X11_soon) 27 = .ok (.iconst 1, 1) := by decide +kernel
theorem d_X11_soon_28 : decode (qMc M_X11_soon) 28 = .ok (.isub, 1) := by decide +kernel
theorem d_X11_soon_29 : decode (qMc M_X11_soon) 29 = .ok (.iload_n 2, 1) := by decide +kernel
theorem d_X11_soon_30 : decode (qMc M_X11_soon) 30 = .ok (.isub, 1) := by decide +kernel
theorem d_X11_soon_31 : decode (qMc M_X11_soon) 31 = .ok (.invokestatic 315, 3) := by decide +kernel
theorem d_X11_soon_34 : decode (qMc M_X11_soon) 34 = .ok (.isub, 1) := by decide +kernel
theorem d_X11_soon_35 : decode (qMc M_X11_soon) 35 = .ok (.istore 4, 2) := by decide +kernel
theorem d_X11_soon_37 : decode (qMc M_X11_soon) 37 = .ok (.iload_n 3, 1) := by decide +kernel
theorem d_X11_soon_38 : decode (qMc M_X11_soon) 38 = .ok (.ifCond .ne 6, 3) := by decide +kernel
theorem d_X11_soon_41 : decode (qMc M_X11_soon) 41 = .ok (.iload 4, 2) := by decide +kernel
theorem d_X11_soon_43 : decode (qMc M_X11_soon) 43 = .ok (.ireturn, 1) := by decide +kernel
theorem d_X11_soon_44 : decode (qMc M_X11_soon) 44 = .ok (.aload_n 0, 1) := by decide +kernel
theorem d_X11_soon_45 : decode (qMc M_X11_soon) 45 = .ok (.iload_n 1, 1) := by decide +kernel
theorem d_X11_soon_46 : decode (qMc M_X11_soon) 46 = .ok (.iload_n 2, 1) := by decide +kernel
theorem d_X11_soon_47 : decode (qMc M_X11_soon) 47 = .ok (.iconst 0, 1) := by decide +kernel
theorem d_X11_soon_48 : decode (qMc M_X11_soon) 48 = .ok (.invokevirtual 284, 3) := by decide +kernel
theorem d_X11_soon_51 : decode (qMc M_X11_soon) 51 = .ok (.astore 5, 2) := by decide +kernel
theorem d_X11_soon_53 : decode (qMc M_X11_soon) 53 = .ok (.aload 5, 2) := by decide +kernel
theorem d_X11_soon_55 : decode (qMc M_X11_soon) 55 = .ok (.getfield 320, 3) := by decide +kernel
theorem d_X11_soon_58 : decode (qMc M_X11_soon) 58 = .ok (.ifCond .ne 8, 3) := by decide +kernel
theorem d_X11_soon_61 : decode (qMc M_X11_soon) 61 = .ok (.bipush (-100), 2) := by decide +kernel
theorem d_X11_soon_63 : decode (qMc M_X11_soon) 63 = .ok (.goto 11, 3) := by decide +kernel
theorem d_X11_soon_66 : decode (qMc M_X11_soon) 66 = .ok (.aload 5, 2) := by decide +kernel
theorem d_X11_soon_68 : decode (qMc M_X11_soon) 68 = .ok (.getfield 323, 3) := by decide +kernel
theorem d_X11_soon_71 : decode (qMc M_X11_soon) 71 = .ok (.iload 4, 2) := by decide +kernel
theorem d_X11_soon_73 : decode (qMc M_X11_soon) 73 = .ok (.isub, 1) := by decide +kernel
theorem d_X11_soon_74 : decode (qMc M_X11_soon) 74 = .ok (.ireturn, 1) := by decide +kernel
theorem d_X11_used_0 : decode (qMc M_X11_used) 0 = .ok (.iload_n 1, 1) := by decide +kernel
theorem d_X11_used_1 : decode (qMc M_X11_used) 1 = .ok (.invokestatic 308, 3) := by decide +kernel
theorem d_X11_used_4 : decode (qMc M_X11_used) 4 = .ok (.ifCond .eq 12, 3) := by decide +kernel
theorem d_X11_used_7 : decode (qMc M_X11_used) 7 = .ok (.iload_n 2, 1) := by decide +kernel
theorem d_X11_used_8 : decode (qMc M_X11_used) 8 = .ok (.iconst 0, 1) := by decide +kernel
theorem d_X11_used_9 : decode (qMc M_X11_used) 9 = .ok (.iconst 2, 1) := by decide +kernel
theorem d_X11_used_10 : decode (qMc M_X11_used) 10 = .ok (.invokestatic 62, 3) := by decide +kernel
theorem d_X11_used_13 : decode (qMc M_X11_used) 13 = .ok (.ifCond .ne 5, 3) := by decide +kernel
theorem d_X11_used_16 : decode (qMc M_X11_used) 16 = .ok (.iconst (-1), 1) := by decide +kernel
theorem d_X11_used_17 : decode (qMc M_X11_used) 17 = .ok (.ireturn, 1) := by decide +kernel
theorem d_X11_used_18 : decode (qMc M_X11_used) 18 = .ok (.aload_n 0, 1) := by decide +kernel
theorem d_X11_used_19 : decode (qMc M_X11_used) 19 = .ok (.getfield 40, 3) := by decide +kernel
theorem d_X11_used_22 : decode (qMc M_X11_used) 22 = .ok (.aload_n 0, 1) := by decide +kernel
theorem d_X11_used_23 : decode (qMc M_X11_used) 23 = .ok (.getfield 12, 3) := by decide +kernel
theorem d_X11_used_26 : decode (qMc M_X11_used) 26 = .ok (.getfield 144, 3) := by decide +kernel
theorem d_X11_used_29 : decode (qMc M_X11_used) 29 = .ok (.getfield 243, 3) := by decide +kernel
theorem d_X11_used_32 : decode (qMc M_X11_used) 32 = .ok (.iload_n 1, 1) := by decide +kernel
theorem d_X11_used_33 : decode (qMc M_X11_used) 33 = .ok (.invokevirtual 326, 3) := by decide +kernel
theorem d_X11_used_36 : decode (qMc M_X11_used) 36 = .ok (.iload_n 2, 1) := by decide +kernel
theorem d_X11_used_37 : decode (qMc M_X11_used) 37 = .ok (.iconst 2, 1) := by decide +kernel
theorem d_X11_used_38 : decode (qMc M_X11_used) 38 = .ok (.if_icmp .ne 11, 3) := by decide +kernel
theorem d_X11_used_41 : decode (qMc M_X11_used) 41 = .ok (.aload_n 0, 1) := by decide +kernel
theorem d_X11_used_42 : decode (qMc M_X11_used) 42 = .ok (.getfield 40, 3) := by decide +kernel
theorem d_X11_used_45 : decode (qMc M_X11_used) 45 = .ok (.getfield 330, 3) := by decide +kernel
theorem d_X11_used_48 : decode (qMc M_X11_used) 48 = .ok (.ireturn, 1) := by decide +kernel
theorem d_X11_used_49 : decode (qMc M_X11_used) 49 = .ok (.iload_n 2, 1) := by decide +kernel
theorem d_X11_used_50 : decode (qMc M_X11_used) 50 = .ok (.ifCond .ne 20, 3) := by decide +kernel
theorem d_X11_used_53 : decode (qMc M_X11_used) 53 = .ok (.aload_n 0, 1) := by decide +kernel
theorem d_X11_used_54 : decode (qMc M_X11_used) 54 = .ok (.getfield 40, 3) := by decide +kernel
theorem d_X11_used_57 : decode (qMc M_X11_used) 57 = .ok (.aload_n 0, 1) := by decide +kernel
theorem d_X11_used_58 : decode (qMc M_X11_used) 58 = .ok (.getfield 12, 3) := by decide +kernel
theorem d_X11_used_61 : decode (qMc M_X11_used) 61 = .ok (.getfield 144, 3) := by decide +kernel
theorem d_X11_used_64 : decode (qMc M_X11_used) 64 = .ok (.invokevirtual 258, 3) := by decide +kernel
theorem d_X11_used_67 : decode (qMc M_X11_used) 67 = .ok (.goto 17, 3) := by decide +kernel
theorem d_X11_used_70 : decode (qMc M_X11_used) 70 = .ok (.aload_n 0, 1) := by decide +kernel
theorem d_X11_used_71 : decode (qMc M_X11_used) 71 = .ok (.getfield 40, 3) := by decide +kernel
theorem d_X11_used_74 : decode (qMc M_X11_used) 74 = .ok (.aload_n 0, 1) := by decide +kernel
theorem d_X11_used_75 : decode (qMc M_X11_used) 75 = .ok (.getfield 12, 3) := by decide +kernel
theorem d_X11_used_78 : decode (qMc M_X11_used) 78 = .ok (.getfield 144, 3) := by decide +kernel
theorem d_X11_used_81 : decode (qMc M_X11_used) 81 = .ok (.invokevirtual 262, 3) := by decide +kernel
theorem d_X11_used_84 : decode (qMc M_X11_used) 84 = .ok (.ireturn, 1) := by decide +kernel
theorem d_X11_two_0 : decode (qMc M_X11_two) 0 = .ok (.iload_n 1, 1) := by decide +kernel
theorem d_X11_two_1 : decode (qMc M_X11_two) 1 = .ok (.iconst 2, 1) := by decide +kernel
theorem d_X11_two_2 : decode (qMc M_X11_two) 2 = .ok (.bipush 24, 2) := by decide +kernel
theorem d_X11_two_4 : decode (qMc M_X11_two) 4 = .ok (.invokestatic 62, 3) := by decide +kernel
theorem d_X11_two_7 : decode (qMc M_X11_two) 7 = .ok (.ifCond .eq 13, 3) := by decide +kernel
theorem d_X11_two_10 : decode (qMc M_X11_two) 10 = .ok (.iload_n 2, 1) := by decide +kernel
theorem d_X11_two_11 : decode (qMc M_X11_two) 11 = .ok (.iconst 0, 1) := by decide +kernel
theorem d_X11_two_12 : decode (qMc M_X11_two) 12 = .ok (.bipush 40, 2) := by decide +kernel
theorem d_X11_two_14 : decode (qMc M_X11_two) 14 = .ok (.invokestatic 62, 3) := by decide +kernel
theorem d_X11_two_17 : decode (qMc M_X11_two) 17 = .ok (.ifCond .ne 5, 3) := by decide +kernel
theorem d_X11_two_20 : decode (qMc M_X11_two) 20 = .ok (.iconst (-1), 1) := by decide +kernel
theorem d_X11_two_21 : decode (qMc M_X11_two) 21 = .ok (.ireturn, 1) := by decide +kernel
theorem d_X11_two_22 : decode (qMc M_X11_two) 22 = .ok (.iconst 2, 1) := by decide +kernel
theorem d_X11_two_23 : decode (qMc M_X11_two) 23 = .ok (.istore_n 3, 1) := by decide +kernel
theorem d_X11_two_24 : decode (qMc M_X11_two) 24 = .ok (.iload_n 3, 1) := by decide +kernel
theorem d_X11_two_25 : decode (qMc M_X11_two) 25 = .ok (.iload_n 1, 1) := by decide +kernel
theorem d_X11_two_26 : decode (qMc M_X11_two) 26 = .ok (.if_icmp .gt 20, 3) := by decide +kernel
theorem d_X11_two_29 : decode (qMc M_X11_two) 29 = .ok (.aload_n 0, 1) := by decide +kernel
theorem d_X11_two_30 : decode (qMc M_X11_two) 30 = .ok (.iload_n 3, 1) := by decide +kernel
theorem d_X11_two_31 : decode (qMc M_X11_two) 31 = .ok (.iload_n 2, 1) := by decide +kernel
theorem d_X11_two_32 : decode (qMc M_X11_two) 32 = .ok (.invokevirtual 333, 3) := by decide +kernel
theorem d_X11_two_35 : decode (qMc M_X11_two) 35 = .ok (.ifCond .ne 5, 3) := by decide +kernel
theorem d_X11_two_38 : decode (qMc M_X11_two) 38 = .ok (.iload_n 3, 1) := by decide +kernel
theorem d_X11_two_39 : decode (qMc M_X11_two) 39 = .ok (.ireturn, 1) := by decide +kernel
theorem d_X11_two_40 : decode (qMc M_X11_two) 40 = .ok (.iinc 3 1, 3) := by decide +kernel
theorem d_X11_two_43 : decode (qMc M_X11_two) 43 = .ok (.goto (-19), 3) := by decide +kernel
theorem d_X11_two_46 : decode (qMc M_X11_two) 46 = .ok (.iconst (-1), 1) := by decide +kernel
theorem d_X11_two_47 : decode (qMc M_X11_two) 47 = .ok (.ireturn, 1) := by decide +kernel
theorem d_X11_isGoodWithTwo_0 : decode (qMc M_X11_isGoodWithTwo) 0 = .ok (.aload_n 0, 1) := by decide +kernel
theorem d_X11_isGoodWithTwo_1 : decode (qMc M_X11_isGoodWithTwo) 1 = .ok (.getfield 40, 3) := by decide +kernel
theorem d_X11_isGoodWithTwo_4 : decode (qMc M_X11_isGoodWithTwo) 4 = .ok (.getfield 293, 3) := by decide +kernel
theorem d_X11_isGoodWithTwo_7 : decode (qMc M_X11_isGoodWithTwo) 7 = .ok (.astore_n 3, 1) := by decide +kernel
theorem d_X11_isGoodWithTwo_8 : decode (qMc M_X11_isGoodWithTwo) 8 = .ok (.aload_n 3, 1) := by decide +kernel
theorem d_X11_isGoodWithTwo_9 : decode (qMc M_X11_isGoodWithTwo) 9 = .ok (.iload_n 1, 1) := by decide +kernel
theorem d_X11_isGoodWithTwo_10 : decode (qMc M_X11_isGoodWithTwo) 10 = .ok (.iconst 0, 1) := by decide +kernel
theorem d_X11_isGoodWithTwo_11 : decode (qMc M_X11_isGoodWithTwo) 11 = .ok (.iconst 0, 1) := by decide +kernel
theorem d_X11_isGoodWithTwo_12 : decode (qMc M_X11_isGoodWithTwo) 12 = .ok (.invokevirtual 297, 3) := by decide +kernel
theorem d_X11_isGoodWithTwo_15 : decode (qMc M_X11_isGoodWithTwo) 15 = .ok (.iconst 0, 1) := by decide +kernel
theorem d_X11_isGoodWithTwo_16 : decode (qMc M_X11_isGoodWithTwo) 16 = .ok (.istore 4, 2) := by decide +kernel
theorem d_X11_isGoodWithTwo_18 : decode (qMc M_X11_isGoodWithTwo) 18 = .ok (.iload 4, 2) := by decide +kernel
theorem d_X11_isGoodWithTwo_20 : decode (qMc M_X11_isGoodWithTwo) 20 = .ok (.aload_n 3, 1) := by decide +kernel
theorem d_X11_isGoodWithTwo_21 : decode (qMc M_X11_isGoodWithTwo) 21 = .ok (.getfield 336, 3) := by decide +kernel
theorem d_X11_isGoodWithTwo_24 : decode (qMc M_X11_isGoodWithTwo) 24 = .ok (.if_icmp .ge 45, 3) := by decide +kernel
theorem d_X11_isGoodWithTwo_27 : decode (qMc M_X11_isGoodWithTwo) 27 = .ok (.aload_n 3, 1) := by decide +kernel
theorem d_X11_isGoodWithTwo_28 : decode (qMc M_X11_isGoodWithTwo) 28 = .ok (.getfield 320, 3) := by decide +kernel
theorem d_X11_isGoodWithTwo_31 : decode (qMc M_X11_isGoodWithTwo) 31 = .ok (.ifCond .ne 38, 3) := by decide +kernel
theorem d_X11_isGoodWithTwo_34 : decode (qMc M_X11_isGoodWithTwo) 34 = .ok (.iload 4, 2) := by decide +kernel
theorem d_X11_isGoodWithTwo_36 : decode (qMc M_X11_isGoodWithTwo) 36 = .ok (.iload_n 2, 1) := by decide +kernel
theorem d_X11_isGoodWithTwo_37 : decode (qMc M_X11_isGoodWithTwo) 37 = .ok (.if_icmp .ne 12, 3) := by decide +kernel
theorem d_X11_isGoodWithTwo_40 : decode (qMc M_X11_isGoodWithTwo) 40 = .ok (.aload_n 3, 1) := by decide +kernel
theorem d_X11_isGoodWithTwo_41 : decode (qMc M_X11_isGoodWithTwo) 41 = .ok (.getfield 339, 3) := by decide +kernel
theorem d_X11_isGoodWithTwo_44 : decode (qMc M_X11_isGoodWithTwo) 44 = .ok (.iload_n 1, 1) := by decide +kernel
theorem d_X11_isGoodWithTwo_45 : decode (qMc M_X11_isGoodWithTwo) 45 = .ok (.iconst 1, 1) := by decide +kernel
theorem d_X11_isGoodWithTwo_46 : decode (qMc M_X11_isGoodWithTwo) 46 = .ok (.isub, 1) := by decide +kernel
theorem d_X11_isGoodWithTwo_47 : decode (qMc M_X11_isGoodWithTwo) 47 = .ok (.iconst 1, 1) := by decide +kernel
theorem d_X11_isGoodWithTwo_48 : decode (qMc M_X11_isGoodWithTwo) 48 = .ok (.iastore, 1) := by decide +kernel
theorem d_X11_isGoodWithTwo_49 : decode (qMc M_X11_isGoodWithTwo) 49 = .ok (.aload_n 3, 1) := by decide +kernel
theorem d_X11_isGoodWithTwo_50 : decode (qMc M_X11_isGoodWithTwo) 50 = .ok (.aload_n 0, 1) := by decide +kernel
theorem d_X11_isGoodWithTwo_51 : decode (qMc M_X11_isGoodWithTwo) 51 = .ok (.getfield 12, 3) := by decide +kernel
theorem d_X11_isGoodWithTwo_54 : decode (qMc M_X11_isGoodWithTwo) 54 = .ok (.getfield 144, 3) := by decide +kernel
theorem d_X11_isGoodWithTwo_57 : decode (qMc M_X11_isGoodWithTwo) 57 = .ok (.getfield 243, 3) := by decide +kernel
theorem d_X11_isGoodWithTwo_60 : decode (qMc M_X11_isGoodWithTwo) 60 = .ok (.invokevirtual 340, 3) := by decide +kernel
theorem d_X11_isGoodWithTwo_63 : decode (qMc M_X11_isGoodWithTwo) 63 = .ok (.iinc 4 1, 3) := by decide +kernel
theorem d_X11_isGoodWithTwo_66 : decode (qMc M_X11_isGoodWithTwo) 66 = .ok (.goto (-48), 3) := by decide +kernel
theorem d_X11_isGoodWithTwo_69 : decode (qMc M_X11_isGoodWithTwo) 69 = .ok (.aload_n 3, 1) := by decide +kernel
theorem d_X11_isGoodWithTwo_70 : decode (qMc M_X11_isGoodWithTwo) 70 = .ok (.invokevirtual 342, 3) := by decide +kernel
theorem d_X11_isGoodWithTwo_73 : decode (qMc M_X11_isGoodWithTwo) 73 = .ok (.ireturn, 1) := by decide +kernel
theorem d_X11_deafened_0 : decode (qMc M_X11_deafened) 0 = .ok (.iload_n 1, 1) := by decide +kernel
theorem d_X11_deafened_1 : decode (qMc M_X11_deafened) 1 = .ok (.iload_n 2, 1) := by decide +kernel
theorem d_X11_deafened_2 : decode (qMc M_X11_deafened) 2 = .ok (.invokestatic 280, 3) := by decide +kernel
theorem d_X11_deafened_5 : decode (qMc M_X11_deafened) 5 = .ok (.ifCond .eq 12, 3) := by decide +kernel
theorem d_X11_deafened_8 : decode (qMc M_X11_deafened) 8 = .ok (.iload_n 3, 1) := by decide +kernel
theorem d_X11_deafened_9 : decode (qMc M_X11_deafened) 9 = .ok (.iconst 0, 1) := by decide +kernel
theorem d_X11_deafened_10 : decode (qMc M_X11_deafened) 10 = .ok (.iconst 1, 1) := by decide +kernel
theorem d_X11_deafened_11 : decode (qMc M_X11_deafened) 11 = .ok (.invokestatic 62, 3) := by decide +kernel
theorem d_X11_deafened_14 : decode (qMc M_X11_deafened) 14 = .ok (.ifCond .ne 5, 3) := by decide +kernel
theorem d_X11_deafened_17 : decode (qMc M_X11_deafened) 17 = .ok (.iconst (-1), 1) := by decide +kernel
theorem d_X11_deafened_18 : decode (qMc M_X11_deafened) 18 = .ok (.ireturn, 1) := by decide +kernel
theorem d_X11_deafened_19 : decode (qMc M_X11_deafened) 19 = .ok (.aload_n 0, 1) := by decide +kernel
theorem d_X11_deafened_20 : decode (qMc M_X11_deafened) 20 = .ok (.getfield 40, 3) := by decide +kernel
theorem d_X11_deafened_23 : decode (qMc M_X11_deafened) 23 = .ok (.getfield 293, 3) := by decide +kernel
theorem d_X11_deafened_26 : decode (qMc M_X11_deafened) 26 = .ok (.astore 4, 2) := by decide +kernel
theorem d_X11_deafened_28 : decode (qMc M_X11_deafened) 28 = .ok (.aload 4, 2) := by decide +kernel
theorem d_X11_deafened_30 : decode (qMc M_X11_deafened) 30 = .ok (.iload_n 1, 1) := by decide +kernel
theorem d_X11_deafened_31 : decode (qMc M_X11_deafened) 31 = .ok (.iconst 0, 1) := by decide +kernel
theorem d_X11_deafened_32 : decode (qMc M_X11_deafened) 32 = .ok (.iconst 0, 1) := by decide +kernel
theorem d_X11_deafened_33 : decode (qMc M_X11_deafened) 33 = .ok (.invokevirtual 297, 3) := by decide +kernel
theorem d_X11_deafened_36 : decode (qMc M_X11_deafened) 36 = .ok (.aload 4, 2) := by decide +kernel
theorem d_X11_deafened_38 : decode (qMc M_X11_deafened) 38 = .ok (.iload_n 2, 1) := by decide +kernel
theorem d_X11_deafened_39 : decode (qMc M_X11_deafened) 39 = .ok (.putfield 345, 3) := by decide +kernel
theorem d_X11_deafened_42 : decode (qMc M_X11_deafened) 42 = .ok (.iconst 0, 1) := by decide +kernel
theorem d_X11_deafened_43 : decode (qMc M_X11_deafened) 43 = .ok (.istore 5, 2) := by decide +kernel
theorem d_X11_deafened_45 : decode (qMc M_X11_deafened) 45 = .ok (.iconst (-1), 1) := by decide +kernel
theorem d_X11_deafened_46 : decode (qMc M_X11_deafened) 46 = .ok (.istore 6, 2) := by decide +kernel
theorem d_X11_deafened_48 : decode (qMc M_X11_deafened) 48 = .ok (.iconst 1, 1) := by decide +kernel
theorem d_X11_deafened_49 : decode (qMc M_X11_deafened) 49 = .ok (.istore 7, 2) := by decide +kernel
theorem d_X11_deafened_51 : decode (qMc M_X11_deafened) 51 = .ok (.iload 7, 2) := by decide +kernel
theorem d_X11_deafened_53 : decode (qMc M_X11_deafened) 53 = .ok (.aload 4, 2) := by decide +kernel
theorem d_X11_deafened_55 : decode (qMc M_X11_deafened) 55 = .ok (.getfield 336, 3) := by decide +kernel
theorem d_X11_deafened_58 : decode (qMc M_X11_deafened) 58 = .ok (.if_icmp .gt 58, 3) := by decide +kernel
theorem d_X11_deafened_61 : decode (qMc M_X11_deafened) 61 = .ok (.aload 4, 2) := by decide +kernel
theorem d_X11_deafened_63 : decode (qMc M_X11_deafened) 63 = .ok (.getfield 320, 3) := by decide +kernel
theorem d_X11_deafened_66 : decode (qMc M_X11_deafened) 66 = .ok (.istore 8, 2) := by decide +kernel
theorem d_X11_deafened_68 : decode (qMc M_X11_deafened) 68 = .ok (.aload 4, 2) := by decide +kernel
theorem d_X11_deafened_70 : decode (qMc M_X11_deafened) 70 = .ok (.aload_n 0, 1) := by decide +kernel
theorem d_X11_deafened_71 : decode (qMc M_X11_deafened) 71 = .ok (.getfield 12, 3) := by decide +kernel
theorem d_X11_deafened_74 : decode (qMc M_X11_deafened) 74 = .ok (.getfield 144, 3) := by decide +kernel
theorem d_X11_deafened_77 : decode (qMc M_X11_deafened) 77 = .ok (.getfield 243, 3) := by decide +kernel
theorem d_X11_deafened_80 : decode (qMc M_X11_deafened) 80 = .ok (.invokevirtual 340, 3) := by decide +kernel
theorem d_X11_deafened_83 : decode (qMc M_X11_deafened) 83 = .ok (.aload 4, 2) := by decide +kernel
theorem d_X11_deafened_85 : decode (qMc M_X11_deafened) 85 = .ok (.getfield 320, 3) := by decide +kernel
theorem d_X11_deafened_88 : decode (qMc M_X11_deafened) 88 = .ok (.iload 8, 2) := by decide +kernel
theorem d_X11_deafened_90 : decode (qMc M_X11_deafened) 90 = .ok (.isub, 1) := by decide +kernel
theorem d_X11_deafened_91 : decode (qMc M_X11_deafened) 91 = .ok (.iload 5, 2) := by decide +kernel
theorem d_X11_deafened_93 : decode (qMc M_X11_deafened) 93 = .ok (.if_icmp .le 17, 3) := by decide +kernel
theorem d_X11_deafened_96 : decode (qMc M_X11_deafened) 96 = .ok (.aload 4, 2) := by decide +kernel
theorem d_X11_deafened_98 : decode (qMc M_X11_deafened) 98 = .ok (.getfield 320, 3) := by decide +kernel
theorem d_X11_deafened_101 : decode (qMc M_X11_deafened) 101 = .ok (.iload 8, 2) := by decide +kernel
theorem d_X11_deafened_103 : decode (qMc M_X11_deafened) 103 = .ok (.isub, 1) := by decide +kernel
theorem d_X11_deafened_104 : decode (qMc M_X11_deafened) 104 = .ok (.istore 5, 2) := by decide +kernel
theorem d_X11_deafened_106 : decode (qMc M_X11_deafened) 106 = .ok (.iload 7, 2) := by decide +kernel
theorem d_X11_deafened_108 : decode (qMc M_X11_deafened) 108 = .ok (.istore 6, 2) := by decide +kernel
theorem d_X11_deafened_110 : decode (qMc M_X11_deafened) 110 = .ok (.iinc 7 1, 3) := by decide +kernel
theorem d_X11_deafened_113 : decode (qMc M_X11_deafened) 113 = .ok (.goto (-62), 3) := by decide +kernel
theorem d_X11_deafened_116 : decode (qMc M_X11_deafened) 116 = .ok (.iload_n 3, 1) := by decide +kernel
theorem d_X11_deafened_117 : decode (qMc M_X11_deafened) 117 = .ok (.ifCond .ne 8, 3) := by decide +kernel
theorem d_X11_deafened_120 : decode (qMc M_X11_deafened) 120 = .ok (.iload 5, 2) := by decide +kernel
theorem d_X11_deafened_122 : decode (qMc M_X11_deafened) 122 = .ok (.goto 5, 3) := by decide +kernel
theorem d_X11_deafened_125 : decode (qMc M_X11_deafened) 125 = .ok (.iload 6, 2) := by decide +kernel
theorem d_X11_deafened_127 : decode (qMc M_X11_deafened) 127 = .ok (.ireturn, 1) := by decide +kernel
theorem d_X11_picture_0 : decode (qMc M_X11_picture) 0 = .ok (.iload_n 1, 1) := by decide +kernel
theorem d_X11_picture_1 : decode (qMc M_X11_picture) 1 = .ok (.iload_n 2, 1) := by decide +kernel
theorem d_X11_picture_2 : decode (qMc M_X11_picture) 2 = .ok (.invokestatic 280, 3) := by decide +kernel
theorem d_X11_picture_5 : decode (qMc M_X11_picture) 5 = .ok (.ifCond .eq 25, 3) := by decide +kernel
theorem d_X11_picture_8 : decode (qMc M_X11_picture) 8 = .ok (.iload_n 3, 1) := by decide +kernel
theorem d_X11_picture_9 : decode (qMc M_X11_picture) 9 = .ok (.iconst 0, 1) := by decide +kernel
theorem d_X11_picture_10 : decode (qMc M_X11_picture) 10 = .ok (.bipush 116, 2) := by decide +kernel
theorem d_X11_picture_12 : decode (qMc M_X11_picture) 12 = .ok (.invokestatic 62, 3) := by decide +kernel
theorem d_X11_picture_15 : decode (qMc M_X11_picture) 15 = .ok (.ifCond .eq 15, 3) := by decide +kernel
theorem d_X11_picture_18 : decode (qMc M_X11_picture) 18 = .ok (.iload 4, 2) := by decide +kernel
theorem d_X11_picture_20 : decode (qMc M_X11_picture) 20 = .ok (.iconst 0, 1) := by decide +kernel
theorem d_X11_picture_21 : decode (qMc M_X11_picture) 21 = .ok (.iload_n 1, 1) := by decide +kernel
theorem d_X11_picture_22 : decode (qMc M_X11_picture) 22 = .ok (.iconst 1, 1) := by decide +kernel
theorem d_X11_picture_23 : decode (qMc M_X11_picture) 23 = .ok (.isub, 1) := by decide +kernel
theorem d_X11_picture_24 : decode (qMc M_X11_picture) 24 = .ok (.invokestatic 62, 3) := by decide +kernel
theorem d_X11_picture_27 : decode (qMc M_X11_picture) 27 = .ok (.ifCond .ne 5, 3) := by decide +kernel
theorem d_X11_picture_30 : decode (qMc M_X11_picture) 30 = .ok (.iconst (-1), 1) := by decide +kernel
theorem d_X11_picture_31 : decode (qMc M_X11_picture) 31 = .ok (.ireturn, 1) := by decide +kernel
theorem d_X11_picture_32 : decode (qMc M_X11_picture) 32 = .ok (.aload_n 0, 1) := by decide +kernel
theorem d_X11_picture_33 : decode (qMc M_X11_picture) 33 = .ok (.getfield 40, 3) := by decide +kernel
theorem d_X11_picture_36 : decode (qMc M_X11_picture) 36 = .ok (.getfield 293, 3) := by decide +kernel
theorem d_X11_picture_39 : decode (qMc M_X11_picture) 39 = .ok (.astore 5, 2) := by decide +kernel
theorem d_X11_picture_41 : decode (qMc M_X11_picture) 41 = .ok (.aload 5, 2) := by decide +kernel
theorem d_X11_picture_43 : decode (qMc M_X11_picture) 43 = .ok (.iload_n 1, 1) := by decide +kernel
theorem d_X11_picture_44 : decode (qMc M_X11_picture) 44 = .ok (.iload_n 2, 1) := by decide +kernel
theorem d_X11_picture_45 : decode (qMc M_X11_picture) 45 = .ok (.iconst 0, 1) := by decide +kernel
theorem d_X11_picture_46 : decode (qMc M_X11_picture) 46 = .ok (.invokevirtual 297, 3) := by decide +kernel
theorem d_X11_picture_49 : decode (qMc M_X11_picture) 49 = .ok (.iconst 0, 1) := by decide +kernel
theorem d_X11_picture_50 : decode (qMc M_X11_picture) 50 = .ok (.istore 6, 2) := by decide +kernel
theorem d_X11_picture_52 : decode (qMc M_X11_picture) 52 = .ok (.iload 6, 2) := by decide +kernel
theorem d_X11_picture_54 : decode (qMc M_X11_picture) 54 = .ok (.iload_n 3, 1) := by decide +kernel
theorem d_X11_picture_55 : decode (qMc M_X11_picture) 55 = .ok (.if_icmp .ge 32, 3) := by decide +kernel
theorem d_X11_picture_58 : decode (qMc M_X11_picture) 58 = .ok (.aload 5, 2) := by decide +kernel
theorem d_X11_picture_60 : decode (qMc M_X11_picture) 60 = .ok (.invokevirtual 348, 3) := by decide +kernel
theorem d_X11_picture_63 : decode (qMc M_X11_picture) 63 = .ok (.ifCond .eq 24, 3) := by decide +kernel
theorem d_X11_picture_66 : decode (qMc M_X11_picture) 66 = .ok (.aload 5, 2) := by decide +kernel
theorem d_X11_picture_68 : decode (qMc M_X11_picture) 68 = .ok (.aload_n 0, 1) := by decide +kernel
theorem d_X11_picture_69 : decode (qMc M_X11_picture) 69 = .ok (.getfield 12, 3) := by decide +kernel
theorem d_X11_picture_72 : decode (qMc M_X11_picture) 72 = .ok (.getfield 144, 3) := by decide +kernel
theorem d_X11_picture_75 : decode (qMc M_X11_picture) 75 = .ok (.getfield 243, 3) := by decide +kernel
theorem d_X11_picture_78 : decode (qMc M_X11_picture) 78 = .ok (.invokevirtual 340, 3) := by decide +kernel
theorem d_X11_picture_81 : decode (qMc M_X11_picture) 81 = .ok (.iinc 6 1, 3) := by decide +kernel
theorem d_X11_picture_84 : decode (qMc M_X11_picture) 84 = .ok (.goto (-32), 3) := by decide +kernel
theorem d_X11_picture_87 : decode (qMc M_X11_picture) 87 = .ok (.aload 5, 2) := by decide +kernel
theorem d_X11_picture_89 : decode (qMc M_X11_picture) 89 = .ok (.getfield 339, 3) := by decide +kernel
theorem d_X11_picture_92 : decode (qMc M_X11_picture) 92 = .ok (.iload 4, 2) := by decide +kernel
theorem d_X11_picture_94 : decode (qMc M_X11_picture) 94 = .ok (.iaload, 1) := by decide +kernel
theorem d_X11_picture_95 : decode (qMc M_X11_picture) 95 = .ok (.ireturn, 1) := by decide +kernel
theorem d_X11_mark_0 : decode (qMc M_X11_mark) 0 = .ok (.iload_n 1, 1) := by decide +kernel
theorem d_X11_mark_1 : decode (qMc M_X11_mark) 1 = .ok (.iload_n 2, 1) := by decide +kernel
theorem d_X11_mark_2 : decode (qMc M_X11_mark) 2 = .ok (.invokestatic 280, 3) := by decide +kernel
theorem d_X11_mark_5 : decode (qMc M_X11_mark) 5 = .ok (.ifCond .eq 25, 3) := by decide +kernel
theorem d_X11_mark_8 : decode (qMc M_X11_mark) 8 = .ok (.iload_n 3, 1) := by decide +kernel
theorem d_X11_mark_9 : decode (qMc M_X11_mark) 9 = .ok (.iconst 0, 1) := by decide +kernel
theorem d_X11_mark_10 : decode (qMc M_X11_mark) 10 = .ok (.bipush 7, 2) := by decide +kernel
theorem d_X11_mark_12 : decode (qMc M_X11_mark) 12 = .ok (.invokestatic 62, 3) := by decide +kernel
theorem d_X11_mark_15 : decode (qMc M_X11_mark) 15 = .ok (.ifCond .eq 15, 3) := by decide +kernel
theorem d_X11_mark_18 : decode (qMc M_X11_mark) 18 = .ok (.iload 4, 2) := by decide +kernel
theorem d_X11_mark_20 : decode (qMc M_X11_mark) 20 = .ok (.iconst 0, 1) := by decide +kernel
theorem d_X11_mark_21 : decode (qMc M_X11_mark) 21 = .ok (.iload_n 1, 1) := by decide +kernel
theorem d_X11_mark_22 : decode (qMc M_X11_mark) 22 = .ok (.iconst 1, 1) := by decide +kernel
theorem d_X11_mark_23 : decode (qMc M_X11_mark) 23 = .ok (.isub, 1) := by decide +kernel
theorem d_X11_mark_24 : decode (qMc M_X11_mark) 24 = .ok (.invokestatic 62, 3) := by decide +kernel
theorem d_X11_mark_27 : decode (qMc M_X11_mark) 27 = .ok (.ifCond .ne 5, 3) := by decide +kernel
theorem d_X11_mark_30 : decode (qMc M_X11_mark) 30 = .ok (.iconst (-1), 1) := by decide +kernel
theorem d_X11_mark_31 : decode (qMc M_X11_mark) 31 = .ok (.ireturn, 1) := by decide +kernel
theorem d_X11_mark_32 : decode (qMc M_X11_mark) 32 = .ok (.aload_n 0, 1) := by decide +kernel
theorem d_X11_mark_33 : decode (qMc M_X11_mark) 33 = .ok (.getfield 40, 3) := by decide +kernel
theorem d_X11_mark_36 : decode (qMc M_X11_mark) 36 = .ok (.getfield 293, 3) := by decide +kernel
theorem d_X11_mark_39 : decode (qMc M_X11_mark) 39 = .ok (.astore 5, 2) := by decide +kernel
theorem d_X11_mark_41 : decode (qMc M_X11_mark) 41 = .ok (.aload 5, 2) := by decide +kernel
theorem d_X11_mark_43 : decode (qMc M_X11_mark) 43 = .ok (.iload_n 1, 1) := by decide +kernel
theorem d_X11_mark_44 : decode (qMc M_X11_mark) 44 = .ok (.iload_n 2, 1) := by decide +kernel
theorem d_X11_mark_45 : decode (qMc M_X11_mark) 45 = .ok (.iconst 0, 1) := by decide +kernel
theorem d_X11_mark_46 : decode (qMc M_X11_mark) 46 = .ok (.invokevirtual 297, 3) := by decide +kernel
theorem d_X11_mark_49 : decode (qMc M_X11_mark) 49 = .ok (.iconst 0, 1) := by decide +kernel
theorem d_X11_mark_50 : decode (qMc M_X11_mark) 50 = .ok (.istore 6, 2) := by decide +kernel
theorem d_X11_mark_52 : decode (qMc M_X11_mark) 52 = .ok (.iload 6, 2) := by decide +kernel
theorem d_X11_mark_54 : decode (qMc M_X11_mark) 54 = .ok (.aload 5, 2) := by decide +kernel
theorem d_X11_mark_56 : decode (qMc M_X11_mark) 56 = .ok (.getfield 336, 3) := by decide +kernel
theorem d_X11_mark_59 : decode (qMc M_X11_mark) 59 = .ok (.if_icmp .ge 44, 3) := by decide +kernel
theorem d_X11_mark_62 : decode (qMc M_X11_mark) 62 = .ok (.aload 5, 2) := by decide +kernel
theorem d_X11_mark_64 : decode (qMc M_X11_mark) 64 = .ok (.getfield 320, 3) := by decide +kernel
theorem d_X11_mark_67 : decode (qMc M_X11_mark) 67 = .ok (.ifCond .ne 36, 3) := by decide +kernel
theorem d_X11_mark_70 : decode (qMc M_X11_mark) 70 = .ok (.aload 5, 2) := by decide +kernel
theorem d_X11_mark_72 : decode (qMc M_X11_mark) 72 = .ok (.getfield 339, 3) := by decide +kernel
theorem d_X11_mark_75 : decode (qMc M_X11_mark) 75 = .ok (.iload 4, 2) := by decide +kernel
theorem d_X11_mark_77 : decode (qMc M_X11_mark) 77 = .ok (.iaload, 1) := by decide +kernel
theorem d_X11_mark_78 : decode (qMc M_X11_mark) 78 = .ok (.iload_n 3, 1) := by decide +kernel
theorem d_X11_mark_79 : decode (qMc M_X11_mark) 79 = .ok (.if_icmp .eq 24, 3) := by decide +kernel
theorem d_X11_mark_82 : decode (qMc M_X11_mark) 82 = .ok (.aload 5, 2) := by decide +kernel
theorem d_X11_mark_84 : decode (qMc M_X11_mark) 84 = .ok (.aload_n 0, 1) := by decide +kernel
theorem d_X11_mark_85 : decode (qMc M_X11_mark) 85 = .ok (.getfield 12, 3) := by decide +kernel
theorem d_X11_mark_88 : decode (qMc M_X11_mark) 88 = .ok (.getfield 144, 3) := by decide +kernel
theorem d_X11_mark_91 : decode (qMc M_X11_mark) 91 = .ok (.getfield 243, 3) := by decide +kernel
theorem d_X11_mark_94 : decode (qMc M_X11_mark) 94 = .ok (.invokevirtual 340, 3) := by decide +kernel
theorem d_X11_mark_97 : decode (qMc M_X11_mark) 97 = .ok (.iinc 6 1, 3) := by decide +kernel
theorem d_X11_mark_100 : decode (qMc M_X11_mark) 100 = .ok (.goto (-48), 3) := by decide +kernel
theorem d_X11_mark_103 : decode (qMc M_X11_mark) 103 = .ok (.aload 5, 2) := by decide +kernel
theorem d_X11_mark_105 : decode (qMc M_X11_mark) 105 = .ok (.getfield 339, 3) := by decide +kernel
theorem d_X11_mark_108 : decode (qMc M_X11_mark) 108 = .ok (.iload 4, 2) := by decide +kernel
theorem d_X11_mark_110 : decode (qMc M_X11_mark) 110 = .ok (.iaload, 1) := by decide +kernel
theorem d_X11_mark_111 : decode (qMc M_X11_mark) 111 = .ok (.iload_n 3, 1) := by decide +kernel
theorem d_X11_mark_112 : decode (qMc M_X11_mark) 112 = .ok (.if_icmp .ne 11, 3) := by decide +kernel
theorem d_X11_mark_115 : decode (qMc M_X11_mark) 115 = .ok (.aload 5, 2) := by decide +kernel
theorem d_X11_mark_117 : decode (qMc M_X11_mark) 117 = .ok (.getfield 323, 3) := by decide +kernel
theorem d_X11_mark_120 : decode (qMc M_X11_mark) 120 = .ok (.goto 4, 3) := by decide +kernel
theorem d_X11_mark_123 : decode (qMc M_X11_mark) 123 = .ok (.iconst (-1), 1) := by decide +kernel
theorem d_X11_mark_124 : decode (qMc M_X11_mark) 124 = .ok (.ireturn, 1) := by decide +kernel
theorem d_X11_stir_0 : decode (qMc M_X11_stir) 0 = .ok (.iload_n 1, 1) := by decide +kernel
theorem d_X11_stir_1 : decode (qMc M_X11_stir) 1 = .ok (.iload_n 2, 1) := by decide +kernel
theorem d_X11_stir_2 : decode (qMc M_X11_stir) 2 = .ok (.invokestatic 280, 3) := by decide +kernel
theorem d_X11_stir_5 : decode (qMc M_X11_stir) 5 = .ok (.ifCond .eq 12, 3) := by decide +kernel
theorem d_X11_stir_8 : decode (qMc M_X11_stir) 8 = .ok (.iload_n 3, 1) := by decide +kernel
theorem d_X11_stir_9 : decode (qMc M_X11_stir) 9 = .ok (.iconst 0, 1) := by decide +kernel
theorem d_X11_stir_10 : decode (qMc M_X11_stir) 10 = .ok (.iconst 2, 1) := by decide +kernel
theorem d_X11_stir_11 : decode (qMc M_X11_stir) 11 = .ok (.invokestatic 62, 3) := by decide +kernel
theorem d_X11_stir_14 : decode (qMc M_X11_stir) 14 = .ok (.ifCond .ne 5, 3) := by decide +kernel
theorem d_X11_stir_17 : decode (qMc M_X11_stir) 17 = .ok (.iconst (-1), 1) := by decide +kernel
theorem d_X11_stir_18 : decode (qMc M_X11_stir) 18 = .ok (.ireturn, 1) := by decide +kernel
theorem d_X11_stir_19 : decode (qMc M_X11_stir) 19 = .ok (.aload_n 0, 1) := by decide +kernel
theorem d_X11_stir_20 : decode (qMc M_X11_stir) 20 = .ok (.getfield 40, 3) := by decide +kernel
theorem d_X11_stir_23 : decode (qMc M_X11_stir) 23 = .ok (.getfield 293, 3) := by decide +kernel
theorem d_X11_stir_26 : decode (qMc M_X11_stir) 26 = .ok (.astore 4, 2) := by decide +kernel
theorem d_X11_stir_28 : decode (qMc M_X11_stir) 28 = .ok (.aload 4, 2) := by decide +kernel
theorem d_X11_stir_30 : decode (qMc M_X11_stir) 30 = .ok (.iload_n 1, 1) := by decide +kernel
theorem d_X11_stir_31 : decode (qMc M_X11_stir) 31 = .ok (.iload_n 2, 1) := by decide +kernel
theorem d_X11_stir_32 : decode (qMc M_X11_stir) 32 = .ok (.iconst 0, 1) := by decide +kernel
theorem d_X11_stir_33 : decode (qMc M_X11_stir) 33 = .ok (.invokevirtual 297, 3) := by decide +kernel
theorem d_X11_stir_36 : decode (qMc M_X11_stir) 36 = .ok (.iconst 0, 1) := by decide +kernel
theorem d_X11_stir_37 : decode (qMc M_X11_stir) 37 = .ok (.istore 5, 2) := by decide +kernel
theorem d_X11_stir_39 : decode (qMc M_X11_stir) 39 = .ok (.iconst 0, 1) := by decide +kernel
theorem d_X11_stir_40 : decode (qMc M_X11_stir) 40 = .ok (.istore 6, 2) := by decide +kernel
theorem d_X11_stir_42 : decode (qMc M_X11_stir) 42 = .ok (.iconst (-1), 1) := by decide +kernel
theorem d_X11_stir_43 : decode (qMc M_X11_stir) 43 = .ok (.istore 7, 2) := by decide +kernel
theorem d_X11_stir_45 : decode (qMc M_X11_stir) 45 = .ok (.iconst 1, 1) := by decide +kernel
theorem d_X11_stir_46 : decode (qMc M_X11_stir) 46 = .ok (.istore 8, 2) := by decide +kernel
theorem d_X11_stir_48 : decode (qMc M_X11_stir) 48 = .ok (.iload 8, 2) := by decide +kernel
theorem d_X11_stir_50 : decode (qMc M_X11_stir) 50 = .ok (.aload 4, 2) := by decide +kernel
theorem d_X11_stir_52 : decode (qMc M_X11_stir) 52 = .ok (.getfield 336, 3) := by decide +kernel
theorem d_X11_stir_55 : decode (qMc M_X11_stir) 55 = .ok (.if_icmp .gt 64, 3) := by decide +kernel
theorem d_X11_stir_58 : decode (qMc M_X11_stir) 58 = .ok (.aload 4, 2) := by decide +kernel
theorem d_X11_stir_60 : decode (qMc M_X11_stir) 60 = .ok (.getfield 320, 3) := by decide +kernel
theorem d_X11_stir_63 : decode (qMc M_X11_stir) 63 = .ok (.ifCond .ne 56, 3) := by decide +kernel
theorem d_X11_stir_66 : decode (qMc M_X11_stir) 66 = .ok (.aload 4, 2) := by decide +kernel
theorem d_X11_stir_68 : decode (qMc M_X11_stir) 68 = .ok (.aload_n 0, 1) := by decide +kernel
theorem d_X11_stir_69 : decode (qMc M_X11_stir) 69 = .ok (.getfield 12, 3) := by decide +kernel
theorem d_X11_stir_72 : decode (qMc M_X11_stir) 72 = .ok (.getfield 144, 3) := by decide +kernel
theorem d_X11_stir_75 : decode (qMc M_X11_stir) 75 = .ok (.getfield 243, 3) := by decide +kernel
theorem d_X11_stir_78 : decode (qMc M_X11_stir) 78 = .ok (.invokevirtual 340, 3) := by decide +kernel
theorem d_X11_stir_81 : decode (qMc M_X11_stir) 81 = .ok (.aload 4, 2) := by decide +kernel
theorem d_X11_stir_83 : decode (qMc M_X11_stir) 83 = .ok (.getfield 351, 3) := by decide +kernel
theorem d_X11_stir_86 : decode (qMc M_X11_stir) 86 = .ok (.ifCond .ne 6, 3) := by decide +kernel
theorem d_X11_stir_89 : decode (qMc M_X11_stir) 89 = .ok (.iinc 5 1, 3) := by decide +kernel
theorem d_X11_stir_92 : decode (qMc M_X11_stir) 92 = .ok (.aload 4, 2) := by decide +kernel
theorem d_X11_stir_94 : decode (qMc M_X11_stir) 94 = .ok (.getfield 351, 3) := by decide +kernel
theorem d_X11_stir_97 : decode (qMc M_X11_stir) 97 = .ok (.iload 6, 2) := by decide +kernel
theorem d_X11_stir_99 : decode (qMc M_X11_stir) 99 = .ok (.if_icmp .le 14, 3) := by decide +kernel
theorem d_X11_stir_102 : decode (qMc M_X11_stir) 102 = .ok (.aload 4, 2) := by decide +kernel
theorem d_X11_stir_104 : decode (qMc M_X11_stir) 104 = .ok (.getfield 351, 3) := by decide +kernel
theorem d_X11_stir_107 : decode (qMc M_X11_stir) 107 = .ok (.istore 6, 2) := by decide +kernel
theorem d_X11_stir_109 : decode (qMc M_X11_stir) 109 = .ok (.iload 8, 2) := by decide +kernel
theorem d_X11_stir_111 : decode (qMc M_X11_stir) 111 = .ok (.istore 7, 2) := by decide +kernel
theorem d_X11_stir_113 : decode (qMc M_X11_stir) 113 = .ok (.iinc 8 1, 3) := by decide +kernel
theorem d_X11_stir_116 : decode (qMc M_X11_stir) 116 = .ok (.goto (-68), 3) := by decide +kernel
theorem d_X11_stir_119 : decode (qMc M_X11_stir) 119 = .ok (.iload_n 3, 1) := by decide +kernel
theorem d_X11_stir_120 : decode (qMc M_X11_stir) 120 = .ok (.ifCond .ne 6, 3) := by decide +kernel
theorem d_X11_stir_123 : decode (qMc M_X11_stir) 123 = .ok (.iload 5, 2) := by decide +kernel
theorem d_X11_stir_125 : decode (qMc M_X11_stir) 125 = .ok (.ireturn, 1) := by decide +kernel
theorem d_X11_stir_126 : decode (qMc M_X11_stir) 126 = .ok (.iload_n 3, 1) := by decide +kernel
theorem d_X11_stir_127 : decode (qMc M_X11_stir) 127 = .ok (.iconst 1, 1) := by decide +kernel
theorem d_X11_stir_128 : decode (qMc M_X11_stir) 128 = .ok (.if_icmp .ne 8, 3) := by decide +kernel
theorem d_X11_stir_131 : decode (qMc M_X11_stir) 131 = .ok (.iload 6, 2) := by decide +kernel
theorem d_X11_stir_133 : decode (qMc M_X11_stir) 133 = .ok (.goto 5, 3) := by decide +kernel
theorem d_X11_stir_136 : decode (qMc M_X11_stir) 136 = .ok (.iload 7, 2) := by decide +kernel
theorem d_X11_stir_138 : decode (qMc M_X11_stir) 138 = .ok (.ireturn, 1) := by decide +kernel
theorem d_X11_crowd_0 : decode (qMc M_X11_crowd) 0 = .ok (.iload_n 1, 1) := by decide +kernel
theorem d_X11_crowd_1 : decode (qMc M_X11_crowd) 1 = .ok (.iload_n 2, 1) := by decide +kernel
theorem d_X11_crowd_2 : decode (qMc M_X11_crowd) 2 = .ok (.invokestatic 280, 3) := by decide +kernel
theorem d_X11_crowd_5 : decode (qMc M_X11_crowd) 5 = .ok (.ifCond .eq 23, 3) := by decide +kernel
theorem d_X11_crowd_8 : decode (qMc M_X11_crowd) 8 = .ok (.iload_n 3, 1) := by decide +kernel
theorem d_X11_crowd_9 : decode (qMc M_X11_crowd) 9 = .ok (.iconst 0, 1) := by decide +kernel
theorem d_X11_crowd_10 : decode (qMc M_X11_crowd) 10 = .ok (.bipush 7, 2) := by decide +kernel
theorem d_X11_crowd_12 : decode (qMc M_X11_crowd) 12 = .ok (.invokestatic 62, 3) := by decide +kernel
theorem d_X11_crowd_15 : decode (qMc M_X11_crowd) 15 = .ok (.ifCond .eq 13, 3) := by decide +kernel
theorem d_X11_crowd_18 : decode (qMc M_X11_crowd) 18 = .ok (.iload 4, 2) := by decide +kernel
theorem d_X11_crowd_20 : decode (qMc M_X11_crowd) 20 = .ok (.iconst 0, 1) := by decide +kernel
theorem d_X11_crowd_21 : decode (qMc M_X11_crowd) 21 = .ok (.iconst 2, 1) := by decide +kernel
theorem d_X11_crowd_22 : decode (qMc M_X11_crowd) 22 = .ok (.invokestatic 62, 3) := by decide +kernel
theorem d_X11_crowd_25 : decode (qMc M_X11_crowd) 25 = .ok (.ifCond .ne 5, 3) := by decide +kernel
theorem d_X11_crowd_28 : decode (qMc M_X11_crowd) 28 = .ok (.iconst (-1), 1) := by decide +kernel
theorem d_X11_crowd_29 : decode (qMc M_X11_crowd) 29 = .ok (.ireturn, 1) := by decide +kernel
theorem d_X11_crowd_30 : decode (qMc M_X11_crowd) 30 = .ok (.aload_n 0, 1) := by decide +kernel
theorem d_X11_crowd_31 : decode (qMc M_X11_crowd) 31 = .ok (.getfield 40, 3) := by decide +kernel
theorem d_X11_crowd_34 : decode (qMc M_X11_crowd) 34 = .ok (.getfield 293, 3) := by decide +kernel
theorem d_X11_crowd_37 : decode (qMc M_X11_crowd) 37 = .ok (.astore 5, 2) := by decide +kernel
theorem d_X11_crowd_39 : decode (qMc M_X11_crowd) 39 = .ok (.aload 5, 2) := by decide +kernel
theorem d_X11_crowd_41 : decode (qMc M_X11_crowd) 41 = .ok (.iload_n 1, 1) := by decide +kernel
theorem d_X11_crowd_42 : decode (qMc M_X11_crowd) 42 = .ok (.iload_n 2, 1) := by decide +kernel
theorem d_X11_crowd_43 : decode (qMc M_X11_crowd) 43 = .ok (.iconst 0, 1) := by decide +kernel
theorem d_X11_crowd_44 : decode (qMc M_X11_crowd) 44 = .ok (.invokevirtual 297, 3) := by decide +kernel
theorem d_X11_crowd_47 : decode (qMc M_X11_crowd) 47 = .ok (.aload 5, 2) := by decide +kernel
theorem d_X11_crowd_49 : decode (qMc M_X11_crowd) 49 = .ok (.iload_n 3, 1) := by decide +kernel
theorem d_X11_crowd_50 : decode (qMc M_X11_crowd) 50 = .ok (.invokevirtual 354, 3) := by decide +kernel
theorem d_X11_crowd_53 : decode (qMc M_X11_crowd) 53 = .ok (.istore 6, 2) := by decide +kernel
theorem d_X11_crowd_55 : decode (qMc M_X11_crowd) 55 = .ok (.iload 6, 2) := by decide +kernel
theorem d_X11_crowd_57 : decode (qMc M_X11_crowd) 57 = .ok (.invokestatic 357, 3) := by decide +kernel
theorem d_X11_crowd_60 : decode (qMc M_X11_crowd) 60 = .ok (.istore 7, 2) := by decide +kernel
theorem d_X11_crowd_62 : decode (qMc M_X11_crowd) 62 = .ok (.iconst 0, 1) := by decide +kernel
theorem d_X11_crowd_63 : decode (qMc M_X11_crowd) 63 = .ok (.istore 8, 2) := by decide +kernel
theorem d_X11_crowd_65 : decode (qMc M_X11_crowd) 65 = .ok (.iconst 1, 1) := by decide +kernel
theorem d_X11_crowd_66 : decode (qMc M_X11_crowd) 66 = .ok (.istore 9, 2) := by decide +kernel
theorem d_X11_crowd_68 : decode (qMc M_X11_crowd) 68 = .ok (.iload 9, 2) := by decide +kernel
theorem d_X11_crowd_70 : decode (qMc M_X11_crowd) 70 = .ok (.aload 5, 2) := by decide +kernel
theorem d_X11_crowd_72 : decode (qMc M_X11_crowd) 72 = .ok (.getfield 336, 3) := by decide +kernel
theorem d_X11_crowd_75 : decode (qMc M_X11_crowd) 75 = .ok (.if_icmp .gt 68, 3) := by decide +kernel
theorem d_X11_crowd_78 : decode (qMc M_X11_crowd) 78 = .ok (.aload 5, 2) := by decide +kernel
theorem d_X11_crowd_80 : decode (qMc M_X11_crowd) 80 = .ok (.getfield 320, 3) := by decide +kernel
theorem d_X11_crowd_83 : decode (qMc M_X11_crowd) 83 = .ok (.ifCond .ne 60, 3) := by decide +kernel
theorem d_X11_crowd_86 : decode (qMc M_X11_crowd) 86 = .ok (.aload 5, 2) := by decide +kernel
theorem d_X11_crowd_88 : decode (qMc M_X11_crowd) 88 = .ok (.aload_n 0, 1) := by decide +kernel
theorem d_X11_crowd_89 : decode (qMc M_X11_crowd) 89 = .ok (.getfield 12, 3) := by decide +kernel
theorem d_X11_crowd_92 : decode (qMc M_X11_crowd) 92 = .ok (.getfield 144, 3) := by decide +kernel
theorem d_X11_crowd_95 : decode (qMc M_X11_crowd) 95 = .ok (.getfield 243, 3) := by decide +kernel
theorem d_X11_crowd_98 : decode (qMc M_X11_crowd) 98 = .ok (.invokevirtual 340, 3) := by decide +kernel
theorem d_X11_crowd_101 : decode (qMc M_X11_crowd) 101 = .ok (.aload 5, 2) := by decide +kernel
theorem d_X11_crowd_103 : decode (qMc M_X11_crowd) 103 = .ok (.iload_n 3, 1) := by decide +kernel
theorem d_X11_crowd_104 : decode (qMc M_X11_crowd) 104 = .ok (.invokevirtual 354, 3) := by decide +kernel
theorem d_X11_crowd_107 : decode (qMc M_X11_crowd) 107 = .ok (.istore 10, 2) := by decide +kernel
theorem d_X11_crowd_109 : decode (qMc M_X11_crowd) 109 = .ok (.iload 6, 2) := by decide +kernel
theorem d_X11_crowd_111 : decode (qMc M_X11_crowd) 111 = .ok (.iload 10, 2) := by decide +kernel
theorem d_X11_crowd_113 : decode (qMc M_X11_crowd) 113 = .ok (.ior, 1) := by decide +kernel
theorem d_X11_crowd_114 : decode (qMc M_X11_crowd) 114 = .ok (.istore 6, 2) := by decide +kernel
theorem d_X11_crowd_116 : decode (qMc M_X11_crowd) 116 = .ok (.iload 10, 2) := by decide +kernel
theorem d_X11_crowd_118 : decode (qMc M_X11_crowd) 118 = .ok (.invokestatic 357, 3) := by decide +kernel
theorem d_X11_crowd_121 : decode (qMc M_X11_crowd) 121 = .ok (.iload 7, 2) := by decide +kernel
theorem d_X11_crowd_123 : decode (qMc M_X11_crowd) 123 = .ok (.if_icmp .le 14, 3) := by decide +kernel
theorem d_X11_crowd_126 : decode (qMc M_X11_crowd) 126 = .ok (.iload 10, 2) := by decide +kernel
theorem d_X11_crowd_128 : decode (qMc M_X11_crowd) 128 = .ok (.invokestatic 357, 3) := by decide +kernel
theorem d_X11_crowd_131 : decode (qMc M_X11_crowd) 131 = .ok (.istore 7, 2) := by decide +kernel
theorem d_X11_crowd_133 : decode (qMc M_X11_crowd) 133 = .ok (.iload 9, 2) := by decide +kernel
theorem d_X11_crowd_135 : decode (qMc M_X11_crowd) 135 = .ok (.istore 8, 2) := by decide +kernel
theorem d_X11_crowd_137 : decode (qMc M_X11_crowd) 137 = .ok (.iinc 9 1, 3) := by decide +kernel
theorem d_X11_crowd_140 : decode (qMc M_X11_crowd) 140 = .ok (.goto (-72), 3) := by decide +kernel
theorem d_X11_crowd_143 : decode (qMc M_X11_crowd) 143 = .ok (.iload 4, 2) := by decide +kernel
theorem d_X11_crowd_145 : decode (qMc M_X11_crowd) 145 = .ok (.ifCond .ne 6, 3) := by decide +kernel
theorem d_X11_crowd_148 : decode (qMc M_X11_crowd) 148 = .ok (.iload 7, 2) := by decide +kernel
theorem d_X11_crowd_150 : decode (qMc M_X11_crowd) 150 = .ok (.ireturn, 1) := by decide +kernel
theorem d_X11_crowd_151 : decode (qMc M_X11_crowd) 151 = .ok (.iload 4, 2) := by decide +kernel
theorem d_X11_crowd_153 : decode (qMc M_X11_crowd) 153 = .ok (.iconst 1, 1) := by decide +kernel
theorem d_X11_crowd_154 : decode (qMc M_X11_crowd) 154 = .ok (.if_icmp .ne 8, 3) := by decide +kernel
theorem d_X11_crowd_157 : decode (qMc M_X11_crowd) 157 = .ok (.iload 8, 2) := by decide +kernel
theorem d_X11_crowd_159 : decode (qMc M_X11_crowd) 159 = .ok (.goto 8, 3) := by decide +kernel
theorem d_X11_crowd_162 : decode (qMc M_X11_crowd) 162 = .ok (.iload 6, 2) := by decide +kernel
theorem d_X11_crowd_164 : decode (qMc M_X11_crowd) 164 = .ok (.invokestatic 357, 3) := by decide +kernel
theorem d_X11_crowd_167 : decode (qMc M_X11_crowd) 167 = .ok (.ireturn, 1) := by decide +kernel
theorem d_X11_begun_0 : decode (qMc M_X11_begun) 0 = .ok (.iload_n 1, 1) := by decide +kernel
theorem d_X11_begun_1 : decode (qMc M_X11_begun) 1 = .ok (.iconst 1, 1) := by decide +kernel
theorem d_X11_begun_2 : decode (qMc M_X11_begun) 2 = .ok (.bipush 32, 2) := by decide +kernel
theorem d_X11_begun_4 : decode (qMc M_X11_begun) 4 = .ok (.invokestatic 62, 3) := by decide +kernel
theorem d_X11_begun_7 : decode (qMc M_X11_begun) 7 = .ok (.ifCond .eq 12, 3) := by decide +kernel
theorem d_X11_begun_10 : decode (qMc M_X11_begun) 10 = .ok (.iload_n 2, 1) := by decide +kernel
theorem d_X11_begun_11 : decode (qMc M_X11_begun) 11 = .ok (.iconst 0, 1) := by decide +kernel
theorem d_X11_begun_12 : decode (qMc M_X11_begun) 12 = .ok (.iconst 2, 1) := by decide +kernel
theorem d_X11_begun_13 : decode (qMc M_X11_begun) 13 = .ok (.invokestatic 62, 3) := by decide +kernel
theorem d_X11_begun_16 : decode (qMc M_X11_begun) 16 = .ok (.ifCond .ne 5, 3) := by decide +kernel
theorem d_X11_begun_19 : decode (qMc M_X11_begun) 19 = .ok (.iconst (-1), 1) := by decide +kernel
theorem d_X11_begun_20 : decode (qMc M_X11_begun) 20 = .ok (.ireturn, 1) := by decide +kernel
theorem d_X11_begun_21 : decode (qMc M_X11_begun) 21 = .ok (.iconst 0, 1) := by decide +kernel
theorem d_X11_begun_22 : decode (qMc M_X11_begun) 22 = .ok (.istore_n 3, 1) := by decide +kernel
theorem d_X11_begun_23 : decode (qMc M_X11_begun) 23 = .ok (.iconst (-1), 1) := by decide +kernel
theorem d_X11_begun_24 : decode (qMc M_X11_begun) 24 = .ok (.istore 4, 2) := by decide +kernel
theorem d_X11_begun_26 : decode (qMc M_X11_begun) 26 = .ok (.iconst (-1), 1) := by decide +kernel
theorem d_X11_begun_27 : decode (qMc M_X11_begun) 27 = .ok (.istore 5, 2) := by decide +kernel
theorem d_X11_begun_29 : decode (qMc M_X11_begun) 29 = .ok (.iconst 0, 1) := by decide +kernel
theorem d_X11_begun_30 : decode (qMc M_X11_begun) 30 = .ok (.istore 6, 2) := by decide +kernel
theorem d_X11_begun_32 : decode (qMc M_X11_begun) 32 = .ok (.iconst 0, 1) := by decide +kernel
theorem d_X11_begun_33 : decode (qMc M_X11_begun) 33 = .ok (.istore 7, 2) := by decide +kernel
theorem d_X11_begun_35 : decode (qMc M_X11_begun) 35 = .ok (.iload 7, 2) := by decide +kernel
theorem d_X11_begun_37 : decode (qMc M_X11_begun) 37 = .ok (.iload_n 1, 1) := by decide +kernel
theorem d_X11_begun_38 : decode (qMc M_X11_begun) 38 = .ok (.if_icmp .ge 75, 3) := by decide +kernel
theorem d_X11_begun_41 : decode (qMc M_X11_begun) 41 = .ok (.aload_n 0, 1) := by decide +kernel
theorem d_X11_begun_42 : decode (qMc M_X11_begun) 42 = .ok (.iload_n 1, 1) := by decide +kernel
theorem d_X11_begun_43 : decode (qMc M_X11_begun) 43 = .ok (.iload 7, 2) := by decide +kernel
theorem d_X11_begun_45 : decode (qMc M_X11_begun) 45 = .ok (.iconst 0, 1) := by decide +kernel
theorem d_X11_begun_46 : decode (qMc M_X11_begun) 46 = .ok (.invokevirtual 284, 3) := by decide +kernel
theorem d_X11_begun_49 : decode (qMc M_X11_begun) 49 = .ok (.astore 8, 2) := by decide +kernel
theorem d_X11_begun_51 : decode (qMc M_X11_begun) 51 = .ok (.aload 8, 2) := by decide +kernel
theorem d_X11_begun_53 : decode (qMc M_X11_begun) 53 = .ok (.invokevirtual 342, 3) := by decide +kernel
theorem d_X11_begun_56 : decode (qMc M_X11_begun) 56 = .ok (.ifCond .ne 21, 3) := by decide +kernel
theorem d_X11_begun_59 : decode (qMc M_X11_begun) 59 = .ok (.iload 4, 2) := by decide +kernel
theorem d_X11_begun_61 : decode (qMc M_X11_begun) 61 = .ok (.iconst (-1), 1) := by decide +kernel
theorem d_X11_begun_62 : decode (qMc M_X11_begun) 62 = .ok (.if_icmp .ne 8, 3) := by decide +kernel
theorem d_X11_begun_65 : decode (qMc M_X11_begun) 65 = .ok (.iload 7, 2) := by decide +kernel
theorem d_X11_begun_67 : decode (qMc M_X11_begun) 67 = .ok (.goto 5, 3) := by decide +kernel
theorem d_X11_begun_70 : decode (qMc M_X11_begun) 70 = .ok (.iload 4, 2) := by decide +kernel
theorem d_X11_begun_72 : decode (qMc M_X11_begun) 72 = .ok (.istore 4, 2) := by decide +kernel
theorem d_X11_begun_74 : decode (qMc M_X11_begun) 74 = .ok (.goto 33, 3) := by decide +kernel
theorem d_X11_begun_77 : decode (qMc M_X11_begun) 77 = .ok (.iinc 3 1, 3) := by decide +kernel
theorem d_X11_begun_80 : decode (qMc M_X11_begun) 80 = .ok (.iload 5, 2) := by decide +kernel
theorem d_X11_begun_82 : decode (qMc M_X11_begun) 82 = .ok (.iconst (-1), 1) := by decide +kernel
theorem d_X11_begun_83 : decode (qMc M_X11_begun) 83 = .ok (.if_icmp .eq 13, 3) := by decide +kernel
theorem d_X11_begun_86 : decode (qMc M_X11_begun) 86 = .ok (.aload 8, 2) := by decide +kernel
theorem d_X11_begun_88 : decode (qMc M_X11_begun) 88 = .ok (.getfield 323, 3) := by decide +kernel
theorem d_X11_begun_91 : decode (qMc M_X11_begun) 91 = .ok (.iload 6, 2) := by decide +kernel
theorem d_X11_begun_93 : decode (qMc M_X11_begun) 93 = .ok (.if_icmp .ge 14, 3) := by decide +kernel
theorem d_X11_begun_96 : decode (qMc M_X11_begun) 96 = .ok (.iload 7, 2) := by decide +kernel
theorem d_X11_begun_98 : decode (qMc M_X11_begun) 98 = .ok (.istore 5, 2) := by decide +kernel
theorem d_X11_begun_100 : decode (qMc M_X11_begun) 100 = .ok (.aload 8, 2) := by decide +kernel
theorem d_X11_begun_102 : decode (qMc M_X11_begun) 102 = .ok (.getfield 323, 3) := by decide +kernel
theorem d_X11_begun_105 : decode (qMc M_X11_begun) 105 = .ok (.istore 6, 2) := by decide +kernel
theorem d_X11_begun_107 : decode (qMc M_X11_begun) 107 = .ok (.iinc 7 1, 3) := by decide +kernel
theorem d_X11_begun_110 : decode (qMc M_X11_begun) 110 = .ok (.goto (-75), 3) := by decide +kernel
theorem d_X11_begun_113 : decode (qMc M_X11_begun) 113 = .ok (.iload_n 2, 1) := by decide +kernel
theorem d_X11_begun_114 : decode (qMc M_X11_begun) 114 = .ok (.ifCond .ne 5, 3) := by decide +kernel
theorem d_X11_begun_117 : decode (qMc M_X11_begun) 117 = .ok (.iload_n 3, 1) := by decide +kernel
theorem d_X11_begun_118 : decode (qMc M_X11_begun) 118 = .ok (.ireturn, 1) := by decide +kernel
theorem d_X11_begun_119 : decode (qMc M_X11_begun) 119 = .ok (.iload_n 2, 1) := by decide +kernel
theorem d_X11_begun_120 : decode (qMc M_X11_begun) 120 = .ok (.iconst 1, 1) := by decide +kernel
theorem d_X11_begun_121 : decode (qMc M_X11_begun) 121 = .ok (.if_icmp .ne 8, 3) := by decide +kernel
theorem d_X11_begun_124 : decode (qMc M_X11_begun) 124 = .ok (.iload 4, 2) := by decide +kernel
theorem d_X11_begun_126 : decode (qMc M_X11_begun) 126 = .ok (.goto 5, 3) := by decide +kernel
theorem d_X11_begun_129 : decode (qMc M_X11_begun) 129 = .ok (.iload 5, 2) := by decide +kernel
theorem d_X11_begun_131 : decode (qMc M_X11_begun) 131 = .ok (.ireturn, 1) := by decide +kernel
theorem d_X11_worn_0 : decode (qMc M_X11_worn) 0 = .ok (.aload_n 0, 1) := by decide +kernel
theorem d_X11_worn_1 : decode (qMc M_X11_worn) 1 = .ok (.getfield 12, 3) := by decide +kernel
theorem d_X11_worn_4 : decode (qMc M_X11_worn) 4 = .ok (.getfield 144, 3) := by decide +kernel
theorem d_X11_worn_7 : decode (qMc M_X11_worn) 7 = .ok (.iload_n 1, 1) := by decide +kernel
theorem d_X11_worn_8 : decode (qMc M_X11_worn) 8 = .ok (.invokevirtual 362, 3) := by decide +kernel
theorem d_X11_worn_11 : decode (qMc M_X11_worn) 11 = .ok (.ifCond .eq 10, 3) := by decide +kernel
theorem d_X11_worn_14 : decode (qMc M_X11_worn) 14 = .ok (.iload_n 2, 1) := by decide +kernel
theorem d_X11_worn_15 : decode (qMc M_X11_worn) 15 = .ok (.invokestatic 308, 3) := by decide +kernel
theorem d_X11_worn_18 : decode (qMc M_X11_worn) 18 = .ok (.ifCond .ne 5, 3) := by decide +kernel
theorem d_X11_worn_21 : decode (qMc M_X11_worn) 21 = .ok (.iconst (-1), 1) := by decide +kernel
theorem d_X11_worn_22 : decode (qMc M_X11_worn) 22 = .ok (.ireturn, 1) := by decide +kernel
theorem d_X11_worn_23 : decode (qMc M_X11_worn) 23 = .ok (.aload_n 0, 1) := by decide +kernel
theorem d_X11_worn_24 : decode (qMc M_X11_worn) 24 = .ok (.getfield 40, 3) := by decide +kernel
theorem d_X11_worn_27 : decode (qMc M_X11_worn) 27 = .ok (.aload_n 0, 1) := by decide +kernel
theorem d_X11_worn_28 : decode (qMc M_X11_worn) 28 = .ok (.getfield 12, 3) := by decide +kernel
theorem d_X11_worn_31 : decode (qMc M_X11_worn) 31 = .ok (.getfield 144, 3) := by decide +kernel
theorem d_X11_worn_34 : decode (qMc M_X11_worn) 34 = .ok (.iload_n 1, 1) := by decide +kernel
theorem d_X11_worn_35 : decode (qMc M_X11_worn) 35 = .ok (.iload_n 2, 1) := by decide +kernel
theorem d_X11_worn_36 : decode (qMc M_X11_worn) 36 = .ok (.invokevirtual 363, 3) := by decide +kernel
theorem d_X11_worn_39 : decode (qMc M_X11_worn) 39 = .ok (.ireturn, 1) := by decide +kernel
theorem d_X11_mends_0 : decode (qMc M_X11_mends) 0 = .ok (.aload_n 0, 1) := by decide +kernel
theorem d_X11_mends_1 : decode (qMc M_X11_mends) 1 = .ok (.getfield 12, 3) := by decide +kernel
theorem d_X11_mends_4 : decode (qMc M_X11_mends) 4 = .ok (.getfield 144, 3) := by decide +kernel
theorem d_X11_mends_7 : decode (qMc M_X11_mends) 7 = .ok (.iload_n 1, 1) := by decide +kernel
theorem d_X11_mends_8 : decode (qMc M_X11_mends) 8 = .ok (.invokevirtual 362, 3) := by decide +kernel
theorem d_X11_mends_11 : decode (qMc M_X11_mends) 11 = .ok (.ifCond .eq 10, 3) := by decide +kernel
theorem d_X11_mends_14 : decode (qMc M_X11_mends) 14 = .ok (.iload_n 2, 1) := by decide +kernel
theorem d_X11_mends_15 : decode (qMc M_X11_mends) 15 = .ok (.invokestatic 308, 3) := by decide +kernel
theorem d_X11_mends_18 : decode (qMc M_X11_mends) 18 = .ok (.ifCond .ne 5, 3) := by decide +kernel
theorem d_X11_mends_21 : decode (qMc M_X11_mends) 21 = .ok (.iconst (-1), 1) := by decide +kernel
theorem d_X11_mends_22 : decode (qMc M_X11_mends) 22 = .ok (.ireturn, 1) := by decide +kernel
theorem d_X11_mends_23 : decode (qMc M_X11_mends) 23 = .ok (.aload_n 0, 1) := by decide +kernel
theorem d_X11_mends_24 : decode (qMc M_X11_mends) 24 = .ok (.getfield 40, 3) := by decide +kernel
theorem d_X11_mends_27 : decode (qMc M_X11_mends) 27 = .ok (.aload_n 0, 1) := by decide +kernel
theorem d_X11_mends_28 : decode (qMc M_X11_mends) 28 = .ok (.getfield 12, 3) := by decide +kernel
theorem d_X11_mends_31 : decode (qMc M_X11_mends) 31 = .ok (.getfield 144, 3) := by decide +kernel
theorem d_X11_mends_34 : decode (qMc M_X11_mends) 34 = .ok (.iload_n 1, 1) := by decide +kernel
theorem d_X11_mends_35 : decode (qMc M_X11_mends) 35 = .ok (.iload_n 2, 1) := by decide +kernel
theorem d_X11_mends_36 : decode (qMc M_X11_mends) 36 = .ok (.invokevirtual 367, 3) := by decide +kernel
theorem d_X11_mends_39 : decode (qMc M_X11_mends) 39 = .ok (.ireturn, 1) := by decide +kernel
theorem d_X11_more_0 : decode (qMc M_X11_more) 0 = .ok (.iload_n 1, 1) := by decide +kernel
theorem d_X11_more_1 : decode (qMc M_X11_more) 1 = .ok (.iconst 1, 1) := by decide +kernel
theorem d_X11_more_2 : decode (qMc M_X11_more) 2 = .ok (.bipush 8, 2) := by decide +kernel
theorem d_X11_more_4 : decode (qMc M_X11_more) 4 = .ok (.invokestatic 62, 3) := by decide +kernel
theorem d_X11_more_7 : decode (qMc M_X11_more) 7 = .ok (.ifCond .eq 12, 3) := by decide +kernel
theorem d_X11_more_10 : decode (qMc M_X11_more) 10 = .ok (.iload_n 2, 1) := by decide +kernel
theorem d_X11_more_11 : decode (qMc M_X11_more) 11 = .ok (.iconst 0, 1) := by decide +kernel
theorem d_X11_more_12 : decode (qMc M_X11_more) 12 = .ok (.iconst 1, 1) := by decide +kernel
theorem d_X11_more_13 : decode (qMc M_X11_more) 13 = .ok (.invokestatic 62, 3) := by decide +kernel
theorem d_X11_more_16 : decode (qMc M_X11_more) 16 = .ok (.ifCond .ne 5, 3) := by decide +kernel
theorem d_X11_more_19 : decode (qMc M_X11_more) 19 = .ok (.iconst (-1), 1) := by decide +kernel
theorem d_X11_more_20 : decode (qMc M_X11_more) 20 = .ok (.ireturn, 1) := by decide +kernel
theorem d_X11_more_21 : decode (qMc M_X11_more) 21 = .ok (.aload_n 0, 1) := by decide +kernel
theorem d_X11_more_22 : decode (qMc M_X11_more) 22 = .ok (.getfield 40, 3) := by decide +kernel
theorem d_X11_more_25 : decode (qMc M_X11_more) 25 = .ok (.aload_n 0, 1) := by decide +kernel
theorem d_X11_more_26 : decode (qMc M_X11_more) 26 = .ok (.getfield 12, 3) := by decide +kernel
theorem d_X11_more_29 : decode (qMc M_X11_more) 29 = .ok (.getfield 144, 3) := by decide +kernel
theorem d_X11_more_32 : decode (qMc M_X11_more) 32 = .ok (.iload_n 1, 1) := by decide +kernel
theorem d_X11_more_33 : decode (qMc M_X11_more) 33 = .ok (.invokevirtual 370, 3) := by decide +kernel
theorem d_X11_more_36 : decode (qMc M_X11_more) 36 = .ok (.iload_n 2, 1) := by decide +kernel
theorem d_X11_more_37 : decode (qMc M_X11_more) 37 = .ok (.ifCond .ne 13, 3) := by decide +kernel
theorem d_X11_more_40 : decode (qMc M_X11_more) 40 = .ok (.aload_n 0, 1) := by decide +kernel
theorem d_X11_more_41 : decode (qMc M_X11_more) 41 = .ok (.getfield 40, 3) := by decide +kernel
theorem d_X11_more_44 : decode (qMc M_X11_more) 44 = .ok (.getfield 374, 3) := by decide +kernel
theorem d_X11_more_47 : decode (qMc M_X11_more) 47 = .ok (.goto 10, 3) := by decide +kernel
theorem d_X11_more_50 : decode (qMc M_X11_more) 50 = .ok (.aload_n 0, 1) := by decide +kernel
theorem d_X11_more_51 : decode (qMc M_X11_more) 51 = .ok (.getfield 40, 3) := by decide +kernel
theorem d_X11_more_54 : decode (qMc M_X11_more) 54 = .ok (.getfield 377, 3) := by decide +kernel
theorem d_X11_more_57 : decode (qMc M_X11_more) 57 = .ok (.ireturn, 1) := by decide +kernel
theorem d_X11_alike_0 : decode (qMc M_X11_alike) 0 = .ok (.iload_n 1, 1) := by decide +kernel
theorem d_X11_alike_1 : decode (qMc M_X11_alike) 1 = .ok (.invokestatic 308, 3) := by decide +kernel
theorem d_X11_alike_4 : decode (qMc M_X11_alike) 4 = .ok (.ifCond .eq 12, 3) := by decide +kernel
theorem d_X11_alike_7 : decode (qMc M_X11_alike) 7 = .ok (.iload_n 2, 1) := by decide +kernel
theorem d_X11_alike_8 : decode (qMc M_X11_alike) 8 = .ok (.iconst 0, 1) := by decide +kernel
theorem d_X11_alike_9 : decode (qMc M_X11_alike) 9 = .ok (.iconst 2, 1) := by decide +kernel
theorem d_X11_alike_10 : decode (qMc M_X11_alike) 10 = .ok (.invokestatic 62, 3) := by decide +kernel
theorem d_X11_alike_13 : decode (qMc M_X11_alike) 13 = .ok (.ifCond .ne 5, 3) := by decide +kernel
theorem d_X11_alike_16 : decode (qMc M_X11_alike) 16 = .ok (.iconst (-1), 1) := by decide +kernel
theorem d_X11_alike_17 : decode (qMc M_X11_alike) 17 = .ok (.ireturn, 1) := by decide +kernel
theorem d_X11_alike_18 : decode (qMc M_X11_alike) 18 = .ok (.iconst 1, 1) := by decide +kernel
theorem d_X11_alike_19 : decode (qMc M_X11_alike) 19 = .ok (.istore_n 3, 1) := by decide +kernel
theorem d_X11_alike_20 : decode (qMc M_X11_alike) 20 = .ok (.iload_n 3, 1) := by decide +kernel
theorem d_X11_alike_21 : decode (qMc M_X11_alike) 21 = .ok (.iload_n 1, 1) := by decide +kernel
theorem d_X11_alike_22 : decode (qMc M_X11_alike) 22 = .ok (.if_icmp .gt 74, 3) := by decide +kernel
theorem d_X11_alike_25 : decode (qMc M_X11_alike) 25 = .ok (.aload_n 0, 1) := by decide +kernel
theorem d_X11_alike_26 : decode (qMc M_X11_alike) 26 = .ok (.getfield 40, 3) := by decide +kernel
theorem d_X11_alike_29 : decode (qMc M_X11_alike) 29 = .ok (.aload_n 0, 1) := by decide +kernel
theorem d_X11_alike_30 : decode (qMc M_X11_alike) 30 = .ok (.getfield 12, 3) := by decide +kernel
theorem d_X11_alike_33 : decode (qMc M_X11_alike) 33 = .ok (.getfield 144, 3) := by decide +kernel
theorem d_X11_alike_36 : decode (qMc M_X11_alike) 36 = .ok (.getfield 243, 3) := by decide +kernel
theorem d_X11_alike_39 : decode (qMc M_X11_alike) 39 = .ok (.aload_n 0, 1) := by decide +kernel
theorem d_X11_alike_40 : decode (qMc M_X11_alike) 40 = .ok (.getfield 12, 3) := by decide +kernel
theorem d_X11_alike_43 : decode (qMc M_X11_alike) 43 = .ok (.getfield 181, 3) := by decide +kernel
theorem d_X11_alike_46 : decode (qMc M_X11_alike) 46 = .ok (.getfield 243, 3) := by decide +kernel
theorem d_X11_alike_49 : decode (qMc M_X11_alike) 49 = .ok (.iload_n 3, 1) := by decide +kernel
theorem d_X11_alike_50 : decode (qMc M_X11_alike) 50 = .ok (.invokevirtual 380, 3) := by decide +kernel
theorem d_X11_alike_53 : decode (qMc M_X11_alike) 53 = .ok (.istore 4, 2) := by decide +kernel
theorem d_X11_alike_55 : decode (qMc M_X11_alike) 55 = .ok (.iload 4, 2) := by decide +kernel
theorem d_X11_alike_57 : decode (qMc M_X11_alike) 57 = .ok (.iconst (-1), 1) := by decide +kernel
theorem d_X11_alike_58 : decode (qMc M_X11_alike) 58 = .ok (.if_icmp .eq 32, 3) := by decide +kernel
theorem d_X11_alike_61 : decode (qMc M_X11_alike) 61 = .ok (.iload_n 2, 1) := by decide +kernel
theorem d_X11_alike_62 : decode (qMc M_X11_alike) 62 = .ok (.ifCond .ne 7, 3) := by decide +kernel
theorem d_X11_alike_65 : decode (qMc M_X11_alike) 65 = .ok (.iload_n 3, 1) := by decide +kernel
theorem d_X11_alike_66 : decode (qMc M_X11_alike) 66 = .ok (.goto 23, 3) := by decide +kernel
theorem d_X11_alike_69 : decode (qMc M_X11_alike) 69 = .ok (.iload_n 2, 1) := by decide +kernel
theorem d_X11_alike_70 : decode (qMc M_X11_alike) 70 = .ok (.iconst 1, 1) := by decide +kernel
theorem d_X11_alike_71 : decode (qMc M_X11_alike) 71 = .ok (.if_icmp .ne 16, 3) := by decide +kernel
theorem d_X11_alike_74 : decode (qMc M_X11_alike) 74 = .ok (.aload_n 0, 1) := by decide +kernel
theorem d_X11_alike_75 : decode (qMc M_X11_alike) 75 = .ok (.getfield 40, 3) := by decide +kernel
theorem d_X11_alike_78 : decode (qMc M_X11_alike) 78 = .ok (.getfield 293, 3) := by decide +kernel
theorem d_X11_alike_81 : decode (qMc M_X11_alike) 81 = .ok (.getfield 323, 3) := by decide +kernel
theorem d_X11_alike_84 : decode (qMc M_X11_alike) 84 = .ok (.goto 5, 3) := by decide +kernel
theorem d_X11_alike_87 : decode (qMc M_X11_alike) 87 = .ok (.iload 4, 2) := by decide +kernel
theorem d_X11_alike_89 : decode (qMc M_X11_alike) 89 = .ok (.ireturn, 1) := by decide +kernel
theorem d_X11_alike_90 : decode (qMc M_X11_alike) 90 = .ok (.iinc 3 1, 3) := by decide +kernel
theorem d_X11_alike_93 : decode (qMc M_X11_alike) 93 = .ok (.goto (-73), 3) := by decide +kernel
theorem d_X11_alike_96 : decode (qMc M_X11_alike) 96 = .ok (.iconst (-1), 1) := by decide +kernel
theorem d_X11_alike_97 : decode (qMc M_X11_alike) 97 = .ok (.ireturn, 1) := by decide +kernel
theorem d_X11_enough_0 : decode (qMc M_X11_enough) 0 = .ok (.iload_n 1, 1) := by decide +kernel
theorem d_X11_enough_1 : decode (qMc M_X11_enough) 1 = .ok (.invokestatic 308, 3) := by decide +kernel
theorem d_X11_enough_4 : decode (qMc M_X11_enough) 4 = .ok (.ifCond .eq 21, 3) := by decide +kernel
theorem d_X11_enough_7 : decode (qMc M_X11_enough) 7 = .ok (.aload_n 0, 1) := by decide +kernel
theorem d_X11_enough_8 : decode (qMc M_X11_enough) 8 = .ok (.getfield 40, 3) := by decide +kernel
theorem d_X11_enough_11 : decode (qMc M_X11_enough) 11 = .ok (.aload_n 0, 1) := by decide +kernel
theorem d_X11_enough_12 : decode (qMc M_X11_enough) 12 = .ok (.getfield 12, 3) := by decide +kernel
theorem d_X11_enough_15 : decode (qMc M_X11_enough) 15 = .ok (.getfield 144, 3) := by decide +kernel
theorem d_X11_enough_18 : decode (qMc M_X11_enough) 18 = .ok (.iload_n 1, 1) := by decide +kernel
theorem d_X11_enough_19 : decode (qMc M_X11_enough) 19 = .ok (.invokevirtual 384, 3) := by decide +kernel
theorem d_X11_enough_22 : decode (qMc M_X11_enough) 22 = .ok (.goto 4, 3) := by decide +kernel
theorem d_X11_enough_25 : decode (qMc M_X11_enough) 25 = .ok (.iconst (-1), 1) := by decide +kernel
theorem d_X11_enough_26 : decode (qMc M_X11_enough) 26 = .ok (.ireturn, 1) := by decide +kernel
theorem d_X11_mixed_0 : decode (qMc M_X11_mixed) 0 = .ok (.iload_n 1, 1) := by decide +kernel
theorem d_X11_mixed_1 : decode (qMc M_X11_mixed) 1 = .ok (.invokestatic 308, 3) := by decide +kernel
theorem d_X11_mixed_4 : decode (qMc M_X11_mixed) 4 = .ok (.ifCond .eq 12, 3) := by decide +kernel
theorem d_X11_mixed_7 : decode (qMc M_X11_mixed) 7 = .ok (.iload_n 2, 1) := by decide +kernel
theorem d_X11_mixed_8 : decode (qMc M_X11_mixed) 8 = .ok (.iconst 0, 1) := by decide +kernel
theorem d_X11_mixed_9 : decode (qMc M_X11_mixed) 9 = .ok (.iconst 1, 1) := by decide +kernel
theorem d_X11_mixed_10 : decode (qMc M_X11_mixed) 10 = .ok (.invokestatic 62, 3) := by decide +kernel
theorem d_X11_mixed_13 : decode (qMc M_X11_mixed) 13 = .ok (.ifCond .ne 5, 3) := by decide +kernel
theorem d_X11_mixed_16 : decode (qMc M_X11_mixed) 16 = .ok (.iconst (-1), 1) := by decide +kernel
theorem d_X11_mixed_17 : decode (qMc M_X11_mixed) 17 = .ok (.ireturn, 1) := by decide +kernel
theorem d_X11_mixed_18 : decode (qMc M_X11_mixed) 18 = .ok (.aload_n 0, 1) := by decide +kernel
theorem d_X11_mixed_19 : decode (qMc M_X11_mixed) 19 = .ok (.getfield 40, 3) := by decide +kernel
theorem d_X11_mixed_22 : decode (qMc M_X11_mixed) 22 = .ok (.aload_n 0, 1) := by decide +kernel
theorem d_X11_mixed_23 : decode (qMc M_X11_mixed) 23 = .ok (.getfield 12, 3) := by decide +kernel
theorem d_X11_mixed_26 : decode (qMc M_X11_mixed) 26 = .ok (.getfield 144, 3) := by decide +kernel
theorem d_X11_mixed_29 : decode (qMc M_X11_mixed) 29 = .ok (.aload_n 0, 1) := by decide +kernel
theorem d_X11_mixed_30 : decode (qMc M_X11_mixed) 30 = .ok (.getfield 12, 3) := by decide +kernel
theorem d_X11_mixed_33 : decode (qMc M_X11_mixed) 33 = .ok (.getfield 181, 3) := by decide +kernel
theorem d_X11_mixed_36 : decode (qMc M_X11_mixed) 36 = .ok (.iload_n 1, 1) := by decide +kernel
theorem d_X11_mixed_37 : decode (qMc M_X11_mixed) 37 = .ok (.invokevirtual 388, 3) := by decide +kernel
theorem d_X11_mixed_40 : decode (qMc M_X11_mixed) 40 = .ok (.iload_n 2, 1) := by decide +kernel
theorem d_X11_mixed_41 : decode (qMc M_X11_mixed) 41 = .ok (.ifCond .ne 13, 3) := by decide +kernel
theorem d_X11_mixed_44 : decode (qMc M_X11_mixed) 44 = .ok (.aload_n 0, 1) := by decide +kernel
theorem d_X11_mixed_45 : decode (qMc M_X11_mixed) 45 = .ok (.getfield 40, 3) := by decide +kernel
theorem d_X11_mixed_48 : decode (qMc M_X11_mixed) 48 = .ok (.getfield 374, 3) := by decide +kernel
theorem d_X11_mixed_51 : decode (qMc M_X11_mixed) 51 = .ok (.goto 10, 3) := by decide +kernel
theorem d_X11_mixed_54 : decode (qMc M_X11_mixed) 54 = .ok (.aload_n 0, 1) := by decide +kernel
theorem d_X11_mixed_55 : decode (qMc M_X11_mixed) 55 = .ok (.getfield 40, 3) := by decide +kernel
theorem d_X11_mixed_58 : decode (qMc M_X11_mixed) 58 = .ok (.getfield 377, 3) := by decide +kernel
theorem d_X11_mixed_61 : decode (qMc M_X11_mixed) 61 = .ok (.ireturn, 1) := by decide +kernel
theorem d_X11_before_0 : decode (qMc M_X11_before) 0 = .ok (.aload_n 0, 1) := by decide +kernel
theorem d_X11_before_1 : decode (qMc M_X11_before) 1 = .ok (.getfield 12, 3) := by decide +kernel
theorem d_X11_before_4 : decode (qMc M_X11_before) 4 = .ok (.getfield 66, 3) := by decide +kernel
theorem d_X11_before_7 : decode (qMc M_X11_before) 7 = .ok (.astore_n 1, 1) := by decide +kernel
theorem d_X11_before_8 : decode (qMc M_X11_before) 8 = .ok (.aload_n 1, 1) := by decide +kernel
theorem d_X11_before_9 : decode (qMc M_X11_before) 9 = .ok (.getfield 159, 3) := by decide +kernel
theorem d_X11_before_12 : decode (qMc M_X11_before) 12 = .ok (.ifCond .ne 7, 3) := by decide +kernel
theorem d_X11_before_15 : decode (qMc M_X11_before) 15 = .ok (.iconst (-1), 1) := by decide +kernel
theorem d_X11_before_16 : decode (qMc M_X11_before) 16 = .ok (.goto 28, 3) := by decide +kernel
theorem d_X11_before_19 : decode (qMc M_X11_before) 19 = .ok (.aload_n 0, 1) := by decide +kernel
theorem d_X11_before_20 : decode (qMc M_X11_before) 20 = .ok (.getfield 54, 3) := by decide +kernel
theorem d_X11_before_23 : decode (qMc M_X11_before) 23 = .ok (.aload_n 1, 1) := by decide +kernel
theorem d_X11_before_24 : decode (qMc M_X11_before) 24 = .ok (.getfield 106, 3) := by decide +kernel
theorem d_X11_before_27 : decode (qMc M_X11_before) 27 = .ok (.aload_n 1, 1) := by decide +kernel
theorem d_X11_before_28 : decode (qMc M_X11_before) 28 = .ok (.getfield 159, 3) := by decide +kernel
theorem d_X11_before_31 : decode (qMc M_X11_before) 31 = .ok (.aload_n 0, 1) := by decide +kernel
theorem d_X11_before_32 : decode (qMc M_X11_before) 32 = .ok (.getfield 12, 3) := by decide +kernel
theorem d_X11_before_35 : decode (qMc M_X11_before) 35 = .ok (.getfield 144, 3) := by decide +kernel
theorem d_X11_before_38 : decode (qMc M_X11_before) 38 = .ok (.getfield 243, 3) := by decide +kernel
theorem d_X11_before_41 : decode (qMc M_X11_before) 41 = .ok (.invokevirtual 392, 3) := by decide +kernel
theorem d_X11_before_44 : decode (qMc M_X11_before) 44 = .ok (.ireturn, 1) := by decide +kernel
theorem d_X11_round_0 : decode (qMc M_X11_round) 0 = .ok (.iload_n 1, 1) := by decide +kernel
theorem d_X11_round_1 : decode (qMc M_X11_round) 1 = .ok (.iconst 0, 1) := by decide +kernel
theorem d_X11_round_2 : decode (qMc M_X11_round) 2 = .ok (.iconst 1, 1) := by decide +kernel
theorem d_X11_round_3 : decode (qMc M_X11_round) 3 = .ok (.invokestatic 62, 3) := by decide +kernel
theorem d_X11_round_6 : decode (qMc M_X11_round) 6 = .ok (.ifCond .ne 5, 3) := by decide +kernel
theorem d_X11_round_9 : decode (qMc M_X11_round) 9 = .ok (.iconst (-1), 1) := by decide +kernel
theorem d_X11_round_10 : decode (qMc M_X11_round) 10 = .ok (.ireturn, 1) := by decide +kernel
theorem d_X11_round_11 : decode (qMc M_X11_round) 11 = .ok (.aload_n 0, 1) := by decide +kernel
theorem d_X11_round_12 : decode (qMc M_X11_round) 12 = .ok (.getfield 47, 3) := by decide +kernel
theorem d_X11_round_15 : decode (qMc M_X11_round) 15 = .ok (.aload_n 0, 1) := by decide +kernel
theorem d_X11_round_16 : decode (qMc M_X11_round) 16 = .ok (.getfield 12, 3) := by decide +kernel
theorem d_X11_round_19 : decode (qMc M_X11_round) 19 = .ok (.getfield 66, 3) := by decide +kernel
theorem d_X11_round_22 : decode (qMc M_X11_round) 22 = .ok (.aload_n 0, 1) := by decide +kernel
theorem d_X11_round_23 : decode (qMc M_X11_round) 23 = .ok (.getfield 12, 3) := by decide +kernel
theorem d_X11_round_26 : decode (qMc M_X11_round) 26 = .ok (.getfield 144, 3) := by decide +kernel
theorem d_X11_round_29 : decode (qMc M_X11_round) 29 = .ok (.invokevirtual 395, 3) := by decide +kernel
theorem d_X11_round_32 : decode (qMc M_X11_round) 32 = .ok (.iload_n 1, 1) := by decide +kernel
theorem d_X11_round_33 : decode (qMc M_X11_round) 33 = .ok (.ifCond .ne 13, 3) := by decide +kernel
theorem d_X11_round_36 : decode (qMc M_X11_round) 36 = .ok (.aload_n 0, 1) := by decide +kernel
theorem d_X11_round_37 : decode (qMc M_X11_round) 37 = .ok (.getfield 47, 3) := by decide +kernel
theorem d_X11_round_40 : decode (qMc M_X11_round) 40 = .ok (.getfield 399, 3) := by decide +kernel
theorem d_X11_round_43 : decode (qMc M_X11_round) 43 = .ok (.goto 10, 3) := by decide +kernel
theorem d_X11_round_46 : decode (qMc M_X11_round) 46 = .ok (.aload_n 0, 1) := by decide +kernel
theorem d_X11_round_47 : decode (qMc M_X11_round) 47 = .ok (.getfield 47, 3) := by decide +kernel
theorem d_X11_round_50 : decode (qMc M_X11_round) 50 = .ok (.getfield 402, 3) := by decide +kernel
theorem d_X11_round_53 : decode (qMc M_X11_round) 53 = .ok (.ireturn, 1) := by decide +kernel
theorem d_X11_heard_0 : decode (qMc M_X11_heard) 0 = .ok (.aload_n 0, 1) := by decide +kernel
theorem d_X11_heard_1 : decode (qMc M_X11_heard) 1 = .ok (.getfield 12, 3) := by decide +kernel
theorem d_X11_heard_4 : decode (qMc M_X11_heard) 4 = .ok (.getfield 66, 3) := by decide +kernel
theorem d_X11_heard_7 : decode (qMc M_X11_heard) 7 = .ok (.astore 4, 2) := by decide +kernel
theorem d_X11_heard_9 : decode (qMc M_X11_heard) 9 = .ok (.aload 4, 2) := by decide +kernel
theorem d_X11_heard_11 : decode (qMc M_X11_heard) 11 = .ok (.iload_n 1, 1) := by decide +kernel
theorem d_X11_heard_12 : decode (qMc M_X11_heard) 12 = .ok (.invokevirtual 83, 3) := by decide +kernel
theorem d_X11_heard_15 : decode (qMc M_X11_heard) 15 = .ok (.ifCond .ne 5, 3) := by decide +kernel
theorem d_X11_heard_18 : decode (qMc M_X11_heard) 18 = .ok (.iconst (-1), 1) := by decide +kernel
theorem d_X11_heard_19 : decode (qMc M_X11_heard) 19 = .ok (.ireturn, 1) := by decide +kernel
theorem d_X11_heard_20 : decode (qMc M_X11_heard) 20 = .ok (.iload_n 2, 1) := by decide +kernel
theorem d_X11_heard_21 : decode (qMc M_X11_heard) 21 = .ok (.iconst (-1), 1) := by decide +kernel
theorem d_X11_heard_22 : decode (qMc M_X11_heard) 22 = .ok (.if_icmp .ne 27, 3) := by decide +kernel
theorem d_X11_heard_25 : decode (qMc M_X11_heard) 25 = .ok (.iload_n 3, 1) := by decide +kernel
theorem d_X11_heard_26 : decode (qMc M_X11_heard) 26 = .ok (.iconst 0, 1) := by decide +kernel
theorem d_X11_heard_27 : decode (qMc M_X11_heard) 27 = .ok (.sipush 200, 3) := by decide +kernel
theorem d_X11_heard_30 : decode (qMc M_X11_heard) 30 = .ok (.invokestatic 62, 3) := by decide +kernel
theorem d_X11_heard_33 : decode (qMc M_X11_heard) 33 = .ok (.ifCond .ne 5, 3) := by decide +kernel
theorem d_X11_heard_36 : decode (qMc M_X11_heard) 36 = .ok (.iconst (-1), 1) := by decide +kernel
theorem d_X11_heard_37 : decode (qMc M_X11_heard) 37 = .ok (.ireturn, 1) := by decide +kernel
theorem d_X11_heard_38 : decode (qMc M_X11_heard) 38 = .ok (.aload_n 0, 1) := by decide +kernel
theorem d_X11_heard_39 : decode (qMc M_X11_heard) 39 = .ok (.iload_n 1, 1) := by decide +kernel
theorem d_X11_heard_40 : decode (qMc M_X11_heard) 40 = .ok (.invokevirtual 405, 3) := by decide +kernel
theorem d_X11_heard_43 : decode (qMc M_X11_heard) 43 = .ok (.aload_n 0, 1) := by decide +kernel
theorem d_X11_heard_44 : decode (qMc M_X11_heard) 44 = .ok (.iload_n 3, 1) := by decide +kernel
theorem d_X11_heard_45 : decode (qMc M_X11_heard) 45 = .ok (.invokevirtual 409, 3) := by decide +kernel
theorem d_X11_heard_48 : decode (qMc M_X11_heard) 48 = .ok (.ireturn, 1) := by decide +kernel
theorem d_X11_heard_49 : decode (qMc M_X11_heard) 49 = .ok (.aload 4, 2) := by decide +kernel
theorem d_X11_heard_51 : decode (qMc M_X11_heard) 51 = .ok (.iload_n 2, 1) := by decide +kernel
theorem d_X11_heard_52 : decode (qMc M_X11_heard) 52 = .ok (.invokevirtual 83, 3) := by decide +kernel
theorem d_X11_heard_55 : decode (qMc M_X11_heard) 55 = .ok (.ifCond .ne 5, 3) := by decide +kernel
theorem d_X11_heard_58 : decode (qMc M_X11_heard) 58 = .ok (.iconst (-1), 1) := by decide +kernel
theorem d_X11_heard_59 : decode (qMc M_X11_heard) 59 = .ok (.ireturn, 1) := by decide +kernel
theorem d_X11_heard_60 : decode (qMc M_X11_heard) 60 = .ok (.aload_n 0, 1) := by decide +kernel
theorem d_X11_heard_61 : decode (qMc M_X11_heard) 61 = .ok (.iload_n 1, 1) := by decide +kernel
theorem d_X11_heard_62 : decode (qMc M_X11_heard) 62 = .ok (.invokevirtual 405, 3) := by decide +kernel
theorem d_X11_heard_65 : decode (qMc M_X11_heard) 65 = .ok (.aload_n 0, 1) := by decide +kernel
theorem d_X11_heard_66 : decode (qMc M_X11_heard) 66 = .ok (.getfield 58, 3) := by decide +kernel
theorem d_X11_heard_69 : decode (qMc M_X11_heard) 69 = .ok (.iload_n 2, 1) := by decide +kernel
theorem d_X11_heard_70 : decode (qMc M_X11_heard) 70 = .ok (.iaload, 1) := by decide +kernel
theorem d_X11_heard_71 : decode (qMc M_X11_heard) 71 = .ok (.ireturn, 1) := by decide +kernel
theorem d_X11_spreadFrom_0 : decode (qMc M_X11_spreadFrom) 0 = .ok (.aload_n 0, 1) := by decide +kernel
theorem d_X11_spreadFrom_1 : decode (qMc M_X11_spreadFrom) 1 = .ok (.getfield 12, 3) := by decide +kernel
theorem d_X11_spreadFrom_4 : decode (qMc M_X11_spreadFrom) 4 = .ok (.getfield 66, 3) := by decide +kernel
theorem d_X11_spreadFrom_7 : decode (qMc M_X11_spreadFrom) 7 = .ok (.astore_n 2, 1) := by decide +kernel
theorem d_X11_spreadFrom_8 : decode (qMc M_X11_spreadFrom) 8 = .ok (.aload_n 0, 1) := by decide +kernel
theorem d_X11_spreadFrom_9 : decode (qMc M_X11_spreadFrom) 9 = .ok (.getfield 58, 3) := by decide +kernel
theorem d_X11_spreadFrom_12 : decode (qMc M_X11_spreadFrom) 12 = .ok (.iconst (-1), 1) := by decide +kernel
theorem d_X11_spreadFrom_13 : decode (qMc M_X11_spreadFrom) 13 = .ok (.invokestatic 412, 3) := by decide +kernel
theorem d_X11_spreadFrom_16 : decode (qMc M_X11_spreadFrom) 16 = .ok (.aload_n 0, 1) := by decide +kernel
theorem d_X11_spreadFrom_17 : decode (qMc M_X11_spreadFrom) 17 = .ok (.getfield 58, 3) := by decide +kernel
theorem d_X11_spreadFrom_20 : decode (qMc M_X11_spreadFrom) 20 = .ok (.iload_n 1, 1) := by decide +kernel
theorem d_X11_spreadFrom_21 : decode (qMc M_X11_spreadFrom) 21 = .ok (.iconst 0, 1) := by decide +kernel
theorem d_X11_spreadFrom_22 : decode (qMc M_X11_spreadFrom) 22 = .ok (.iastore, 1) := by decide +kernel
theorem d_X11_spreadFrom_23 : decode (qMc M_X11_spreadFrom) 23 = .ok (.iconst 1, 1) := by decide +kernel
theorem d_X11_spreadFrom_24 : decode (qMc M_X11_spreadFrom) 24 = .ok (.istore_n 3, 1) := by decide +kernel
theorem d_X11_spreadFrom_25 : decode (qMc M_X11_spreadFrom) 25 = .ok (.iconst 0, 1) := by decide +kernel
theorem d_X11_spreadFrom_26 : decode (qMc M_X11_spreadFrom) 26 = .ok (.istore 4, 2) := by decide +kernel
theorem d_X11_spreadFrom_28 : decode (qMc M_X11_spreadFrom) 28 = .ok (.iload 4, 2) := by decide +kernel
theorem d_X11_spreadFrom_30 : decode (qMc M_X11_spreadFrom) 30 = .ok (.aload_n 2, 1) := by decide +kernel
theorem d_X11_spreadFrom_31 : decode (qMc M_X11_spreadFrom) 31 = .ok (.getfield 159, 3) := by decide +kernel
theorem d_X11_spreadFrom_34 : decode (qMc M_X11_spreadFrom) 34 = .ok (.if_icmp .ge 81, 3) := by decide +kernel
theorem d_X11_spreadFrom_37 : decode (qMc M_X11_spreadFrom) 37 = .ok (.iload_n 3, 1) := by decide +kernel
theorem d_X11_spreadFrom_38 : decode (qMc M_X11_spreadFrom) 38 = .ok (.ifCond .eq 77, 3) := by decide +kernel
theorem d_X11_spreadFrom_41 : decode (qMc M_X11_spreadFrom) 41 = .ok (.iconst 0, 1) := by decide +kernel
theorem d_X11_spreadFrom_42 : decode (qMc M_X11_spreadFrom) 42 = .ok (.istore_n 3, 1) := by decide +kernel
theorem d_X11_spreadFrom_43 : decode (qMc M_X11_spreadFrom) 43 = .ok (.iconst 0, 1) := by decide +kernel
theorem d_X11_spreadFrom_44 : decode (qMc M_X11_spreadFrom) 44 = .ok (.istore 5, 2) := by decide +kernel
theorem d_X11_spreadFrom_46 : decode (qMc M_X11_spreadFrom) 46 = .ok (.iload 5, 2) := by decide +kernel
theorem d_X11_spreadFrom_48 : decode (qMc M_X11_spreadFrom) 48 = .ok (.aload_n 2, 1) := by decide +kernel
theorem d_X11_spreadFrom_49 : decode (qMc M_X11_spreadFrom) 49 = .ok (.getfield 159, 3) := by decide +kernel
theorem d_X11_spreadFrom_52 : decode (qMc M_X11_spreadFrom) 52 = .ok (.if_icmp .ge 57, 3) := by decide +kernel
theorem d_X11_spreadFrom_55 : decode (qMc M_X11_spreadFrom) 55 = .ok (.aload_n 0, 1) := by decide +kernel
theorem d_X11_spreadFrom_56 : decode (qMc M_X11_spreadFrom) 56 = .ok (.iload 5, 2) := by decide +kernel
theorem d_X11_spreadFrom_58 : decode (qMc M_X11_spreadFrom) 58 = .ok (.aload_n 2, 1) := by decide +kernel
theorem d_X11_spreadFrom_59 : decode (qMc M_X11_spreadFrom) 59 = .ok (.iload 5, 2) := by decide +kernel
theorem d_X11_spreadFrom_61 : decode (qMc M_X11_spreadFrom) 61 = .ok (.invokevirtual 417, 3) := by decide +kernel
theorem d_X11_spreadFrom_64 : decode (qMc M_X11_spreadFrom) 64 = .ok (.invokevirtual 420, 3) := by decide +kernel
theorem d_X11_spreadFrom_67 : decode (qMc M_X11_spreadFrom) 67 = .ok (.istore 6, 2) := by decide +kernel
theorem d_X11_spreadFrom_69 : decode (qMc M_X11_spreadFrom) 69 = .ok (.aload_n 0, 1) := by decide +kernel
theorem d_X11_spreadFrom_70 : decode (qMc M_X11_spreadFrom) 70 = .ok (.iload 5, 2) := by decide +kernel
theorem d_X11_spreadFrom_72 : decode (qMc M_X11_spreadFrom) 72 = .ok (.aload_n 2, 1) := by decide +kernel
theorem d_X11_spreadFrom_73 : decode (qMc M_X11_spreadFrom) 73 = .ok (.iload 5, 2) := by decide +kernel
theorem d_X11_spreadFrom_75 : decode (qMc M_X11_spreadFrom) 75 = .ok (.invokevirtual 423, 3) := by decide +kernel
theorem d_X11_spreadFrom_78 : decode (qMc M_X11_spreadFrom) 78 = .ok (.invokevirtual 420, 3) := by decide +kernel
theorem d_X11_spreadFrom_81 : decode (qMc M_X11_spreadFrom) 81 = .ok (.istore 7, 2) := by decide +kernel
theorem d_X11_spreadFrom_83 : decode (qMc M_X11_spreadFrom) 83 = .ok (.iload_n 3, 1) := by decide +kernel
theorem d_X11_spreadFrom_84 : decode (qMc M_X11_spreadFrom) 84 = .ok (.ifCond .ne 13, 3) := by decide +kernel
theorem d_X11_spreadFrom_87 : decode (qMc M_X11_spreadFrom) 87 = .ok (.iload 6, 2) := by decide +kernel
theorem d_X11_spreadFrom_89 : decode (qMc M_X11_spreadFrom) 89 = .ok (.ifCond .ne 8, 3) := by decide +kernel
theorem d_X11_spreadFrom_92 : decode (qMc M_X11_spreadFrom) 92 = .ok (.iload 7, 2) := by decide +kernel
theorem d_X11_spreadFrom_94 : decode (qMc M_X11_spreadFrom) 94 = .ok (.ifCond .eq 7, 3) := by decide +kernel
theorem d_X11_spreadFrom_97 : decode (qMc M_X11_spreadFrom) 97 = .ok (.iconst 1, 1) := by decide +kernel
theorem d_X11_spreadFrom_98 : decode (qMc M_X11_spreadFrom) 98 = .ok (.goto 4, 3) := by decide +kernel
theorem d_X11_spreadFrom_101 : decode (qMc M_X11_spreadFrom) 101 = .ok (.iconst 0, 1) := by decide +kernel
theorem d_X11_spreadFrom_102 : decode (qMc M_X11_spreadFrom) 102 = .ok (.istore_n 3, 1) := by decide +kernel
theorem d_X11_spreadFrom_103 : decode (qMc M_X11_spreadFrom) 103 = .ok (.iinc 5 1, 3) := by decide +kernel
theorem d_X11_spreadFrom_106 : decode (qMc M_X11_spreadFrom) 106 = .ok (.goto (-60), 3) := by decide +kernel
theorem d_X11_spreadFrom_109 : decode (qMc M_X11_spreadFrom) 109 = .ok (.iinc 4 1, 3) := by decide +kernel
theorem d_X11_spreadFrom_112 : decode (qMc M_X11_spreadFrom) 112 = .ok (.goto (-84), 3) := by decide +kernel
theorem d_X11_spreadFrom_115 : decode (qMc M_X11_spreadFrom) 115 = .ok (.return_, 1) := by decide +kernel
theorem d_X11_hearsFrom_0 : decode (qMc M_X11_hearsFrom) 0 = .ok (.iload_n 2, 1) := by decide +kernel
theorem d_X11_hearsFrom_1 : decode (qMc M_X11_hearsFrom) 1 = .ok (.iconst (-1), 1) := by decide +kernel
theorem d_X11_hearsFrom_2 : decode (qMc M_X11_hearsFrom) 2 = .ok (.if_icmp .eq 27, 3) := by decide +kernel
theorem d_X11_hearsFrom_5 : decode (qMc M_X11_hearsFrom) 5 = .ok (.aload_n 0, 1) := by decide +kernel
theorem d_X11_hearsFrom_6 : decode (qMc M_X11_hearsFrom) 6 = .ok (.getfield 58, 3) := by decide +kernel
theorem d_X11_hearsFrom_9 : decode (qMc M_X11_hearsFrom) 9 = .ok (.iload_n 2, 1) := by decide +kernel
theorem d_X11_hearsFrom_10 : decode (qMc M_X11_hearsFrom) 10 = .ok (.iaload, 1) := by decide +kernel
theorem d_X11_hearsFrom_11 : decode (qMc M_X11_hearsFrom) 11 = .ok (.iconst (-1), 1) := by decide +kernel
theorem d_X11_hearsFrom_12 : decode (qMc M_X11_hearsFrom) 12 = .ok (.if_icmp .eq 17, 3) := by decide +kernel
theorem d_X11_hearsFrom_15 : decode (qMc M_X11_hearsFrom) 15 = .ok (.aload_n 0, 1) := by decide +kernel
theorem d_X11_hearsFrom_16 : decode (qMc M_X11_hearsFrom) 16 = .ok (.getfield 12, 3) := by decide +kernel
theorem d_X11_hearsFrom_19 : decode (qMc M_X11_hearsFrom) 19 = .ok (.getfield 66, 3) := by decide +kernel
theorem d_X11_hearsFrom_22 : decode (qMc M_X11_hearsFrom) 22 = .ok (.iload_n 1, 1) := by decide +kernel
theorem d_X11_hearsFrom_23 : decode (qMc M_X11_hearsFrom) 23 = .ok (.invokevirtual 112, 3) := by decide +kernel
theorem d_X11_hearsFrom_26 : decode (qMc M_X11_hearsFrom) 26 = .ok (.ifCond .eq 5, 3) := by decide +kernel
theorem d_X11_hearsFrom_29 : decode (qMc M_X11_hearsFrom) 29 = .ok (.iconst 0, 1) := by decide +kernel
theorem d_X11_hearsFrom_30 : decode (qMc M_X11_hearsFrom) 30 = .ok (.ireturn, 1) := by decide +kernel
theorem d_X11_hearsFrom_31 : decode (qMc M_X11_hearsFrom) 31 = .ok (.aload_n 0, 1) := by decide +kernel
theorem d_X11_hearsFrom_32 : decode (qMc M_X11_hearsFrom) 32 = .ok (.getfield 58, 3) := by decide +kernel
theorem d_X11_hearsFrom_35 : decode (qMc M_X11_hearsFrom) 35 = .ok (.iload_n 2, 1) := by decide +kernel
theorem d_X11_hearsFrom_36 : decode (qMc M_X11_hearsFrom) 36 = .ok (.iaload, 1) := by decide +kernel
theorem d_X11_hearsFrom_37 : decode (qMc M_X11_hearsFrom) 37 = .ok (.aload_n 0, 1) := by decide +kernel
theorem d_X11_hearsFrom_38 : decode (qMc M_X11_hearsFrom) 38 = .ok (.getfield 12, 3) := by decide +kernel
theorem d_X11_hearsFrom_41 : decode (qMc M_X11_hearsFrom) 41 = .ok (.getfield 66, 3) := by decide +kernel
theorem d_X11_hearsFrom_44 : decode (qMc M_X11_hearsFrom) 44 = .ok (.iload_n 1, 1) := by decide +kernel
theorem d_X11_hearsFrom_45 : decode (qMc M_X11_hearsFrom) 45 = .ok (.invokevirtual 115, 3) := by decide +kernel
theorem d_X11_hearsFrom_48 : decode (qMc M_X11_hearsFrom) 48 = .ok (.ifCond .eq 7, 3) := by decide +kernel
theorem d_X11_hearsFrom_51 : decode (qMc M_X11_hearsFrom) 51 = .ok (.iconst 2, 1) := by decide +kernel
theorem d_X11_hearsFrom_52 : decode (qMc M_X11_hearsFrom) 52 = .ok (.goto 4, 3) := by decide +kernel
theorem d_X11_hearsFrom_55 : decode (qMc M_X11_hearsFrom) 55 = .ok (.iconst 1, 1) := by decide +kernel
theorem d_X11_hearsFrom_56 : decode (qMc M_X11_hearsFrom) 56 = .ok (.iadd, 1) := by decide +kernel
theorem d_X11_hearsFrom_57 : decode (qMc M_X11_hearsFrom) 57 = .ok (.istore_n 3, 1) := by decide +kernel
theorem d_X11_hearsFrom_58 : decode (qMc M_X11_hearsFrom) 58 = .ok (.aload_n 0, 1) := by decide +kernel
theorem d_X11_hearsFrom_59 : decode (qMc M_X11_hearsFrom) 59 = .ok (.getfield 58, 3) := by decide +kernel
theorem d_X11_hearsFrom_62 : decode (qMc M_X11_hearsFrom) 62 = .ok (.iload_n 1, 1) := by decide +kernel
theorem d_X11_hearsFrom_63 : decode (qMc M_X11_hearsFrom) 63 = .ok (.iaload, 1) := by decide +kernel
theorem d_X11_hearsFrom_64 : decode (qMc M_X11_hearsFrom) 64 = .ok (.iconst (-1), 1) := by decide +kernel
theorem d_X11_hearsFrom_65 : decode (qMc M_X11_hearsFrom) 65 = .ok (.if_icmp .eq 15, 3) := by decide +kernel
theorem d_X11_hearsFrom_68 : decode (qMc M_X11_hearsFrom) 68 = .ok (.aload_n 0, 1) := by decide +kernel
theorem d_X11_hearsFrom_69 : decode (qMc M_X11_hearsFrom) 69 = .ok (.getfield 58, 3) := by decide +kernel
theorem d_X11_hearsFrom_72 : decode (qMc M_X11_hearsFrom) 72 = .ok (.iload_n 1, 1) := by decide +kernel
theorem d_X11_hearsFrom_73 : decode (qMc M_X11_hearsFrom) 73 = .ok (.iaload, 1) := by decide +kernel
theorem d_X11_hearsFrom_74 : decode (qMc M_X11_hearsFrom) 74 = .ok (.iload_n 3, 1) := by decide +kernel
theorem d_X11_hearsFrom_75 : decode (qMc M_X11_hearsFrom) 75 = .ok (.if_icmp .gt 5, 3) := by decide +kernel
theorem d_X11_hearsFrom_78 : decode (qMc M_X11_hearsFrom) 78 = .ok (.iconst 0, 1) := by decide +kernel
theorem d_X11_hearsFrom_79 : decode (qMc M_X11_hearsFrom) 79 = .ok (.ireturn, 1) := by decide +kernel
theorem d_X11_hearsFrom_80 : decode (qMc M_X11_hearsFrom) 80 = .ok (.aload_n 0, 1) := by decide +kernel
theorem d_X11_hearsFrom_81 : decode (qMc M_X11_hearsFrom) 81 = .ok (.getfield 58, 3) := by decide +kernel
theorem d_X11_hearsFrom_84 : decode (qMc M_X11_hearsFrom) 84 = .ok (.iload_n 1, 1) := by decide +kernel
theorem d_X11_hearsFrom_85 : decode (qMc M_X11_hearsFrom) 85 = .ok (.iload_n 3, 1) := by decide +kernel
theorem d_X11_hearsFrom_86 : decode (qMc M_X11_hearsFrom) 86 = .ok (.iastore, 1) := by decide +kernel
theorem d_X11_hearsFrom_87 : decode (qMc M_X11_hearsFrom) 87 = .ok (.iconst 1, 1) := by decide +kernel
theorem d_X11_hearsFrom_88 : decode (qMc M_X11_hearsFrom) 88 = .ok (.ireturn, 1) := by decide +kernel
theorem d_X11_knowersBehind_0 : decode (qMc M_X11_knowersBehind) 0 = .ok (.iconst 0, 1) := by decide +kernel
theorem d_X11_knowersBehind_1 : decode (qMc M_X11_knowersBehind) 1 = .ok (.istore_n 2, 1) := by decide +kernel
theorem d_X11_knowersBehind_2 : decode (qMc M_X11_knowersBehind) 2 = .ok (.iconst 0, 1) := by decide +kernel
theorem d_X11_knowersBehind_3 : decode (qMc M_X11_knowersBehind) 3 = .ok (.istore_n 3, 1) := by decide +kernel
theorem d_X11_knowersBehind_4 : decode (qMc M_X11_knowersBehind) 4 = .ok (.iload_n 3, 1) := by decide +kernel
theorem d_X11_knowersBehind_5 : decode (qMc M_X11_knowersBehind) 5 = .ok (.aload_n 0, 1) := by decide +kernel
theorem d_X11_knowersBehind_6 : decode (qMc M_X11_knowersBehind) 6 = .ok (.getfield 12, 3) := by decide +kernel
theorem d_X11_knowersBehind_9 : decode (qMc M_X11_knowersBehind) 9 = .ok (.getfield 66, 3) := by decide +kernel
theorem d_X11_knowersBehind_12 : decode (qMc M_X11_knowersBehind) 12 = .ok (.getfield 159, 3) := by decide +kernel
theorem d_X11_knowersBehind_15 : decode (qMc M_X11_knowersBehind) 15 = .ok (.if_icmp .ge 26, 3) := by decide +kernel
theorem d_X11_knowersBehind_18 : decode (qMc M_X11_knowersBehind) 18 = .ok (.aload_n 0, 1) := by decide +kernel
theorem d_X11_knowersBehind_19 : decode (qMc M_X11_knowersBehind) 19 = .ok (.getfield 58, 3) := by decide +kernel
theorem d_X11_knowersBehind_22 : decode (qMc M_X11_knowersBehind) 22 = .ok (.iload_n 3, 1) := by decide +kernel
theorem d_X11_knowersBehind_23 : decode (qMc M_X11_knowersBehind) 23 = .ok (.iaload, 1) := by decide +kernel
theorem d_X11_knowersBehind_24 : decode (qMc M_X11_knowersBehind) 24 = .ok (.iconst 0, 1) := by decide +kernel
theorem d_X11_knowersBehind_25 : decode (qMc M_X11_knowersBehind) 25 = .ok (.iload_n 1, 1) := by decide +kernel
theorem d_X11_knowersBehind_26 : decode (qMc M_X11_knowersBehind) 26 = .ok (.invokestatic 62, 3) := by decide +kernel
theorem d_X11_knowersBehind_29 : decode (qMc M_X11_knowersBehind) 29 = .ok (.ifCond .eq 6, 3) := by decide +kernel
theorem d_X11_knowersBehind_32 : decode (qMc M_X11_knowersBehind) 32 = .ok (.iinc 2 1, 3) := by decide +kernel
theorem d_X11_knowersBehind_35 : decode (qMc M_X11_knowersBehind) 35 = .ok (.iinc 3 1, 3) := by decide +kernel
theorem d_X11_knowersBehind_38 : decode (qMc M_X11_knowersBehind) 38 = .ok (.goto (-34), 3) := by decide +kernel
theorem d_X11_knowersBehind_41 : decode (qMc M_X11_knowersBehind) 41 = .ok (.iload_n 2, 1) := by decide +kernel
theorem d_X11_knowersBehind_42 : decode (qMc M_X11_knowersBehind) 42 = .ok (.ireturn, 1) := by decide +kernel
theorem d_X11_goes_0 : decode (qMc M_X11_goes) 0 = .ok (.iload_n 1, 1) := by decide +kernel
theorem d_X11_goes_1 : decode (qMc M_X11_goes) 1 = .ok (.iconst (-1), 1) := by decide +kernel
theorem d_X11_goes_2 : decode (qMc M_X11_goes) 2 = .ok (.if_icmp .ne 16, 3) := by decide +kernel
theorem d_X11_goes_5 : decode (qMc M_X11_goes) 5 = .ok (.aload_n 0, 1) := by decide +kernel
theorem d_X11_goes_6 : decode (qMc M_X11_goes) 6 = .ok (.getfield 12, 3) := by decide +kernel
theorem d_X11_goes_9 : decode (qMc M_X11_goes) 9 = .ok (.getfield 426, 3) := by decide +kernel
theorem d_X11_goes_12 : decode (qMc M_X11_goes) 12 = .ok (.iconst 0, 1) := by decide +kernel
theorem d_X11_goes_13 : decode (qMc M_X11_goes) 13 = .ok (.invokevirtual 429, 3) := by decide +kernel
theorem d_X11_goes_16 : decode (qMc M_X11_goes) 16 = .ok (.iconst 0, 1) := by decide +kernel
theorem d_X11_goes_17 : decode (qMc M_X11_goes) 17 = .ok (.ireturn, 1) := by decide +kernel
theorem d_X11_goes_18 : decode (qMc M_X11_goes) 18 = .ok (.iload_n 1, 1) := by decide +kernel
theorem d_X11_goes_19 : decode (qMc M_X11_goes) 19 = .ok (.iconst 0, 1) := by decide +kernel
theorem d_X11_goes_20 : decode (qMc M_X11_goes) 20 = .ok (.bipush 99, 2) := by decide +kernel
theorem d_X11_goes_22 : decode (qMc M_X11_goes) 22 = .ok (.invokestatic 62, 3) := by decide +kernel
theorem d_X11_goes_25 : decode (qMc M_X11_goes) 25 = .ok (.ifCond .eq 35, 3) := by decide +kernel
theorem d_X11_goes_28 : decode (qMc M_X11_goes) 28 = .ok (.iload_n 2, 1) := by decide +kernel
theorem d_X11_goes_29 : decode (qMc M_X11_goes) 29 = .ok (.iconst 0, 1) := by decide +kernel
theorem d_X11_goes_30 : decode (qMc M_X11_goes) 30 = .ok (.bipush 99, 2) := by decide +kernel
theorem d_X11_goes_32 : decode (qMc M_X11_goes) 32 = .ok (.invokestatic 62, 3) := by decide +kernel
theorem d_X11_goes_35 : decode (qMc M_X11_goes) 35 = .ok (.ifCond .eq 25, 3) := by decide +kernel
theorem d_X11_goes_38 : decode (qMc M_X11_goes) 38 = .ok (.iload_n 3, 1) := by decide +kernel
theorem d_X11_goes_39 : decode (qMc M_X11_goes) 39 = .ok (.bipush (-9), 2) := by decide +kernel
theorem d_X11_goes_41 : decode (qMc M_X11_goes) 41 = .ok (.bipush 9, 2) := by decide +kernel
theorem d_X11_goes_43 : decode (qMc M_X11_goes) 43 = .ok (.invokestatic 62, 3) := by decide +kernel
theorem d_X11_goes_46 : decode (qMc M_X11_goes) 46 = .ok (.ifCond .eq 14, 3) := by decide +kernel
theorem d_X11_goes_49 : decode (qMc M_X11_goes) 49 = .ok (.iload 4, 2) := by decide +kernel
theorem d_X11_goes_51 : decode (qMc M_X11_goes) 51 = .ok (.iconst 1, 1) := by decide +kernel
theorem d_X11_goes_52 : decode (qMc M_X11_goes) 52 = .ok (.bipush 9, 2) := by decide +kernel
theorem d_X11_goes_54 : decode (qMc M_X11_goes) 54 = .ok (.invokestatic 62, 3) := by decide +kernel
theorem d_X11_goes_57 : decode (qMc M_X11_goes) 57 = .ok (.ifCond .ne 5, 3) := by decide +kernel
theorem d_X11_goes_60 : decode (qMc M_X11_goes) 60 = .ok (.iconst (-1), 1) := by decide +kernel
theorem d_X11_goes_61 : decode (qMc M_X11_goes) 61 = .ok (.ireturn, 1) := by decide +kernel
theorem d_X11_goes_62 : decode (qMc M_X11_goes) 62 = .ok (.aload_n 0, 1) := by decide +kernel
theorem d_X11_goes_63 : decode (qMc M_X11_goes) 63 = .ok (.getfield 12, 3) := by decide +kernel
theorem d_X11_goes_66 : decode (qMc M_X11_goes) 66 = .ok (.getfield 426, 3) := by decide +kernel
theorem d_X11_goes_69 : decode (qMc M_X11_goes) 69 = .ok (.iload_n 1, 1) := by decide +kernel
theorem d_X11_goes_70 : decode (qMc M_X11_goes) 70 = .ok (.iload_n 2, 1) := by decide +kernel
theorem d_X11_goes_71 : decode (qMc M_X11_goes) 71 = .ok (.iload_n 3, 1) := by decide +kernel
theorem d_X11_goes_72 : decode (qMc M_X11_goes) 72 = .ok (.iload 4, 2) := by decide +kernel
theorem d_X11_goes_74 : decode (qMc M_X11_goes) 74 = .ok (.invokevirtual 431, 3) := by decide +kernel
theorem d_X11_goes_77 : decode (qMc M_X11_goes) 77 = .ok (.ifCond .eq 16, 3) := by decide +kernel
theorem d_X11_goes_80 : decode (qMc M_X11_goes) 80 = .ok (.aload_n 0, 1) := by decide +kernel
theorem d_X11_goes_81 : decode (qMc M_X11_goes) 81 = .ok (.getfield 12, 3) := by decide +kernel
theorem d_X11_goes_84 : decode (qMc M_X11_goes) 84 = .ok (.getfield 426, 3) := by decide +kernel
theorem d_X11_goes_87 : decode (qMc M_X11_goes) 87 = .ok (.getfield 174, 3) := by decide +kernel
theorem d_X11_goes_90 : decode (qMc M_X11_goes) 90 = .ok (.goto 4, 3) := by decide +kernel
theorem d_X11_goes_93 : decode (qMc M_X11_goes) 93 = .ok (.iconst (-1), 1) := by decide +kernel
theorem d_X11_goes_94 : decode (qMc M_X11_goes) 94 = .ok (.ireturn, 1) := by decide +kernel
theorem d_X11_meets_0 : decode (qMc M_X11_meets) 0 = .ok (.aload_n 0, 1) := by decide +kernel
theorem d_X11_meets_1 : decode (qMc M_X11_meets) 1 = .ok (.getfield 12, 3) := by decide +kernel
theorem d_X11_meets_4 : decode (qMc M_X11_meets) 4 = .ok (.getfield 426, 3) := by decide +kernel
theorem d_X11_meets_7 : decode (qMc M_X11_meets) 7 = .ok (.astore 4, 2) := by decide +kernel
theorem d_X11_meets_9 : decode (qMc M_X11_meets) 9 = .ok (.iload_n 1, 1) := by decide +kernel
theorem d_X11_meets_10 : decode (qMc M_X11_meets) 10 = .ok (.iload_n 2, 1) := by decide +kernel
theorem d_X11_meets_11 : decode (qMc M_X11_meets) 11 = .ok (.if_icmp .eq 30, 3) := by decide +kernel
theorem d_X11_meets_14 : decode (qMc M_X11_meets) 14 = .ok (.aload 4, 2) := by decide +kernel
theorem d_X11_meets_16 : decode (qMc M_X11_meets) 16 = .ok (.iload_n 1, 1) := by decide +kernel
theorem d_X11_meets_17 : decode (qMc M_X11_meets) 17 = .ok (.invokevirtual 435, 3) := by decide +kernel
theorem d_X11_meets_20 : decode (qMc M_X11_meets) 20 = .ok (.ifCond .eq 21, 3) := by decide +kernel
theorem d_X11_meets_23 : decode (qMc M_X11_meets) 23 = .ok (.aload 4, 2) := by decide +kernel
theorem d_X11_meets_25 : decode (qMc M_X11_meets) 25 = .ok (.iload_n 2, 1) := by decide +kernel
theorem d_X11_meets_26 : decode (qMc M_X11_meets) 26 = .ok (.invokevirtual 435, 3) := by decide +kernel
theorem d_X11_meets_29 : decode (qMc M_X11_meets) 29 = .ok (.ifCond .eq 12, 3) := by decide +kernel
theorem d_X11_meets_32 : decode (qMc M_X11_meets) 32 = .ok (.iload_n 3, 1) := by decide +kernel
theorem d_X11_meets_33 : decode (qMc M_X11_meets) 33 = .ok (.iconst 0, 1) := by decide +kernel
theorem d_X11_meets_34 : decode (qMc M_X11_meets) 34 = .ok (.iconst 3, 1) := by decide +kernel
theorem d_X11_meets_35 : decode (qMc M_X11_meets) 35 = .ok (.invokestatic 62, 3) := by decide +kernel
theorem d_X11_meets_38 : decode (qMc M_X11_meets) 38 = .ok (.ifCond .ne 7, 3) := by decide +kernel
theorem d_X11_meets_41 : decode (qMc M_X11_meets) 41 = .ok (.ldc_w 436, 3) := by decide +kernel
theorem d_X11_meets_44 : decode (qMc M_X11_meets) 44 = .ok (.ireturn, 1) := by decide +kernel
theorem d_X11_meets_45 : decode (qMc M_X11_meets) 45 = .ok (.aload 4, 2) := by decide +kernel
theorem d_X11_meets_47 : decode (qMc M_X11_meets) 47 = .ok (.iload_n 1, 1) := by decide +kernel
theorem d_X11_meets_48 : decode (qMc M_X11_meets) 48 = .ok (.iconst 0, 1) := by decide +kernel
theorem d_X11_meets_49 : decode (qMc M_X11_meets) 49 = .ok (.invokevirtual 132, 3) := by decide +kernel
theorem d_X11_meets_52 : decode (qMc M_X11_meets) 52 = .ok (.istore 5, 2) := by decide +kernel
theorem d_X11_meets_54 : decode (qMc M_X11_meets) 54 = .ok (.aload 4, 2) := by decide +kernel
theorem d_X11_meets_56 : decode (qMc M_X11_meets) 56 = .ok (.iload_n 1, 1) := by decide +kernel
theorem d_X11_meets_57 : decode (qMc M_X11_meets) 57 = .ok (.iconst 1, 1) := by decide +kernel
theorem d_X11_meets_58 : decode (qMc M_X11_meets) 58 = .ok (.invokevirtual 132, 3) := by decide +kernel
theorem d_X11_meets_61 : decode (qMc M_X11_meets) 61 = .ok (.istore 6, 2) := by decide +kernel
theorem d_X11_meets_63 : decode (qMc M_X11_meets) 63 = .ok (.aload 4, 2) := by decide +kernel
theorem d_X11_meets_65 : decode (qMc M_X11_meets) 65 = .ok (.iload_n 1, 1) := by decide +kernel
theorem d_X11_meets_66 : decode (qMc M_X11_meets) 66 = .ok (.iconst 2, 1) := by decide +kernel
theorem d_X11_meets_67 : decode (qMc M_X11_meets) 67 = .ok (.invokevirtual 132, 3) := by decide +kernel
theorem d_X11_meets_70 : decode (qMc M_X11_meets) 70 = .ok (.istore 7, 2) := by decide +kernel
theorem d_X11_meets_72 : decode (qMc M_X11_meets) 72 = .ok (.aload 4, 2) := by decide +kernel
theorem d_X11_meets_74 : decode (qMc M_X11_meets) 74 = .ok (.iload_n 1, 1) := by decide +kernel
theorem d_X11_meets_75 : decode (qMc M_X11_meets) 75 = .ok (.iconst 3, 1) := by decide +kernel
theorem d_X11_meets_76 : decode (qMc M_X11_meets) 76 = .ok (.invokevirtual 132, 3) := by decide +kernel
theorem d_X11_meets_79 : decode (qMc M_X11_meets) 79 = .ok (.istore 8, 2) := by decide +kernel
theorem d_X11_meets_81 : decode (qMc M_X11_meets) 81 = .ok (.aload 4, 2) := by decide +kernel
theorem d_X11_meets_83 : decode (qMc M_X11_meets) 83 = .ok (.iload_n 2, 1) := by decide +kernel
theorem d_X11_meets_84 : decode (qMc M_X11_meets) 84 = .ok (.iconst 2, 1) := by decide +kernel
theorem d_X11_meets_85 : decode (qMc M_X11_meets) 85 = .ok (.invokevirtual 132, 3) := by decide +kernel
theorem d_X11_meets_88 : decode (qMc M_X11_meets) 88 = .ok (.istore 9, 2) := by decide +kernel
theorem d_X11_meets_90 : decode (qMc M_X11_meets) 90 = .ok (.aload 4, 2) := by decide +kernel
theorem d_X11_meets_92 : decode (qMc M_X11_meets) 92 = .ok (.iload_n 2, 1) := by decide +kernel
theorem d_X11_meets_93 : decode (qMc M_X11_meets) 93 = .ok (.iconst 3, 1) := by decide +kernel
theorem d_X11_meets_94 : decode (qMc M_X11_meets) 94 = .ok (.invokevirtual 132, 3) := by decide +kernel
theorem d_X11_meets_97 : decode (qMc M_X11_meets) 97 = .ok (.istore 10, 2) := by decide +kernel
theorem d_X11_meets_99 : decode (qMc M_X11_meets) 99 = .ok (.iload 7, 2) := by decide +kernel
theorem d_X11_meets_101 : decode (qMc M_X11_meets) 101 = .ok (.iload 10, 2) := by decide +kernel
theorem d_X11_meets_103 : decode (qMc M_X11_meets) 103 = .ok (.imul, 1) := by decide +kernel
theorem d_X11_meets_104 : decode (qMc M_X11_meets) 104 = .ok (.iload 9, 2) := by decide +kernel
theorem d_X11_meets_106 : decode (qMc M_X11_meets) 106 = .ok (.iload 8, 2) := by decide +kernel
theorem d_X11_meets_108 : decode (qMc M_X11_meets) 108 = .ok (.imul, 1) := by decide +kernel
theorem d_X11_meets_109 : decode (qMc M_X11_meets) 109 = .ok (.isub, 1) := by decide +kernel
theorem d_X11_meets_110 : decode (qMc M_X11_meets) 110 = .ok (.istore 11, 2) := by decide +kernel
theorem d_X11_meets_112 : decode (qMc M_X11_meets) 112 = .ok (.iload 11, 2) := by decide +kernel
theorem d_X11_meets_114 : decode (qMc M_X11_meets) 114 = .ok (.ifCond .ne 7, 3) := by decide +kernel
theorem d_X11_meets_117 : decode (qMc M_X11_meets) 117 = .ok (.ldc_w 436, 3) := by decide +kernel
theorem d_X11_meets_120 : decode (qMc M_X11_meets) 120 = .ok (.ireturn, 1) := by decide +kernel
theorem d_X11_meets_121 : decode (qMc M_X11_meets) 121 = .ok (.aload 4, 2) := by decide +kernel
theorem d_X11_meets_123 : decode (qMc M_X11_meets) 123 = .ok (.iload_n 2, 1) := by decide +kernel
theorem d_X11_meets_124 : decode (qMc M_X11_meets) 124 = .ok (.iconst 0, 1) := by decide +kernel
theorem d_X11_meets_125 : decode (qMc M_X11_meets) 125 = .ok (.invokevirtual 132, 3) := by decide +kernel
theorem d_X11_meets_128 : decode (qMc M_X11_meets) 128 = .ok (.iload 5, 2) := by decide +kernel
theorem d_X11_meets_130 : decode (qMc M_X11_meets) 130 = .ok (.isub, 1) := by decide +kernel
theorem d_X11_meets_131 : decode (qMc M_X11_meets) 131 = .ok (.iload 8, 2) := by decide +kernel
theorem d_X11_meets_133 : decode (qMc M_X11_meets) 133 = .ok (.imul, 1) := by decide +kernel
theorem d_X11_meets_134 : decode (qMc M_X11_meets) 134 = .ok (.iload 10, 2) := by decide +kernel
theorem d_X11_meets_136 : decode (qMc M_X11_meets) 136 = .ok (.imul, 1) := by decide +kernel
theorem d_X11_meets_137 : decode (qMc M_X11_meets) 137 = .ok (.iload 7, 2) := by decide +kernel
theorem d_X11_meets_139 : decode (qMc M_X11_meets) 139 = .ok (.iload 6, 2) := by decide +kernel
theorem d_X11_meets_141 : decode (qMc M_X11_meets) 141 = .ok (.imul, 1) := by decide +kernel
theorem d_X11_meets_142 : decode (qMc M_X11_meets) 142 = .ok (.iload 10, 2) := by decide +kernel
theorem d_X11_meets_144 : decode (qMc M_X11_meets) 144 = .ok (.imul, 1) := by decide +kernel
theorem d_X11_meets_145 : decode (qMc M_X11_meets) 145 = .ok (.iadd, 1) := by decide +kernel
theorem d_X11_meets_146 : decode (qMc M_X11_meets) 146 = .ok (.iload 9, 2) := by decide +kernel
theorem d_X11_meets_148 : decode (qMc M_X11_meets) 148 = .ok (.aload 4, 2) := by decide +kernel
theorem d_X11_meets_150 : decode (qMc M_X11_meets) 150 = .ok (.iload_n 2, 1) := by decide +kernel
theorem d_X11_meets_151 : decode (qMc M_X11_meets) 151 = .ok (.iconst 1, 1) := by decide +kernel
theorem d_X11_meets_152 : decode (qMc M_X11_meets) 152 = .ok (.invokevirtual 132, 3) := by decide +kernel
theorem d_X11_meets_155 : decode (qMc M_X11_meets) 155 = .ok (.imul, 1) := by decide +kernel
theorem d_X11_meets_156 : decode (qMc M_X11_meets) 156 = .ok (.iload 8, 2) := by decide +kernel
theorem d_X11_meets_158 : decode (qMc M_X11_meets) 158 = .ok (.imul, 1) := by decide +kernel
theorem d_X11_meets_159 : decode (qMc M_X11_meets) 159 = .ok (.isub, 1) := by decide +kernel
theorem d_X11_meets_160 : decode (qMc M_X11_meets) 160 = .ok (.istore 12, 2) := by decide +kernel
theorem d_X11_meets_162 : decode (qMc M_X11_meets) 162 = .ok (.iload_n 3, 1) := by decide +kernel
theorem d_X11_meets_163 : decode (qMc M_X11_meets) 163 = .ok (.iconst 2, 1) := by decide +kernel
theorem d_X11_meets_164 : decode (qMc M_X11_meets) 164 = .ok (.if_icmp .ge 21, 3) := by decide +kernel
theorem d_X11_meets_167 : decode (qMc M_X11_meets) 167 = .ok (.iload 12, 2) := by decide +kernel
theorem d_X11_meets_169 : decode (qMc M_X11_meets) 169 = .ok (.iload 11, 2) := by decide +kernel
theorem d_X11_meets_171 : decode (qMc M_X11_meets) 171 = .ok (.iload_n 3, 1) := by decide +kernel
theorem d_X11_meets_172 : decode (qMc M_X11_meets) 172 = .ok (.iconst 1, 1) := by decide +kernel
theorem d_X11_meets_173 : decode (qMc M_X11_meets) 173 = .ok (.if_icmp .ne 7, 3) := by decide +kernel
theorem d_X11_meets_176 : decode (qMc M_X11_meets) 176 = .ok (.iconst 1, 1) := by decide +kernel
theorem d_X11_meets_177 : decode (qMc M_X11_meets) 177 = .ok (.goto 4, 3) := by decide +kernel
theorem d_X11_meets_180 : decode (qMc M_X11_meets) 180 = .ok (.iconst 0, 1) := by decide +kernel
theorem d_X11_meets_181 : decode (qMc M_X11_meets) 181 = .ok (.invokestatic 437, 3) := by decide +kernel
theorem d_X11_meets_184 : decode (qMc M_X11_meets) 184 = .ok (.ireturn, 1) := by decide +kernel
theorem d_X11_meets_185 : decode (qMc M_X11_meets) 185 = .ok (.iload 5, 2) := by decide +kernel
theorem d_X11_meets_187 : decode (qMc M_X11_meets) 187 = .ok (.iload 8, 2) := by decide +kernel
theorem d_X11_meets_189 : decode (qMc M_X11_meets) 189 = .ok (.imul, 1) := by decide +kernel
theorem d_X11_meets_190 : decode (qMc M_X11_meets) 190 = .ok (.iload 11, 2) := by decide +kernel
theorem d_X11_meets_192 : decode (qMc M_X11_meets) 192 = .ok (.imul, 1) := by decide +kernel
theorem d_X11_meets_193 : decode (qMc M_X11_meets) 193 = .ok (.iload 7, 2) := by decide +kernel
theorem d_X11_meets_195 : decode (qMc M_X11_meets) 195 = .ok (.iload 12, 2) := by decide +kernel
theorem d_X11_meets_197 : decode (qMc M_X11_meets) 197 = .ok (.iload 6, 2) := by decide +kernel
theorem d_X11_meets_199 : decode (qMc M_X11_meets) 199 = .ok (.iload 11, 2) := by decide +kernel
theorem d_X11_meets_201 : decode (qMc M_X11_meets) 201 = .ok (.imul, 1) := by decide +kernel
theorem d_X11_meets_202 : decode (qMc M_X11_meets) 202 = .ok (.isub, 1) := by decide +kernel
theorem d_X11_meets_203 : decode (qMc M_X11_meets) 203 = .ok (.imul, 1) := by decide +kernel
theorem d_X11_meets_204 : decode (qMc M_X11_meets) 204 = .ok (.iadd, 1) := by decide +kernel
theorem d_X11_meets_205 : decode (qMc M_X11_meets) 205 = .ok (.iload 8, 2) := by decide +kernel
theorem d_X11_meets_207 : decode (qMc M_X11_meets) 207 = .ok (.iload 11, 2) := by decide +kernel
theorem d_X11_meets_209 : decode (qMc M_X11_meets) 209 = .ok (.imul, 1) := by decide +kernel
theorem d_X11_meets_210 : decode (qMc M_X11_meets) 210 = .ok (.iload_n 3, 1) := by decide +kernel
theorem d_X11_meets_211 : decode (qMc M_X11_meets) 211 = .ok (.iconst 3, 1) := by decide +kernel
theorem d_X11_meets_212 : decode (qMc M_X11_meets) 212 = .ok (.if_icmp .ne 7, 3) := by decide +kernel
theorem d_X11_meets_215 : decode (qMc M_X11_meets) 215 = .ok (.iconst 1, 1) := by decide +kernel
theorem d_X11_meets_216 : decode (qMc M_X11_meets) 216 = .ok (.goto 4, 3) := by decide +kernel
theorem d_X11_meets_219 : decode (qMc M_X11_meets) 219 = .ok (.iconst 0, 1) := by decide +kernel
theorem d_X11_meets_220 : decode (qMc M_X11_meets) 220 = .ok (.invokestatic 437, 3) := by decide +kernel
theorem d_X11_meets_223 : decode (qMc M_X11_meets) 223 = .ok (.ireturn, 1) := by decide +kernel
theorem d_X11_echo_0 : decode (qMc M_X11_echo) 0 = .ok (.aload_n 0, 1) := by decide +kernel
theorem d_X11_echo_1 : decode (qMc M_X11_echo) 1 = .ok (.getfield 12, 3) := by decide +kernel
theorem d_X11_echo_4 : decode (qMc M_X11_echo) 4 = .ok (.getfield 426, 3) := by decide +kernel
theorem d_X11_echo_7 : decode (qMc M_X11_echo) 7 = .ok (.astore 5, 2) := by decide +kernel
theorem d_X11_echo_9 : decode (qMc M_X11_echo) 9 = .ok (.aload 5, 2) := by decide +kernel
theorem d_X11_echo_11 : decode (qMc M_X11_echo) 11 = .ok (.iload_n 1, 1) := by decide +kernel
theorem d_X11_echo_12 : decode (qMc M_X11_echo) 12 = .ok (.invokevirtual 435, 3) := by decide +kernel
theorem d_X11_echo_15 : decode (qMc M_X11_echo) 15 = .ok (.ifCond .eq 34, 3) := by decide +kernel
theorem d_X11_echo_18 : decode (qMc M_X11_echo) 18 = .ok (.iload_n 2, 1) := by decide +kernel
theorem d_X11_echo_19 : decode (qMc M_X11_echo) 19 = .ok (.iconst 2, 1) := by decide +kernel
theorem d_X11_echo_20 : decode (qMc M_X11_echo) 20 = .ok (.bipush 99, 2) := by decide +kernel
theorem d_X11_echo_22 : decode (qMc M_X11_echo) 22 = .ok (.invokestatic 62, 3) := by decide +kernel
theorem d_X11_echo_25 : decode (qMc M_X11_echo) 25 = .ok (.ifCond .eq 24, 3) := by decide +kernel
theorem d_X11_echo_28 : decode (qMc M_X11_echo) 28 = .ok (.iload_n 3, 1) := by decide +kernel
theorem d_X11_echo_29 : decode (qMc M_X11_echo) 29 = .ok (.iconst 0, 1) := by decide +kernel
theorem d_X11_echo_30 : decode (qMc M_X11_echo) 30 = .ok (.sipush 999, 3) := by decide +kernel
theorem d_X11_echo_33 : decode (qMc M_X11_echo) 33 = .ok (.invokestatic 62, 3) := by decide +kernel
theorem d_X11_echo_36 : decode (qMc M_X11_echo) 36 = .ok (.ifCond .eq 13, 3) := by decide +kernel
theorem d_X11_echo_39 : decode (qMc M_X11_echo) 39 = .ok (.iload 4, 2) := by decide +kernel
theorem d_X11_echo_41 : decode (qMc M_X11_echo) 41 = .ok (.iconst 0, 1) := by decide +kernel
theorem d_X11_echo_42 : decode (qMc M_X11_echo) 42 = .ok (.iconst 1, 1) := by decide +kernel
theorem d_X11_echo_43 : decode (qMc M_X11_echo) 43 = .ok (.invokestatic 62, 3) := by decide +kernel
theorem d_X11_echo_46 : decode (qMc M_X11_echo) 46 = .ok (.ifCond .ne 7, 3) := by decide +kernel
theorem d_X11_echo_49 : decode (qMc M_X11_echo) 49 = .ok (.ldc_w 436, 3) := by decide +kernel
theorem d_X11_echo_52 : decode (qMc M_X11_echo) 52 = .ok (.ireturn, 1) := by decide +kernel
theorem d_X11_echo_53 : decode (qMc M_X11_echo) 53 = .ok (.aload 5, 2) := by decide +kernel
theorem d_X11_echo_55 : decode (qMc M_X11_echo) 55 = .ok (.iload_n 1, 1) := by decide +kernel
theorem d_X11_echo_56 : decode (qMc M_X11_echo) 56 = .ok (.iconst 0, 1) := by decide +kernel
theorem d_X11_echo_57 : decode (qMc M_X11_echo) 57 = .ok (.invokevirtual 132, 3) := by decide +kernel
theorem d_X11_echo_60 : decode (qMc M_X11_echo) 60 = .ok (.istore 6, 2) := by decide +kernel
theorem d_X11_echo_62 : decode (qMc M_X11_echo) 62 = .ok (.aload 5, 2) := by decide +kernel
theorem d_X11_echo_64 : decode (qMc M_X11_echo) 64 = .ok (.iload_n 1, 1) := by decide +kernel
theorem d_X11_echo_65 : decode (qMc M_X11_echo) 65 = .ok (.iconst 3, 1) := by decide +kernel
theorem d_X11_echo_66 : decode (qMc M_X11_echo) 66 = .ok (.invokevirtual 132, 3) := by decide +kernel
theorem d_X11_echo_69 : decode (qMc M_X11_echo) 69 = .ok (.istore 7, 2) := by decide +kernel
theorem d_X11_echo_71 : decode (qMc M_X11_echo) 71 = .ok (.iload 6, 2) := by decide +kernel
theorem d_X11_echo_73 : decode (qMc M_X11_echo) 73 = .ok (.iload_n 2, 1) := by decide +kernel
theorem d_X11_echo_74 : decode (qMc M_X11_echo) 74 = .ok (.iconst 1, 1) := by decide +kernel
theorem d_X11_echo_75 : decode (qMc M_X11_echo) 75 = .ok (.isub, 1) := by decide +kernel
theorem d_X11_echo_76 : decode (qMc M_X11_echo) 76 = .ok (.if_icmp .gt 9, 3) := by decide +kernel
theorem d_X11_echo_79 : decode (qMc M_X11_echo) 79 = .ok (.iload 7, 2) := by decide +kernel
theorem d_X11_echo_81 : decode (qMc M_X11_echo) 81 = .ok (.iconst 1, 1) := by decide +kernel
theorem d_X11_echo_82 : decode (qMc M_X11_echo) 82 = .ok (.if_icmp .ge 7, 3) := by decide +kernel
theorem d_X11_echo_85 : decode (qMc M_X11_echo) 85 = .ok (.ldc_w 436, 3) := by decide +kernel
theorem d_X11_echo_88 : decode (qMc M_X11_echo) 88 = .ok (.ireturn, 1) := by decide +kernel
theorem d_X11_echo_89 : decode (qMc M_X11_echo) 89 = .ok (.iload_n 2, 1) := by decide +kernel
theorem d_X11_echo_90 : decode (qMc M_X11_echo) 90 = .ok (.iconst 1, 1) := by decide +kernel
theorem d_X11_echo_91 : decode (qMc M_X11_echo) 91 = .ok (.isub, 1) := by decide +kernel
theorem d_X11_echo_92 : decode (qMc M_X11_echo) 92 = .ok (.iload 7, 2) := by decide +kernel
theorem d_X11_echo_94 : decode (qMc M_X11_echo) 94 = .ok (.imul, 1) := by decide +kernel
theorem d_X11_echo_95 : decode (qMc M_X11_echo) 95 = .ok (.istore 8, 2) := by decide +kernel
theorem d_X11_echo_97 : decode (qMc M_X11_echo) 97 = .ok (.iload 6, 2) := by decide +kernel
theorem d_X11_echo_99 : decode (qMc M_X11_echo) 99 = .ok (.iload 7, 2) := by decide +kernel
theorem d_X11_echo_101 : decode (qMc M_X11_echo) 101 = .ok (.imul, 1) := by decide +kernel
theorem d_X11_echo_102 : decode (qMc M_X11_echo) 102 = .ok (.aload 5, 2) := by decide +kernel
theorem d_X11_echo_104 : decode (qMc M_X11_echo) 104 = .ok (.iload_n 1, 1) := by decide +kernel
theorem d_X11_echo_105 : decode (qMc M_X11_echo) 105 = .ok (.iconst 2, 1) := by decide +kernel
theorem d_X11_echo_106 : decode (qMc M_X11_echo) 106 = .ok (.invokevirtual 132, 3) := by decide +kernel
theorem d_X11_echo_109 : decode (qMc M_X11_echo) 109 = .ok (.iload_n 3, 1) := by decide +kernel
theorem d_X11_echo_110 : decode (qMc M_X11_echo) 110 = .ok (.imul, 1) := by decide +kernel
theorem d_X11_echo_111 : decode (qMc M_X11_echo) 111 = .ok (.iadd, 1) := by decide +kernel
theorem d_X11_echo_112 : decode (qMc M_X11_echo) 112 = .ok (.iconst 2, 1) := by decide +kernel
theorem d_X11_echo_113 : decode (qMc M_X11_echo) 113 = .ok (.iload 8, 2) := by decide +kernel
theorem d_X11_echo_115 : decode (qMc M_X11_echo) 115 = .ok (.imul, 1) := by decide +kernel
theorem d_X11_echo_116 : decode (qMc M_X11_echo) 116 = .ok (.invokestatic 441, 3) := by decide +kernel
theorem d_X11_echo_119 : decode (qMc M_X11_echo) 119 = .ok (.istore 9, 2) := by decide +kernel
theorem d_X11_echo_121 : decode (qMc M_X11_echo) 121 = .ok (.iload 9, 2) := by decide +kernel
theorem d_X11_echo_123 : decode (qMc M_X11_echo) 123 = .ok (.iload 8, 2) := by decide +kernel
theorem d_X11_echo_125 : decode (qMc M_X11_echo) 125 = .ok (.if_icmp .le 13, 3) := by decide +kernel
theorem d_X11_echo_128 : decode (qMc M_X11_echo) 128 = .ok (.iconst 2, 1) := by decide +kernel
theorem d_X11_echo_129 : decode (qMc M_X11_echo) 129 = .ok (.iload 8, 2) := by decide +kernel
theorem d_X11_echo_131 : decode (qMc M_X11_echo) 131 = .ok (.imul, 1) := by decide +kernel
theorem d_X11_echo_132 : decode (qMc M_X11_echo) 132 = .ok (.iload 9, 2) := by decide +kernel
theorem d_X11_echo_134 : decode (qMc M_X11_echo) 134 = .ok (.isub, 1) := by decide +kernel
theorem d_X11_echo_135 : decode (qMc M_X11_echo) 135 = .ok (.goto 5, 3) := by decide +kernel
theorem d_X11_echo_138 : decode (qMc M_X11_echo) 138 = .ok (.iload 9, 2) := by decide +kernel
theorem d_X11_echo_140 : decode (qMc M_X11_echo) 140 = .ok (.iload 7, 2) := by decide +kernel
theorem d_X11_echo_142 : decode (qMc M_X11_echo) 142 = .ok (.iload 4, 2) := by decide +kernel
theorem d_X11_echo_144 : decode (qMc M_X11_echo) 144 = .ok (.iconst 1, 1) := by decide +kernel
theorem d_X11_echo_145 : decode (qMc M_X11_echo) 145 = .ok (.if_icmp .ne 7, 3) := by decide +kernel
theorem d_X11_echo_148 : decode (qMc M_X11_echo) 148 = .ok (.iconst 1, 1) := by decide +kernel
theorem d_X11_echo_149 : decode (qMc M_X11_echo) 149 = .ok (.goto 4, 3) := by decide +kernel
theorem d_X11_echo_152 : decode (qMc M_X11_echo) 152 = .ok (.iconst 0, 1) := by decide +kernel
theorem d_X11_echo_153 : decode (qMc M_X11_echo) 153 = .ok (.invokestatic 437, 3) := by decide +kernel
theorem d_X11_echo_156 : decode (qMc M_X11_echo) 156 = .ok (.ireturn, 1) := by decide +kernel
theorem d_X11_partOf_0 : decode (qMc M_X11_partOf) 0 = .ok (.iload_n 0, 1) := by decide +kernel
theorem d_X11_partOf_1 : decode (qMc M_X11_partOf) 1 = .ok (.invokestatic 444, 3) := by decide +kernel
theorem d_X11_partOf_4 : decode (qMc M_X11_partOf) 4 = .ok (.iload_n 1, 1) := by decide +kernel
theorem d_X11_partOf_5 : decode (qMc M_X11_partOf) 5 = .ok (.invokestatic 444, 3) := by decide +kernel
theorem d_X11_partOf_8 : decode (qMc M_X11_partOf) 8 = .ok (.invokestatic 447, 3) := by decide +kernel
theorem d_X11_partOf_11 : decode (qMc M_X11_partOf) 11 = .ok (.istore_n 3, 1) := by decide +kernel
theorem d_X11_partOf_12 : decode (qMc M_X11_partOf) 12 = .ok (.iload_n 3, 1) := by decide +kernel
theorem d_X11_partOf_13 : decode (qMc M_X11_partOf) 13 = .ok (.ifCond .ne 7, 3) := by decide +kernel
theorem d_X11_partOf_16 : decode (qMc M_X11_partOf) 16 = .ok (.ldc_w 436, 3) := by decide +kernel
theorem d_X11_partOf_19 : decode (qMc M_X11_partOf) 19 = .ok (.ireturn, 1) := by decide +kernel
theorem d_X11_partOf_20 : decode (qMc M_X11_partOf) 20 = .ok (.iload_n 1, 1) := by decide +kernel
theorem d_X11_partOf_21 : decode (qMc M_X11_partOf) 21 = .ok (.ifCond .ge 7, 3) := by decide +kernel
theorem d_X11_partOf_24 : decode (qMc M_X11_partOf) 24 = .ok (.iconst (-1), 1) := by decide +kernel
theorem d_X11_partOf_25 : decode (qMc M_X11_partOf) 25 = .ok (.goto 4, 3) := by decide +kernel
theorem d_X11_partOf_28 : decode (qMc M_X11_partOf) 28 = .ok (.iconst 1, 1) := by decide +kernel
theorem d_X11_partOf_29 : decode (qMc M_X11_partOf) 29 = .ok (.istore 4, 2) := by decide +kernel
theorem d_X11_partOf_31 : decode (qMc M_X11_partOf) 31 = .ok (.iload 4, 2) := by decide +kernel
theorem d_X11_partOf_33 : decode (qMc M_X11_partOf) 33 = .ok (.iload_n 2, 1) := by decide +kernel
theorem d_X11_partOf_34 : decode (qMc M_X11_partOf) 34 = .ok (.ifCond .eq 7, 3) := by decide +kernel
theorem d_X11_partOf_37 : decode (qMc M_X11_partOf) 37 = .ok (.iload_n 1, 1) := by decide +kernel
theorem d_X11_partOf_38 : decode (qMc M_X11_partOf) 38 = .ok (.goto 4, 3) := by decide +kernel
theorem d_X11_partOf_41 : decode (qMc M_X11_partOf) 41 = .ok (.iload_n 0, 1) := by decide +kernel
theorem d_X11_partOf_42 : decode (qMc M_X11_partOf) 42 = .ok (.imul, 1) := by decide +kernel
theorem d_X11_partOf_43 : decode (qMc M_X11_partOf) 43 = .ok (.iload_n 3, 1) := by decide +kernel
theorem d_X11_partOf_44 : decode (qMc M_X11_partOf) 44 = .ok (.idiv, 1) := by decide +kernel
theorem d_X11_partOf_45 : decode (qMc M_X11_partOf) 45 = .ok (.ireturn, 1) := by decide +kernel
theorem d_X11_commonDivisor_0 : decode (qMc M_X11_commonDivisor) 0 = .ok (.iload_n 0, 1) := by decide +kernel
theorem d_X11_commonDivisor_1 : decode (qMc M_X11_commonDivisor) 1 = .ok (.istore_n 2, 1) := by decide +kernel
theorem d_X11_commonDivisor_2 : decode (qMc M_X11_commonDivisor) 2 = .ok (.iload_n 1, 1) := by decide +kernel
theorem d_X11_commonDivisor_3 : decode (qMc M_X11_commonDivisor) 3 = .ok (.istore_n 3, 1) := by decide +kernel
theorem d_X11_commonDivisor_4 : decode (qMc M_X11_commonDivisor) 4 = .ok (.iconst 0, 1) := by decide +kernel
theorem d_X11_commonDivisor_5 : decode (qMc M_X11_commonDivisor) 5 = .ok (.istore 4, 2) := by decide +kernel
theorem d_X11_commonDivisor_7 : decode (qMc M_X11_commonDivisor) 7 = .ok (.iload 4, 2) := by decide +kernel
theorem d_X11_commonDivisor_9 : decode (qMc M_X11_commonDivisor) 9 = .ok (.bipush 100, 2) := by decide +kernel
theorem d_X11_commonDivisor_11 : decode (qMc M_X11_commonDivisor) 11 = .ok (.if_icmp .ge 23, 3) := by decide +kernel
theorem d_X11_commonDivisor_14 : decode (qMc M_X11_commonDivisor) 14 = .ok (.iload_n 3, 1) := by decide +kernel
theorem d_X11_commonDivisor_15 : decode (qMc M_X11_commonDivisor) 15 = .ok (.ifCond .eq 19, 3) := by decide +kernel
theorem d_X11_commonDivisor_18 : decode (qMc M_X11_commonDivisor) 18 = .ok (.iload_n 2, 1) := by decide +kernel
theorem d_X11_commonDivisor_19 : decode (qMc M_X11_commonDivisor) 19 = .ok (.iload_n 3, 1) := by decide +kernel
theorem d_X11_commonDivisor_20 : decode (qMc M_X11_commonDivisor) 20 = .ok (.irem, 1) := by decide +kernel
theorem d_X11_commonDivisor_21 : decode (qMc M_X11_commonDivisor) 21 = .ok (.istore 5, 2) := by decide +kernel
theorem d_X11_commonDivisor_23 : decode (qMc M_X11_commonDivisor) 23 = .ok (.iload_n 3, 1) := by decide +kernel
theorem d_X11_commonDivisor_24 : decode (qMc M_X11_commonDivisor) 24 = .ok (.istore_n 2, 1) := by decide +kernel
theorem d_X11_commonDivisor_25 : decode (qMc M_X11_commonDivisor) 25 = .ok (.iload 5, 2) := by decide +kernel
theorem d_X11_commonDivisor_27 : decode (qMc M_X11_commonDivisor) 27 = .ok (.istore_n 3, 1) := by decide +kernel
theorem d_X11_commonDivisor_28 : decode (qMc M_X11_commonDivisor) 28 = .ok (.iinc 4 1, 3) := by decide +kernel
theorem d_X11_commonDivisor_31 : decode (qMc M_X11_commonDivisor) 31 = .ok (.goto (-24), 3) := by decide +kernel
theorem d_X11_commonDivisor_34 : decode (qMc M_X11_commonDivisor) 34 = .ok (.iload_n 2, 1) := by decide +kernel
theorem d_X11_commonDivisor_35 : decode (qMc M_X11_commonDivisor) 35 = .ok (.ireturn, 1) := by decide +kernel
theorem d_X11_lights_0 : decode (qMc M_X11_lights) 0 = .ok (.iload_n 1, 1) := by decide +kernel
theorem d_X11_lights_1 : decode (qMc M_X11_lights) 1 = .ok (.iconst 1, 1) := by decide +kernel
theorem d_X11_lights_2 : decode (qMc M_X11_lights) 2 = .ok (.bipush 12, 2) := by decide +kernel
theorem d_X11_lights_4 : decode (qMc M_X11_lights) 4 = .ok (.invokestatic 62, 3) := by decide +kernel
theorem d_X11_lights_7 : decode (qMc M_X11_lights) 7 = .ok (.ifCond .eq 25, 3) := by decide +kernel
theorem d_X11_lights_10 : decode (qMc M_X11_lights) 10 = .ok (.iload_n 2, 1) := by decide +kernel
theorem d_X11_lights_11 : decode (qMc M_X11_lights) 11 = .ok (.iconst 0, 1) := by decide +kernel
theorem d_X11_lights_12 : decode (qMc M_X11_lights) 12 = .ok (.iconst 1, 1) := by decide +kernel
theorem d_X11_lights_13 : decode (qMc M_X11_lights) 13 = .ok (.iload_n 1, 1) := by decide +kernel
theorem d_X11_lights_14 : decode (qMc M_X11_lights) 14 = .ok (.ishl, 1) := by decide +kernel
theorem d_X11_lights_15 : decode (qMc M_X11_lights) 15 = .ok (.iconst 1, 1) := by decide +kernel
theorem d_X11_lights_16 : decode (qMc M_X11_lights) 16 = .ok (.isub, 1) := by decide +kernel
theorem d_X11_lights_17 : decode (qMc M_X11_lights) 17 = .ok (.invokestatic 62, 3) := by decide +kernel
theorem d_X11_lights_20 : decode (qMc M_X11_lights) 20 = .ok (.ifCond .eq 12, 3) := by decide +kernel
theorem d_X11_lights_23 : decode (qMc M_X11_lights) 23 = .ok (.iload_n 3, 1) := by decide +kernel
theorem d_X11_lights_24 : decode (qMc M_X11_lights) 24 = .ok (.iconst 0, 1) := by decide +kernel
theorem d_X11_lights_25 : decode (qMc M_X11_lights) 25 = .ok (.iconst 1, 1) := by decide +kernel
theorem d_X11_lights_26 : decode (qMc M_X11_lights) 26 = .ok (.invokestatic 62, 3) := by decide +kernel
theorem d_X11_lights_29 : decode (qMc M_X11_lights) 29 = .ok (.ifCond .ne 5, 3) := by decide +kernel
theorem d_X11_lights_32 : decode (qMc M_X11_lights) 32 = .ok (.iconst (-1), 1) := by decide +kernel
theorem d_X11_lights_33 : decode (qMc M_X11_lights) 33 = .ok (.ireturn, 1) := by decide +kernel
theorem d_X11_lights_34 : decode (qMc M_X11_lights) 34 = .ok (.iconst 1, 1) := by decide +kernel
theorem d_X11_lights_35 : decode (qMc M_X11_lights) 35 = .ok (.iload_n 1, 1) := by decide +kernel
theorem d_X11_lights_36 : decode (qMc M_X11_lights) 36 = .ok (.ishl, 1) := by decide +kernel
theorem d_X11_lights_37 : decode (qMc M_X11_lights) 37 = .ok (.iconst 1, 1) := by decide +kernel
theorem d_X11_lights_38 : decode (qMc M_X11_lights) 38 = .ok (.isub, 1) := by decide +kernel
theorem d_X11_lights_39 : decode (qMc M_X11_lights) 39 = .ok (.istore 4, 2) := by decide +kernel
theorem d_X11_lights_41 : decode (qMc M_X11_lights) 41 = .ok (.iconst (-1), 1) := by decide +kernel
theorem d_X11_lights_42 : decode (qMc M_X11_lights) 42 = .ok (.istore 5, 2) := by decide +kernel
theorem d_X11_lights_44 : decode (qMc M_X11_lights) 44 = .ok (.iconst 0, 1) := by decide +kernel
theorem d_X11_lights_45 : decode (qMc M_X11_lights) 45 = .ok (.istore 6, 2) := by decide +kernel
theorem d_X11_lights_47 : decode (qMc M_X11_lights) 47 = .ok (.iload 6, 2) := by decide +kernel
theorem d_X11_lights_49 : decode (qMc M_X11_lights) 49 = .ok (.iload 4, 2) := by decide +kernel
theorem d_X11_lights_51 : decode (qMc M_X11_lights) 51 = .ok (.if_icmp .gt 70, 3) := by decide +kernel
theorem d_X11_lights_54 : decode (qMc M_X11_lights) 54 = .ok (.iload 6, 2) := by decide +kernel
theorem d_X11_lights_56 : decode (qMc M_X11_lights) 56 = .ok (.iload 6, 2) := by decide +kernel
theorem d_X11_lights_58 : decode (qMc M_X11_lights) 58 = .ok (.iconst 1, 1) := by decide +kernel
theorem d_X11_lights_59 : decode (qMc M_X11_lights) 59 = .ok (.ishl, 1) := by decide +kernel
theorem d_X11_lights_60 : decode (qMc M_X11_lights) 60 = .ok (.ixor, 1) := by decide +kernel
theorem d_X11_lights_61 : decode (qMc M_X11_lights) 61 = .ok (.iload 6, 2) := by decide +kernel
theorem d_X11_lights_63 : decode (qMc M_X11_lights) 63 = .ok (.iconst 1, 1) := by decide +kernel
theorem d_X11_lights_64 : decode (qMc M_X11_lights) 64 = .ok (.ishr, 1) := by decide +kernel
theorem d_X11_lights_65 : decode (qMc M_X11_lights) 65 = .ok (.ixor, 1) := by decide +kernel
theorem d_X11_lights_66 : decode (qMc M_X11_lights) 66 = .ok (.iload 4, 2) := by decide +kernel
theorem d_X11_lights_68 : decode (qMc M_X11_lights) 68 = .ok (.iand, 1) := by decide +kernel
theorem d_X11_lights_69 : decode (qMc M_X11_lights) 69 = .ok (.istore 7, 2) := by decide +kernel
theorem d_X11_lights_71 : decode (qMc M_X11_lights) 71 = .ok (.iload_n 2, 1) := by decide +kernel
theorem d_X11_lights_72 : decode (qMc M_X11_lights) 72 = .ok (.iload 7, 2) := by decide +kernel
theorem d_X11_lights_74 : decode (qMc M_X11_lights) 74 = .ok (.ixor, 1) := by decide +kernel
theorem d_X11_lights_75 : decode (qMc M_X11_lights) 75 = .ok (.iload 4, 2) := by decide +kernel
theorem d_X11_lights_77 : decode (qMc M_X11_lights) 77 = .ok (.if_icmp .ne 7, 3) := by decide +kernel
theorem d_X11_lights_80 : decode (qMc M_X11_lights) 80 = .ok (.iconst 1, 1) := by decide +kernel
theorem d_X11_lights_81 : decode (qMc M_X11_lights) 81 = .ok (.goto 4, 3) := by decide +kernel
theorem d_X11_lights_84 : decode (qMc M_X11_lights) 84 = .ok (.iconst 0, 1) := by decide +kernel
theorem d_X11_lights_85 : decode (qMc M_X11_lights) 85 = .ok (.istore 8, 2) := by decide +kernel
theorem d_X11_lights_87 : decode (qMc M_X11_lights) 87 = .ok (.iload 8, 2) := by decide +kernel
theorem d_X11_lights_89 : decode (qMc M_X11_lights) 89 = .ok (.ifCond .eq 26, 3) := by decide +kernel
theorem d_X11_lights_92 : decode (qMc M_X11_lights) 92 = .ok (.iload 5, 2) := by decide +kernel
theorem d_X11_lights_94 : decode (qMc M_X11_lights) 94 = .ok (.iconst (-1), 1) := by decide +kernel
theorem d_X11_lights_95 : decode (qMc M_X11_lights) 95 = .ok (.if_icmp .eq 16, 3) := by decide +kernel
theorem d_X11_lights_98 : decode (qMc M_X11_lights) 98 = .ok (.iload 6, 2) := by decide +kernel
theorem d_X11_lights_100 : decode (qMc M_X11_lights) 100 = .ok (.invokestatic 357, 3) := by decide +kernel
theorem d_X11_lights_103 : decode (qMc M_X11_lights) 103 = .ok (.iload 5, 2) := by decide +kernel
theorem d_X11_lights_105 : decode (qMc M_X11_lights) 105 = .ok (.invokestatic 357, 3) := by decide +kernel
theorem d_X11_lights_108 : decode (qMc M_X11_lights) 108 = .ok (.if_icmp .ge 7, 3) := by decide +kernel
theorem d_X11_lights_111 : decode (qMc M_X11_lights) 111 = .ok (.iload 6, 2) := by decide +kernel
theorem d_X11_lights_113 : decode (qMc M_X11_lights) 113 = .ok (.istore 5, 2) := by decide +kernel
theorem d_X11_lights_115 : decode (qMc M_X11_lights) 115 = .ok (.iinc 6 1, 3) := by decide +kernel
theorem d_X11_lights_118 : decode (qMc M_X11_lights) 118 = .ok (.goto (-71), 3) := by decide +kernel
theorem d_X11_lights_121 : decode (qMc M_X11_lights) 121 = .ok (.iload_n 3, 1) := by decide +kernel
theorem d_X11_lights_122 : decode (qMc M_X11_lights) 122 = .ok (.ifCond .ne 17, 3) := by decide +kernel
theorem d_X11_lights_125 : decode (qMc M_X11_lights) 125 = .ok (.iload 5, 2) := by decide +kernel
theorem d_X11_lights_127 : decode (qMc M_X11_lights) 127 = .ok (.iconst (-1), 1) := by decide +kernel
theorem d_X11_lights_128 : decode (qMc M_X11_lights) 128 = .ok (.if_icmp .eq 11, 3) := by decide +kernel
theorem d_X11_lights_131 : decode (qMc M_X11_lights) 131 = .ok (.iload 5, 2) := by decide +kernel
theorem d_X11_lights_133 : decode (qMc M_X11_lights) 133 = .ok (.invokestatic 357, 3) := by decide +kernel
theorem d_X11_lights_136 : decode (qMc M_X11_lights) 136 = .ok (.goto 5, 3) := by decide +kernel
theorem d_X11_lights_139 : decode (qMc M_X11_lights) 139 = .ok (.iload 5, 2) := by decide +kernel
theorem d_X11_lights_141 : decode (qMc M_X11_lights) 141 = .ok (.ireturn, 1) := by decide +kernel
theorem d_X11_isWithin_0 : decode (qMc M_X11_isWithin) 0 = .ok (.iload_n 0, 1) := by decide +kernel
theorem d_X11_isWithin_1 : decode (qMc M_X11_isWithin) 1 = .ok (.iload_n 1, 1) := by decide +kernel
theorem d_X11_isWithin_2 : decode (qMc M_X11_isWithin) 2 = .ok (.if_icmp .lt 12, 3) := by decide +kernel
theorem d_X11_isWithin_5 : decode (qMc M_X11_isWithin) 5 = .ok (.iload_n 0, 1) := by decide +kernel
theorem d_X11_isWithin_6 : decode (qMc M_X11_isWithin) 6 = .ok (.iload_n 2, 1) := by decide +kernel
theorem d_X11_isWithin_7 : decode (qMc M_X11_isWithin) 7 = .ok (.if_icmp .gt 7, 3) := by decide +kernel
theorem d_X11_isWithin_10 : decode (qMc M_X11_isWithin) 10 = .ok (.iconst 1, 1) := by decide +kernel
theorem d_X11_isWithin_11 : decode (qMc M_X11_isWithin) 11 = .ok (.goto 4, 3) := by decide +kernel
theorem d_X11_isWithin_14 : decode (qMc M_X11_isWithin) 14 = .ok (.iconst 0, 1) := by decide +kernel
theorem d_X11_isWithin_15 : decode (qMc M_X11_isWithin) 15 = .ok (.ireturn, 1) := by decide +kernel
