theorem d_X11_isRun_0 : decode (qMc M_X11_isRun) 0 = .ok (.iload_n 0, 1) := by decide +kernel
theorem d_X11_isRun_1 : decode (qMc M_X11_isRun) 1 = .ok (.iconst 1, 1) := by decide +kernel
theorem d_X11_isRun_2 : decode (qMc M_X11_isRun) 2 = .ok (.bipush 32, 2) := by decide +kernel
theorem d_X11_isRun_4 : decode (qMc M_X11_isRun) 4 = .ok (.invokestatic 62, 3) := by decide +kernel
theorem d_X11_isRun_7 : decode (qMc M_X11_isRun) 7 = .ok (.ifCond .eq 18, 3) := by decide +kernel
theorem d_X11_isRun_10 : decode (qMc M_X11_isRun) 10 = .ok (.iload_n 1, 1) := by decide +kernel
theorem d_X11_isRun_11 : decode (qMc M_X11_isRun) 11 = .ok (.iconst 0, 1) := by decide +kernel
theorem d_X11_isRun_12 : decode (qMc M_X11_isRun) 12 = .ok (.iload_n 0, 1) := by decide +kernel
theorem d_X11_isRun_13 : decode (qMc M_X11_isRun) 13 = .ok (.iconst 1, 1) := by decide +kernel
theorem d_X11_isRun_14 : decode (qMc M_X11_isRun) 14 = .ok (.isub, 1) := by decide +kernel
theorem d_X11_isRun_15 : decode (qMc M_X11_isRun) 15 = .ok (.invokestatic 62, 3) := by decide +kernel
theorem d_X11_isRun_18 : decode (qMc M_X11_isRun) 18 = .ok (.ifCond .eq 7, 3) := by decide +kernel
theorem d_X11_isRun_21 : decode (qMc M_X11_isRun) 21 = .ok (.iconst 1, 1) := by decide +kernel
theorem d_X11_isRun_22 : decode (qMc M_X11_isRun) 22 = .ok (.goto 4, 3) := by decide +kernel
theorem d_X11_isRun_25 : decode (qMc M_X11_isRun) 25 = .ok (.iconst 0, 1) := by decide +kernel
theorem d_X11_isRun_26 : decode (qMc M_X11_isRun) 26 = .ok (.ireturn, 1) := by decide +kernel
theorem d_X11_isLength_0 : decode (qMc M_X11_isLength) 0 = .ok (.iload_n 0, 1) := by decide +kernel
theorem d_X11_isLength_1 : decode (qMc M_X11_isLength) 1 = .ok (.iconst 1, 1) := by decide +kernel
theorem d_X11_isLength_2 : decode (qMc M_X11_isLength) 2 = .ok (.bipush 24, 2) := by decide +kernel
theorem d_X11_isLength_4 : decode (qMc M_X11_isLength) 4 = .ok (.invokestatic 62, 3) := by decide +kernel
theorem d_X11_isLength_7 : decode (qMc M_X11_isLength) 7 = .ok (.ireturn, 1) := by decide +kernel
theorem d_X11_caseOf_0 : decode (qMc M_X11_caseOf) 0 = .ok (.iload_n 0, 1) := by decide +kernel
theorem d_X11_caseOf_1 : decode (qMc M_X11_caseOf) 1 = .ok (.bipush 9, 2) := by decide +kernel
theorem d_X11_caseOf_3 : decode (qMc M_X11_caseOf) 3 = .ok (.imul, 1) := by decide +kernel
theorem d_X11_caseOf_4 : decode (qMc M_X11_caseOf) 4 = .ok (.iload_n 1, 1) := by decide +kernel
theorem d_X11_caseOf_5 : decode (qMc M_X11_caseOf) 5 = .ok (.iadd, 1) := by decide +kernel
theorem d_X11_caseOf_6 : decode (qMc M_X11_caseOf) 6 = .ok (.bipush 9, 2) := by decide +kernel
theorem d_X11_caseOf_8 : decode (qMc M_X11_caseOf) 8 = .ok (.imul, 1) := by decide +kernel
theorem d_X11_caseOf_9 : decode (qMc M_X11_caseOf) 9 = .ok (.iload_n 2, 1) := by decide +kernel
theorem d_X11_caseOf_10 : decode (qMc M_X11_caseOf) 10 = .ok (.iadd, 1) := by decide +kernel
theorem d_X11_caseOf_11 : decode (qMc M_X11_caseOf) 11 = .ok (.ireturn, 1) := by decide +kernel
theorem d_X11_ownOf_0 : decode (qMc M_X11_ownOf) 0 = .ok (.iload_n 0, 1) := by decide +kernel
theorem d_X11_ownOf_1 : decode (qMc M_X11_ownOf) 1 = .ok (.bipush 81, 2) := by decide +kernel
theorem d_X11_ownOf_3 : decode (qMc M_X11_ownOf) 3 = .ok (.idiv, 1) := by decide +kernel
theorem d_X11_ownOf_4 : decode (qMc M_X11_ownOf) 4 = .ok (.ireturn, 1) := by decide +kernel
theorem d_X11_leftOf_0 : decode (qMc M_X11_leftOf) 0 = .ok (.iload_n 0, 1) := by decide +kernel
theorem d_X11_leftOf_1 : decode (qMc M_X11_leftOf) 1 = .ok (.bipush 9, 2) := by decide +kernel
theorem d_X11_leftOf_3 : decode (qMc M_X11_leftOf) 3 = .ok (.idiv, 1) := by decide +kernel
theorem d_X11_leftOf_4 : decode (qMc M_X11_leftOf) 4 = .ok (.bipush 9, 2) := by decide +kernel
theorem d_X11_leftOf_6 : decode (qMc M_X11_leftOf) 6 = .ok (.irem, 1) := by decide +kernel
theorem d_X11_leftOf_7 : decode (qMc M_X11_leftOf) 7 = .ok (.ireturn, 1) := by decide +kernel
theorem d_X11_rightOf_0 : decode (qMc M_X11_rightOf) 0 = .ok (.iload_n 0, 1) := by decide +kernel
theorem d_X11_rightOf_1 : decode (qMc M_X11_rightOf) 1 = .ok (.bipush 9, 2) := by decide +kernel
theorem d_X11_rightOf_3 : decode (qMc M_X11_rightOf) 3 = .ok (.irem, 1) := by decide +kernel
theorem d_X11_rightOf_4 : decode (qMc M_X11_rightOf) 4 = .ok (.ireturn, 1) := by decide +kernel
theorem d_X12_init_0 : decode (qMc M_X12_init) 0 = .ok (.aload_n 0, 1) := by decide +kernel
theorem d_X12_init_1 : decode (qMc M_X12_init) 1 = .ok (.invokespecial 1, 3) := by decide +kernel
theorem d_X12_init_4 : decode (qMc M_X12_init) 4 = .ok (.aload_n 0, 1) := by decide +kernel
theorem d_X12_init_5 : decode (qMc M_X12_init) 5 = .ok (.iconst (-1), 1) := by decide +kernel
theorem d_X12_init_6 : decode (qMc M_X12_init) 6 = .ok (.putfield 9, 3) := by decide +kernel
theorem d_X12_init_9 : decode (qMc M_X12_init) 9 = .ok (.aload_n 0, 1) := by decide +kernel
theorem d_X12_init_10 : decode (qMc M_X12_init) 10 = .ok (.sipush 400, 3) := by decide +kernel
theorem d_X12_init_13 : decode (qMc M_X12_init) 13 = .ok (.newarray .int, 2) := by decide +kernel
theorem d_X12_init_15 : decode (qMc M_X12_init) 15 = .ok (.putfield 13, 3) := by decide +kernel
theorem d_X12_init_18 : decode (qMc M_X12_init) 18 = .ok (.aload_n 0, 1) := by decide +kernel
theorem d_X12_init_19 : decode (qMc M_X12_init) 19 = .ok (.sipush 384, 3) := by decide +kernel
theorem d_X12_init_22 : decode (qMc M_X12_init) 22 = .ok (.newarray .int, 2) := by decide +kernel
theorem d_X12_init_24 : decode (qMc M_X12_init) 24 = .ok (.putfield 17, 3) := by decide +kernel
theorem d_X12_init_27 : decode (qMc M_X12_init) 27 = .ok (.aload_n 0, 1) := by decide +kernel
theorem d_X12_init_28 : decode (qMc M_X12_init) 28 = .ok (.sipush 384, 3) := by decide +kernel
theorem d_X12_init_31 : decode (qMc M_X12_init) 31 = .ok (.newarray .int, 2) := by decide +kernel
theorem d_X12_init_33 : decode (qMc M_X12_init) 33 = .ok (.putfield 20, 3) := by decide +kernel
theorem d_X12_init_36 : decode (qMc M_X12_init) 36 = .ok (.aload_n 0, 1) := by decide +kernel
theorem d_X12_init_37 : decode (qMc M_X12_init) 37 = .ok (.bipush 96, 2) := by decide +kernel
theorem d_X12_init_39 : decode (qMc M_X12_init) 39 = .ok (.newarray .int, 2) := by decide +kernel
theorem d_X12_init_41 : decode (qMc M_X12_init) 41 = .ok (.putfield 23, 3) := by decide +kernel
theorem d_X12_init_44 : decode (qMc M_X12_init) 44 = .ok (.aload_n 0, 1) := by decide +kernel
theorem d_X12_init_45 : decode (qMc M_X12_init) 45 = .ok (.iconst 4, 1) := by decide +kernel
theorem d_X12_init_46 : decode (qMc M_X12_init) 46 = .ok (.newarray .int, 2) := by decide +kernel
theorem d_X12_init_48 : decode (qMc M_X12_init) 48 = .ok (.putfield 26, 3) := by decide +kernel
theorem d_X12_init_51 : decode (qMc M_X12_init) 51 = .ok (.aload_n 0, 1) := by decide +kernel
theorem d_X12_init_52 : decode (qMc M_X12_init) 52 = .ok (.iconst 4, 1) := by decide +kernel
theorem d_X12_init_53 : decode (qMc M_X12_init) 53 = .ok (.newarray .int, 2) := by decide +kernel
theorem d_X12_init_55 : decode (qMc M_X12_init) 55 = .ok (.putfield 29, 3) := by decide +kernel
theorem d_X12_init_58 : decode (qMc M_X12_init) 58 = .ok (.aload_n 0, 1) := by decide +kernel
theorem d_X12_init_59 : decode (qMc M_X12_init) 59 = .ok (.bipush 64, 2) := by decide +kernel
theorem d_X12_init_61 : decode (qMc M_X12_init) 61 = .ok (.newarray .int, 2) := by decide +kernel
theorem d_X12_init_63 : decode (qMc M_X12_init) 63 = .ok (.putfield 32, 3) := by decide +kernel
theorem d_X12_init_66 : decode (qMc M_X12_init) 66 = .ok (.aload_n 0, 1) := by decide +kernel
theorem d_X12_init_67 : decode (qMc M_X12_init) 67 = .ok (.bipush 64, 2) := by decide +kernel
theorem d_X12_init_69 : decode (qMc M_X12_init) 69 = .ok (.newarray .int, 2) := by decide +kernel
theorem d_X12_init_71 : decode (qMc M_X12_init) 71 = .ok (.putfield 35, 3) := by decide +kernel
theorem d_X12_init_74 : decode (qMc M_X12_init) 74 = .ok (.aload_n 0, 1) := by decide +kernel
theorem d_X12_init_75 : decode (qMc M_X12_init) 75 = .ok (.bipush 16, 2) := by decide +kernel
theorem d_X12_init_77 : decode (qMc M_X12_init) 77 = .ok (.newarray .int, 2) := by decide +kernel
theorem d_X12_init_79 : decode (qMc M_X12_init) 79 = .ok (.putfield 38, 3) := by decide +kernel
theorem d_X12_init_82 : decode (qMc M_X12_init) 82 = .ok (.aload_n 0, 1) := by decide +kernel
theorem d_X12_init_83 : decode (qMc M_X12_init) 83 = .ok (.bipush 16, 2) := by decide +kernel
theorem d_X12_init_85 : decode (qMc M_X12_init) 85 = .ok (.newarray .int, 2) := by decide +kernel
theorem d_X12_init_87 : decode (qMc M_X12_init) 87 = .ok (.putfield 41, 3) := by decide +kernel
theorem d_X12_init_90 : decode (qMc M_X12_init) 90 = .ok (.aload_n 0, 1) := by decide +kernel
theorem d_X12_init_91 : decode (qMc M_X12_init) 91 = .ok (.sipush 167, 3) := by decide +kernel
theorem d_X12_init_94 : decode (qMc M_X12_init) 94 = .ok (.newarray .int, 2) := by decide +kernel
theorem d_X12_init_96 : decode (qMc M_X12_init) 96 = .ok (.putfield 44, 3) := by decide +kernel
theorem d_X12_init_99 : decode (qMc M_X12_init) 99 = .ok (.aload_n 0, 1) := by decide +kernel
theorem d_X12_init_100 : decode (qMc M_X12_init) 100 = .ok (.sipush 167, 3) := by decide +kernel
theorem d_X12_init_103 : decode (qMc M_X12_init) 103 = .ok (.newarray .int, 2) := by decide +kernel
theorem d_X12_init_105 : decode (qMc M_X12_init) 105 = .ok (.putfield 47, 3) := by decide +kernel
theorem d_X12_init_108 : decode (qMc M_X12_init) 108 = .ok (.aload_n 0, 1) := by decide +kernel
theorem d_X12_init_109 : decode (qMc M_X12_init) 109 = .ok (.sipush 600, 3) := by decide +kernel
theorem d_X12_init_112 : decode (qMc M_X12_init) 112 = .ok (.newarray .int, 2) := by decide +kernel
theorem d_X12_init_114 : decode (qMc M_X12_init) 114 = .ok (.putfield 50, 3) := by decide +kernel
theorem d_X12_init_117 : decode (qMc M_X12_init) 117 = .ok (.aload_n 0, 1) := by decide +kernel
theorem d_X12_init_118 : decode (qMc M_X12_init) 118 = .ok (.sipush 1002, 3) := by decide +kernel
theorem d_X12_init_121 : decode (qMc M_X12_init) 121 = .ok (.newarray .int, 2) := by decide +kernel
theorem d_X12_init_123 : decode (qMc M_X12_init) 123 = .ok (.putfield 53, 3) := by decide +kernel
theorem d_X12_init_126 : decode (qMc M_X12_init) 126 = .ok (.aload_n 0, 1) := by decide +kernel
theorem d_X12_init_127 : decode (qMc M_X12_init) 127 = .ok (.bipush 32, 2) := by decide +kernel
theorem d_X12_init_129 : decode (qMc M_X12_init) 129 = .ok (.newarray .int, 2) := by decide +kernel
theorem d_X12_init_131 : decode (qMc M_X12_init) 131 = .ok (.putfield 56, 3) := by decide +kernel
theorem d_X12_init_134 : decode (qMc M_X12_init) 134 = .ok (.aload_n 0, 1) := by decide +kernel
theorem d_X12_init_135 : decode (qMc M_X12_init) 135 = .ok (.sipush 167, 3) := by decide +kernel
theorem d_X12_init_138 : decode (qMc M_X12_init) 138 = .ok (.newarray .int, 2) := by decide +kernel
theorem d_X12_init_140 : decode (qMc M_X12_init) 140 = .ok (.putfield 59, 3) := by decide +kernel
theorem d_X12_init_143 : decode (qMc M_X12_init) 143 = .ok (.aload_n 0, 1) := by decide +kernel
theorem d_X12_init_144 : decode (qMc M_X12_init) 144 = .ok (.iconst 4, 1) := by decide +kernel
theorem d_X12_init_145 : decode (qMc M_X12_init) 145 = .ok (.newarray .int, 2) := by decide +kernel
theorem d_X12_init_147 : decode (qMc M_X12_init) 147 = .ok (.putfield 62, 3) := by decide +kernel
theorem d_X12_init_150 : decode (qMc M_X12_init) 150 = .ok (.aload_n 0, 1) := by decide +kernel
theorem d_X12_init_151 : decode (qMc M_X12_init) 151 = .ok (.iconst 4, 1) := by decide +kernel
theorem d_X12_init_152 : decode (qMc M_X12_init) 152 = .ok (.newarray .int, 2) := by decide +kernel
theorem d_X12_init_154 : decode (qMc M_X12_init) 154 = .ok (.putfield 65, 3) := by decide +kernel
theorem d_X12_init_157 : decode (qMc M_X12_init) 157 = .ok (.aload_n 0, 1) := by decide +kernel
theorem d_X12_init_158 : decode (qMc M_X12_init) 158 = .ok (.bipush 16, 2) := by decide +kernel
theorem d_X12_init_160 : decode (qMc M_X12_init) 160 = .ok (.newarray .int, 2) := by decide +kernel
theorem d_X12_init_162 : decode (qMc M_X12_init) 162 = .ok (.putfield 68, 3) := by decide +kernel
theorem d_X12_init_165 : decode (qMc M_X12_init) 165 = .ok (.aload_n 0, 1) := by decide +kernel
theorem d_X12_init_166 : decode (qMc M_X12_init) 166 = .ok (.sipush 600, 3) := by decide +kernel
theorem d_X12_init_169 : decode (qMc M_X12_init) 169 = .ok (.newarray .int, 2) := by decide +kernel
theorem d_X12_init_171 : decode (qMc M_X12_init) 171 = .ok (.putfield 71, 3) := by decide +kernel
theorem d_X12_init_174 : decode (qMc M_X12_init) 174 = .ok (.aload_n 0, 1) := by decide +kernel
theorem d_X12_init_175 : decode (qMc M_X12_init) 175 = .ok (.sipush 384, 3) := by decide +kernel
theorem d_X12_init_178 : decode (qMc M_X12_init) 178 = .ok (.newarray .int, 2) := by decide +kernel
theorem d_X12_init_180 : decode (qMc M_X12_init) 180 = .ok (.putfield 74, 3) := by decide +kernel
theorem d_X12_init_183 : decode (qMc M_X12_init) 183 = .ok (.aload_n 0, 1) := by decide +kernel
theorem d_X12_init_184 : decode (qMc M_X12_init) 184 = .ok (.sipush 384, 3) := by decide +kernel
theorem d_X12_init_187 : decode (qMc M_X12_init) 187 = .ok (.newarray .int, 2) := by decide +kernel
theorem d_X12_init_189 : decode (qMc M_X12_init) 189 = .ok (.putfield 77, 3) := by decide +kernel
theorem d_X12_init_192 : decode (qMc M_X12_init) 192 = .ok (.aload_n 0, 1) := by decide +kernel
theorem d_X12_init_193 : decode (qMc M_X12_init) 193 = .ok (.bipush 64, 2) := by decide +kernel
theorem d_X12_init_195 : decode (qMc M_X12_init) 195 = .ok (.newarray .int, 2) := by decide +kernel
theorem d_X12_init_197 : decode (qMc M_X12_init) 197 = .ok (.putfield 80, 3) := by decide +kernel
theorem d_X12_init_200 : decode (qMc M_X12_init) 200 = .ok (.aload_n 0, 1) := by decide +kernel
theorem d_X12_init_201 : decode (qMc M_X12_init) 201 = .ok (.bipush 32, 2) := by decide +kernel
theorem d_X12_init_203 : decode (qMc M_X12_init) 203 = .ok (.newarray .int, 2) := by decide +kernel
theorem d_X12_init_205 : decode (qMc M_X12_init) 205 = .ok (.putfield 83, 3) := by decide +kernel
theorem d_X12_init_208 : decode (qMc M_X12_init) 208 = .ok (.aload_n 0, 1) := by decide +kernel
theorem d_X12_init_209 : decode (qMc M_X12_init) 209 = .ok (.sipush 648, 3) := by decide +kernel
theorem d_X12_init_212 : decode (qMc M_X12_init) 212 = .ok (.newarray .int, 2) := by decide +kernel
theorem d_X12_init_214 : decode (qMc M_X12_init) 214 = .ok (.putfield 86, 3) := by decide +kernel
theorem d_X12_init_217 : decode (qMc M_X12_init) 217 = .ok (.aload_n 0, 1) := by decide +kernel
theorem d_X12_init_218 : decode (qMc M_X12_init) 218 = .ok (.sipush 648, 3) := by decide +kernel
theorem d_X12_init_221 : decode (qMc M_X12_init) 221 = .ok (.newarray .int, 2) := by decide +kernel
theorem d_X12_init_223 : decode (qMc M_X12_init) 223 = .ok (.putfield 89, 3) := by decide +kernel
theorem d_X12_init_226 : decode (qMc M_X12_init) 226 = .ok (.aload_n 0, 1) := by decide +kernel
theorem d_X12_init_227 : decode (qMc M_X12_init) 227 = .ok (.sipush 648, 3) := by decide +kernel
theorem d_X12_init_230 : decode (qMc M_X12_init) 230 = .ok (.newarray .int, 2) := by decide +kernel
theorem d_X12_init_232 : decode (qMc M_X12_init) 232 = .ok (.putfield 92, 3) := by decide +kernel
theorem d_X12_init_235 : decode (qMc M_X12_init) 235 = .ok (.aload_n 0, 1) := by decide +kernel
theorem d_X12_init_236 : decode (qMc M_X12_init) 236 = .ok (.bipush 32, 2) := by decide +kernel
theorem d_X12_init_238 : decode (qMc M_X12_init) 238 = .ok (.newarray .int, 2) := by decide +kernel
theorem d_X12_init_240 : decode (qMc M_X12_init) 240 = .ok (.putfield 95, 3) := by decide +kernel
theorem d_X12_init_243 : decode (qMc M_X12_init) 243 = .ok (.aload_n 0, 1) := by decide +kernel
theorem d_X12_init_244 : decode (qMc M_X12_init) 244 = .ok (.bipush 32, 2) := by decide +kernel
theorem d_X12_init_246 : decode (qMc M_X12_init) 246 = .ok (.newarray .int, 2) := by decide +kernel
theorem d_X12_init_248 : decode (qMc M_X12_init) 248 = .ok (.putfield 98, 3) := by decide +kernel
theorem d_X12_init_251 : decode (qMc M_X12_init) 251 = .ok (.aload_n 0, 1) := by decide +kernel
theorem d_X12_init_252 : decode (qMc M_X12_init) 252 = .ok (.bipush 32, 2) := by decide +kernel
theorem d_X12_init_254 : decode (qMc M_X12_init) 254 = .ok (.newarray .int, 2) := by decide +kernel
theorem d_X12_init_256 : decode (qMc M_X12_init) 256 = .ok (.putfield 101, 3) := by decide +kernel
theorem d_X12_init_259 : decode (qMc M_X12_init) 259 = .ok (.aload_n 0, 1) := by decide +kernel
theorem d_X12_init_260 : decode (qMc M_X12_init) 260 = .ok (.bipush 96, 2) := by decide +kernel
theorem d_X12_init_262 : decode (qMc M_X12_init) 262 = .ok (.newarray .boolean, 2) := by decide +kernel
theorem d_X12_init_264 : decode (qMc M_X12_init) 264 = .ok (.putfield 104, 3) := by decide +kernel
theorem d_X12_init_267 : decode (qMc M_X12_init) 267 = .ok (.aload_n 0, 1) := by decide +kernel
theorem d_X12_init_268 : decode (qMc M_X12_init) 268 = .ok (.bipush 81, 2) := by decide +kernel
theorem d_X12_init_270 : decode (qMc M_X12_init) 270 = .ok (.newarray .long, 2) := by decide +kernel
theorem d_X12_init_272 : decode (qMc M_X12_init) 272 = .ok (.putfield 108, 3) := by decide +kernel
theorem d_X12_init_275 : decode (qMc M_X12_init) 275 = .ok (.aload_n 0, 1) := by decide +kernel
theorem d_X12_init_276 : decode (qMc M_X12_init) 276 = .ok (.bipush 81, 2) := by decide +kernel
theorem d_X12_init_278 : decode (qMc M_X12_init) 278 = .ok (.newarray .long, 2) := by decide +kernel
theorem d_X12_init_280 : decode (qMc M_X12_init) 280 = .ok (.putfield 112, 3) := by decide +kernel
theorem d_X12_init_283 : decode (qMc M_X12_init) 283 = .ok (.aload_n 0, 1) := by decide +kernel
theorem d_X12_init_284 : decode (qMc M_X12_init) 284 = .ok (.sipush 8004, 3) := by decide +kernel
theorem d_X12_init_287 : decode (qMc M_X12_init) 287 = .ok (.newarray .long, 2) := by decide +kernel
theorem d_X12_init_289 : decode (qMc M_X12_init) 289 = .ok (.putfield 115, 3) := by decide +kernel
theorem d_X12_init_292 : decode (qMc M_X12_init) 292 = .ok (.aload_n 0, 1) := by decide +kernel
theorem d_X12_init_293 : decode (qMc M_X12_init) 293 = .ok (.sipush 384, 3) := by decide +kernel
theorem d_X12_init_296 : decode (qMc M_X12_init) 296 = .ok (.newarray .int, 2) := by decide +kernel
theorem d_X12_init_298 : decode (qMc M_X12_init) 298 = .ok (.putfield 118, 3) := by decide +kernel
theorem d_X12_init_301 : decode (qMc M_X12_init) 301 = .ok (.aload_n 0, 1) := by decide +kernel
theorem d_X12_init_302 : decode (qMc M_X12_init) 302 = .ok (.iconst 4, 1) := by decide +kernel
theorem d_X12_init_303 : decode (qMc M_X12_init) 303 = .ok (.newarray .int, 2) := by decide +kernel
theorem d_X12_init_305 : decode (qMc M_X12_init) 305 = .ok (.putfield 121, 3) := by decide +kernel
theorem d_X12_init_308 : decode (qMc M_X12_init) 308 = .ok (.aload_n 0, 1) := by decide +kernel
theorem d_X12_init_309 : decode (qMc M_X12_init) 309 = .ok (.bipush 32, 2) := by decide +kernel
theorem d_X12_init_311 : decode (qMc M_X12_init) 311 = .ok (.newarray .int, 2) := by decide +kernel
theorem d_X12_init_313 : decode (qMc M_X12_init) 313 = .ok (.putfield 124, 3) := by decide +kernel
theorem d_X12_init_316 : decode (qMc M_X12_init) 316 = .ok (.aload_n 0, 1) := by decide +kernel
theorem d_X12_init_317 : decode (qMc M_X12_init) 317 = .ok (.getfield 44, 3) := by decide +kernel
theorem d_X12_init_320 : decode (qMc M_X12_init) 320 = .ok (.sipush 164, 3) := by decide +kernel
theorem d_X12_init_323 : decode (qMc M_X12_init) 323 = .ok (.iconst (-1), 1) := by decide +kernel
theorem d_X12_init_324 : decode (qMc M_X12_init) 324 = .ok (.iastore, 1) := by decide +kernel
theorem d_X12_init_325 : decode (qMc M_X12_init) 325 = .ok (.iconst 0, 1) := by decide +kernel
theorem d_X12_init_326 : decode (qMc M_X12_init) 326 = .ok (.istore_n 1, 1) := by decide +kernel
theorem d_X12_init_327 : decode (qMc M_X12_init) 327 = .ok (.iload_n 1, 1) := by decide +kernel
theorem d_X12_init_328 : decode (qMc M_X12_init) 328 = .ok (.bipush 16, 2) := by decide +kernel
theorem d_X12_init_330 : decode (qMc M_X12_init) 330 = .ok (.if_icmp .ge 16, 3) := by decide +kernel
theorem d_X12_init_333 : decode (qMc M_X12_init) 333 = .ok (.aload_n 0, 1) := by decide +kernel
theorem d_X12_init_334 : decode (qMc M_X12_init) 334 = .ok (.getfield 38, 3) := by decide +kernel
theorem d_X12_init_337 : decode (qMc M_X12_init) 337 = .ok (.iload_n 1, 1) := by decide +kernel
theorem d_X12_init_338 : decode (qMc M_X12_init) 338 = .ok (.iconst (-1), 1) := by decide +kernel
theorem d_X12_init_339 : decode (qMc M_X12_init) 339 = .ok (.iastore, 1) := by decide +kernel
theorem d_X12_init_340 : decode (qMc M_X12_init) 340 = .ok (.iinc 1 1, 3) := by decide +kernel
theorem d_X12_init_343 : decode (qMc M_X12_init) 343 = .ok (.goto (-16), 3) := by decide +kernel
theorem d_X12_init_346 : decode (qMc M_X12_init) 346 = .ok (.return_, 1) := by decide +kernel
theorem d_X12_in_0 : decode (qMc M_X12_in) 0 = .ok (.iload_n 0, 1) := by decide +kernel
theorem d_X12_in_1 : decode (qMc M_X12_in) 1 = .ok (.iload_n 1, 1) := by decide +kernel
theorem d_X12_in_2 : decode (qMc M_X12_in) 2 = .ok (.if_icmp .lt 12, 3) := by decide +kernel
theorem d_X12_in_5 : decode (qMc M_X12_in) 5 = .ok (.iload_n 0, 1) := by decide +kernel
theorem d_X12_in_6 : decode (qMc M_X12_in) 6 = .ok (.iload_n 2, 1) := by decide +kernel
theorem d_X12_in_7 : decode (qMc M_X12_in) 7 = .ok (.if_icmp .gt 7, 3) := by decide +kernel
theorem d_X12_in_10 : decode (qMc M_X12_in) 10 = .ok (.iconst 1, 1) := by decide +kernel
theorem d_X12_in_11 : decode (qMc M_X12_in) 11 = .ok (.goto 4, 3) := by decide +kernel
theorem d_X12_in_14 : decode (qMc M_X12_in) 14 = .ok (.iconst 0, 1) := by decide +kernel
theorem d_X12_in_15 : decode (qMc M_X12_in) 15 = .ok (.ireturn, 1) := by decide +kernel
theorem d_X12_has_0 : decode (qMc M_X12_has) 0 = .ok (.iload_n 0, 1) := by decide +kernel
theorem d_X12_has_1 : decode (qMc M_X12_has) 1 = .ok (.iload_n 1, 1) := by decide +kernel
theorem d_X12_has_2 : decode (qMc M_X12_has) 2 = .ok (.ishr, 1) := by decide +kernel
theorem d_X12_has_3 : decode (qMc M_X12_has) 3 = .ok (.iconst 1, 1) := by decide +kernel
theorem d_X12_has_4 : decode (qMc M_X12_has) 4 = .ok (.iand, 1) := by decide +kernel
theorem d_X12_has_5 : decode (qMc M_X12_has) 5 = .ok (.iconst 1, 1) := by decide +kernel
theorem d_X12_has_6 : decode (qMc M_X12_has) 6 = .ok (.if_icmp .ne 7, 3) := by decide +kernel
theorem d_X12_has_9 : decode (qMc M_X12_has) 9 = .ok (.iconst 1, 1) := by decide +kernel
theorem d_X12_has_10 : decode (qMc M_X12_has) 10 = .ok (.goto 4, 3) := by decide +kernel
theorem d_X12_has_13 : decode (qMc M_X12_has) 13 = .ok (.iconst 0, 1) := by decide +kernel
theorem d_X12_has_14 : decode (qMc M_X12_has) 14 = .ok (.ireturn, 1) := by decide +kernel
theorem d_X12_less_0 : decode (qMc M_X12_less) 0 = .ok (.iload_n 0, 1) := by decide +kernel
theorem d_X12_less_1 : decode (qMc M_X12_less) 1 = .ok (.iload_n 1, 1) := by decide +kernel
theorem d_X12_less_2 : decode (qMc M_X12_less) 2 = .ok (.if_icmp .ge 7, 3) := by decide +kernel
theorem d_X12_less_5 : decode (qMc M_X12_less) 5 = .ok (.iload_n 0, 1) := by decide +kernel
theorem d_X12_less_6 : decode (qMc M_X12_less) 6 = .ok (.goto 4, 3) := by decide +kernel
theorem d_X12_less_9 : decode (qMc M_X12_less) 9 = .ok (.iload_n 1, 1) := by decide +kernel
theorem d_X12_less_10 : decode (qMc M_X12_less) 10 = .ok (.ireturn, 1) := by decide +kernel
theorem d_X12_more2_0 : decode (qMc M_X12_more2) 0 = .ok (.iload_n 0, 1) := by decide +kernel
theorem d_X12_more2_1 : decode (qMc M_X12_more2) 1 = .ok (.iload_n 1, 1) := by decide +kernel
theorem d_X12_more2_2 : decode (qMc M_X12_more2) 2 = .ok (.if_icmp .le 7, 3) := by decide +kernel
theorem d_X12_more2_5 : decode (qMc M_X12_more2) 5 = .ok (.iload_n 0, 1) := by decide +kernel
theorem d_X12_more2_6 : decode (qMc M_X12_more2) 6 = .ok (.goto 4, 3) := by decide +kernel
theorem d_X12_more2_9 : decode (qMc M_X12_more2) 9 = .ok (.iload_n 1, 1) := by decide +kernel
theorem d_X12_more2_10 : decode (qMc M_X12_more2) 10 = .ok (.ireturn, 1) := by decide +kernel
theorem d_X12_ones_0 : decode (qMc M_X12_ones) 0 = .ok (.iconst 0, 1) := by decide +kernel
theorem d_X12_ones_1 : decode (qMc M_X12_ones) 1 = .ok (.istore_n 1, 1) := by decide +kernel
theorem d_X12_ones_2 : decode (qMc M_X12_ones) 2 = .ok (.iconst 0, 1) := by decide +kernel
theorem d_X12_ones_3 : decode (qMc M_X12_ones) 3 = .ok (.istore_n 2, 1) := by decide +kernel
theorem d_X12_ones_4 : decode (qMc M_X12_ones) 4 = .ok (.iload_n 2, 1) := by decide +kernel
theorem d_X12_ones_5 : decode (qMc M_X12_ones) 5 = .ok (.bipush 12, 2) := by decide +kernel
theorem d_X12_ones_7 : decode (qMc M_X12_ones) 7 = .ok (.if_icmp .ge 17, 3) := by decide +kernel
theorem d_X12_ones_10 : decode (qMc M_X12_ones) 10 = .ok (.iload_n 1, 1) := by decide +kernel
theorem d_X12_ones_11 : decode (qMc M_X12_ones) 11 = .ok (.iload_n 0, 1) := by decide +kernel
theorem d_X12_ones_12 : decode (qMc M_X12_ones) 12 = .ok (.iload_n 2, 1) := by decide +kernel
theorem d_X12_ones_13 : decode (qMc M_X12_ones) 13 = .ok (.ishr, 1) := by decide +kernel
theorem d_X12_ones_14 : decode (qMc M_X12_ones) 14 = .ok (.iconst 1, 1) := by decide +kernel
theorem d_X12_ones_15 : decode (qMc M_X12_ones) 15 = .ok (.iand, 1) := by decide +kernel
theorem d_X12_ones_16 : decode (qMc M_X12_ones) 16 = .ok (.iadd, 1) := by decide +kernel
theorem d_X12_ones_17 : decode (qMc M_X12_ones) 17 = .ok (.istore_n 1, 1) := by decide +kernel
theorem d_X12_ones_18 : decode (qMc M_X12_ones) 18 = .ok (.iinc 2 1, 3) := by decide +kernel
theorem d_X12_ones_21 : decode (qMc M_X12_ones) 21 = .ok (.goto (-17), 3) := by decide +kernel
theorem d_X12_ones_24 : decode (qMc M_X12_ones) 24 = .ok (.iload_n 1, 1) := by decide +kernel
theorem d_X12_ones_25 : decode (qMc M_X12_ones) 25 = .ok (.ireturn, 1) := by decide +kernel
theorem d_X12_copies_0 : decode (qMc M_X12_copies) 0 = .ok (.iconst 0, 1) := by decide +kernel
theorem d_X12_copies_1 : decode (qMc M_X12_copies) 1 = .ok (.istore_n 2, 1) := by decide +kernel
theorem d_X12_copies_2 : decode (qMc M_X12_copies) 2 = .ok (.iload_n 2, 1) := by decide +kernel
theorem d_X12_copies_3 : decode (qMc M_X12_copies) 3 = .ok (.aload_n 0, 1) := by decide +kernel
theorem d_X12_copies_4 : decode (qMc M_X12_copies) 4 = .ok (.arraylength, 1) := by decide +kernel
theorem d_X12_copies_5 : decode (qMc M_X12_copies) 5 = .ok (.if_icmp .ge 15, 3) := by decide +kernel
theorem d_X12_copies_8 : decode (qMc M_X12_copies) 8 = .ok (.aload_n 1, 1) := by decide +kernel
theorem d_X12_copies_9 : decode (qMc M_X12_copies) 9 = .ok (.iload_n 2, 1) := by decide +kernel
theorem d_X12_copies_10 : decode (qMc M_X12_copies) 10 = .ok (.aload_n 0, 1) := by decide +kernel
theorem d_X12_copies_11 : decode (qMc M_X12_copies) 11 = .ok (.iload_n 2, 1) := by decide +kernel
theorem d_X12_copies_12 : decode (qMc M_X12_copies) 12 = .ok (.iaload, 1) := by decide +kernel
theorem d_X12_copies_13 : decode (qMc M_X12_copies) 13 = .ok (.iastore, 1) := by decide +kernel
theorem d_X12_copies_14 : decode (qMc M_X12_copies) 14 = .ok (.iinc 2 1, 3) := by decide +kernel
theorem d_X12_copies_17 : decode (qMc M_X12_copies) 17 = .ok (.goto (-15), 3) := by decide +kernel
theorem d_X12_copies_20 : decode (qMc M_X12_copies) 20 = .ok (.return_, 1) := by decide +kernel
theorem d_X12_four_0 : decode (qMc M_X12_four) 0 = .ok (.bipush 24, 2) := by decide +kernel
theorem d_X12_four_2 : decode (qMc M_X12_four) 2 = .ok (.istore_n 2, 1) := by decide +kernel
theorem d_X12_four_3 : decode (qMc M_X12_four) 3 = .ok (.iload_n 2, 1) := by decide +kernel
theorem d_X12_four_4 : decode (qMc M_X12_four) 4 = .ok (.ifCond .lt 35, 3) := by decide +kernel
theorem d_X12_four_7 : decode (qMc M_X12_four) 7 = .ok (.aload_n 0, 1) := by decide +kernel
theorem d_X12_four_8 : decode (qMc M_X12_four) 8 = .ok (.getfield 13, 3) := by decide +kernel
theorem d_X12_four_11 : decode (qMc M_X12_four) 11 = .ok (.aload_n 0, 1) := by decide +kernel
theorem d_X12_four_12 : decode (qMc M_X12_four) 12 = .ok (.getfield 130, 3) := by decide +kernel
theorem d_X12_four_15 : decode (qMc M_X12_four) 15 = .ok (.iload_n 1, 1) := by decide +kernel
theorem d_X12_four_16 : decode (qMc M_X12_four) 16 = .ok (.iload_n 2, 1) := by decide +kernel
theorem d_X12_four_17 : decode (qMc M_X12_four) 17 = .ok (.ishr, 1) := by decide +kernel
theorem d_X12_four_18 : decode (qMc M_X12_four) 18 = .ok (.sipush 255, 3) := by decide +kernel
theorem d_X12_four_21 : decode (qMc M_X12_four) 21 = .ok (.iand, 1) := by decide +kernel
theorem d_X12_four_22 : decode (qMc M_X12_four) 22 = .ok (.iastore, 1) := by decide +kernel
theorem d_X12_four_23 : decode (qMc M_X12_four) 23 = .ok (.aload_n 0, 1) := by decide +kernel
theorem d_X12_four_24 : decode (qMc M_X12_four) 24 = .ok (.dup, 1) := by decide +kernel
theorem d_X12_four_25 : decode (qMc M_X12_four) 25 = .ok (.getfield 130, 3) := by decide +kernel
theorem d_X12_four_28 : decode (qMc M_X12_four) 28 = .ok (.iconst 1, 1) := by decide +kernel
theorem d_X12_four_29 : decode (qMc M_X12_four) 29 = .ok (.iadd, 1) := by decide +kernel
theorem d_X12_four_30 : decode (qMc M_X12_four) 30 = .ok (.putfield 130, 3) := by decide +kernel
theorem d_X12_four_33 : decode (qMc M_X12_four) 33 = .ok (.iinc 2 (-8), 3) := by decide +kernel
theorem d_X12_four_36 : decode (qMc M_X12_four) 36 = .ok (.goto (-33), 3) := by decide +kernel
theorem d_X12_four_39 : decode (qMc M_X12_four) 39 = .ok (.return_, 1) := by decide +kernel
theorem d_X12_feed_0 : decode (qMc M_X12_feed) 0 = .ok (.aload_n 0, 1) := by decide +kernel
theorem d_X12_feed_1 : decode (qMc M_X12_feed) 1 = .ok (.iconst 0, 1) := by decide +kernel
theorem d_X12_feed_2 : decode (qMc M_X12_feed) 2 = .ok (.putfield 127, 3) := by decide +kernel
theorem d_X12_feed_5 : decode (qMc M_X12_feed) 5 = .ok (.aload_n 0, 1) := by decide +kernel
theorem d_X12_feed_6 : decode (qMc M_X12_feed) 6 = .ok (.getfield 130, 3) := by decide +kernel
theorem d_X12_feed_9 : decode (qMc M_X12_feed) 9 = .ok (.bipush 20, 2) := by decide +kernel
theorem d_X12_feed_11 : decode (qMc M_X12_feed) 11 = .ok (.iadd, 1) := by decide +kernel
theorem d_X12_feed_12 : decode (qMc M_X12_feed) 12 = .ok (.aload_n 0, 1) := by decide +kernel
theorem d_X12_feed_13 : decode (qMc M_X12_feed) 13 = .ok (.getfield 13, 3) := by decide +kernel
theorem d_X12_feed_16 : decode (qMc M_X12_feed) 16 = .ok (.arraylength, 1) := by decide +kernel
theorem d_X12_feed_17 : decode (qMc M_X12_feed) 17 = .ok (.if_icmp .le 5, 3) := by decide +kernel
theorem d_X12_feed_20 : decode (qMc M_X12_feed) 20 = .ok (.iconst (-1), 1) := by decide +kernel
theorem d_X12_feed_21 : decode (qMc M_X12_feed) 21 = .ok (.ireturn, 1) := by decide +kernel
theorem d_X12_feed_22 : decode (qMc M_X12_feed) 22 = .ok (.aload_n 0, 1) := by decide +kernel
theorem d_X12_feed_23 : decode (qMc M_X12_feed) 23 = .ok (.iload_n 1, 1) := by decide +kernel
theorem d_X12_feed_24 : decode (qMc M_X12_feed) 24 = .ok (.invokevirtual 133, 3) := by decide +kernel
theorem d_X12_feed_27 : decode (qMc M_X12_feed) 27 = .ok (.aload_n 0, 1) := by decide +kernel
theorem d_X12_feed_28 : decode (qMc M_X12_feed) 28 = .ok (.iload_n 2, 1) := by decide +kernel
theorem d_X12_feed_29 : decode (qMc M_X12_feed) 29 = .ok (.invokevirtual 133, 3) := by decide +kernel
theorem d_X12_feed_32 : decode (qMc M_X12_feed) 32 = .ok (.aload_n 0, 1) := by decide +kernel
theorem d_X12_feed_33 : decode (qMc M_X12_feed) 33 = .ok (.iload_n 3, 1) := by decide +kernel
theorem d_X12_feed_34 : decode (qMc M_X12_feed) 34 = .ok (.invokevirtual 133, 3) := by decide +kernel
theorem d_X12_feed_37 : decode (qMc M_X12_feed) 37 = .ok (.aload_n 0, 1) := by decide +kernel
theorem d_X12_feed_38 : decode (qMc M_X12_feed) 38 = .ok (.iload 4, 2) := by decide +kernel
theorem d_X12_feed_40 : decode (qMc M_X12_feed) 40 = .ok (.invokevirtual 133, 3) := by decide +kernel
theorem d_X12_feed_43 : decode (qMc M_X12_feed) 43 = .ok (.aload_n 0, 1) := by decide +kernel
theorem d_X12_feed_44 : decode (qMc M_X12_feed) 44 = .ok (.iload 5, 2) := by decide +kernel
theorem d_X12_feed_46 : decode (qMc M_X12_feed) 46 = .ok (.invokevirtual 133, 3) := by decide +kernel
theorem d_X12_feed_49 : decode (qMc M_X12_feed) 49 = .ok (.aload_n 0, 1) := by decide +kernel
theorem d_X12_feed_50 : decode (qMc M_X12_feed) 50 = .ok (.getfield 130, 3) := by decide +kernel
theorem d_X12_feed_53 : decode (qMc M_X12_feed) 53 = .ok (.ireturn, 1) := by decide +kernel
theorem d_X12_end_0 : decode (qMc M_X12_end) 0 = .ok (.aload_n 0, 1) := by decide +kernel
theorem d_X12_end_1 : decode (qMc M_X12_end) 1 = .ok (.iconst 0, 1) := by decide +kernel
theorem d_X12_end_2 : decode (qMc M_X12_end) 2 = .ok (.putfield 127, 3) := by decide +kernel
theorem d_X12_end_5 : decode (qMc M_X12_end) 5 = .ok (.iload_n 1, 1) := by decide +kernel
theorem d_X12_end_6 : decode (qMc M_X12_end) 6 = .ok (.iconst 0, 1) := by decide +kernel
theorem d_X12_end_7 : decode (qMc M_X12_end) 7 = .ok (.aload_n 0, 1) := by decide +kernel
theorem d_X12_end_8 : decode (qMc M_X12_end) 8 = .ok (.getfield 130, 3) := by decide +kernel
theorem d_X12_end_11 : decode (qMc M_X12_end) 11 = .ok (.invokestatic 137, 3) := by decide +kernel
theorem d_X12_end_14 : decode (qMc M_X12_end) 14 = .ok (.ifCond .ne 5, 3) := by decide +kernel
theorem d_X12_end_17 : decode (qMc M_X12_end) 17 = .ok (.iconst 0, 1) := by decide +kernel
theorem d_X12_end_18 : decode (qMc M_X12_end) 18 = .ok (.ireturn, 1) := by decide +kernel
theorem d_X12_end_19 : decode (qMc M_X12_end) 19 = .ok (.aload_n 0, 1) := by decide +kernel
theorem d_X12_end_20 : decode (qMc M_X12_end) 20 = .ok (.iload_n 1, 1) := by decide +kernel
theorem d_X12_end_21 : decode (qMc M_X12_end) 21 = .ok (.putfield 130, 3) := by decide +kernel
theorem d_X12_end_24 : decode (qMc M_X12_end) 24 = .ok (.iconst 1, 1) := by decide +kernel
theorem d_X12_end_25 : decode (qMc M_X12_end) 25 = .ok (.ireturn, 1) := by decide +kernel
theorem d_X12_wrong_0 : decode (qMc M_X12_wrong) 0 = .ok (.aload_n 0, 1) := by decide +kernel
theorem d_X12_wrong_1 : decode (qMc M_X12_wrong) 1 = .ok (.getfield 141, 3) := by decide +kernel
theorem d_X12_wrong_4 : decode (qMc M_X12_wrong) 4 = .ok (.ifCond .eq 4, 3) := by decide +kernel
theorem d_X12_wrong_7 : decode (qMc M_X12_wrong) 7 = .ok (.return_, 1) := by decide +kernel
theorem d_X12_wrong_8 : decode (qMc M_X12_wrong) 8 = .ok (.aload_n 0, 1) := by decide +kernel
theorem d_X12_wrong_9 : decode (qMc M_X12_wrong) 9 = .ok (.iload_n 1, 1) := by decide +kernel
theorem d_X12_wrong_10 : decode (qMc M_X12_wrong) 10 = .ok (.putfield 141, 3) := by decide +kernel
theorem d_X12_wrong_13 : decode (qMc M_X12_wrong) 13 = .ok (.aload_n 0, 1) := by decide +kernel
theorem d_X12_wrong_14 : decode (qMc M_X12_wrong) 14 = .ok (.iload_n 2, 1) := by decide +kernel
theorem d_X12_wrong_15 : decode (qMc M_X12_wrong) 15 = .ok (.putfield 144, 3) := by decide +kernel
theorem d_X12_wrong_18 : decode (qMc M_X12_wrong) 18 = .ok (.return_, 1) := by decide +kernel
theorem d_X12_byteAt_0 : decode (qMc M_X12_byteAt) 0 = .ok (.iload_n 1, 1) := by decide +kernel
theorem d_X12_byteAt_1 : decode (qMc M_X12_byteAt) 1 = .ok (.aload_n 0, 1) := by decide +kernel
theorem d_X12_byteAt_2 : decode (qMc M_X12_byteAt) 2 = .ok (.getfield 147, 3) := by decide +kernel
theorem d_X12_byteAt_5 : decode (qMc M_X12_byteAt) 5 = .ok (.if_icmp .ge 12, 3) := by decide +kernel
theorem d_X12_byteAt_8 : decode (qMc M_X12_byteAt) 8 = .ok (.aload_n 0, 1) := by decide +kernel
theorem d_X12_byteAt_9 : decode (qMc M_X12_byteAt) 9 = .ok (.getfield 13, 3) := by decide +kernel
theorem d_X12_byteAt_12 : decode (qMc M_X12_byteAt) 12 = .ok (.iload_n 1, 1) := by decide +kernel
theorem d_X12_byteAt_13 : decode (qMc M_X12_byteAt) 13 = .ok (.iaload, 1) := by decide +kernel
theorem d_X12_byteAt_14 : decode (qMc M_X12_byteAt) 14 = .ok (.goto 4, 3) := by decide +kernel
theorem d_X12_byteAt_17 : decode (qMc M_X12_byteAt) 17 = .ok (.iconst (-1), 1) := by decide +kernel
theorem d_X12_byteAt_18 : decode (qMc M_X12_byteAt) 18 = .ok (.ireturn, 1) := by decide +kernel
theorem d_X12_blanks_0 : decode (qMc M_X12_blanks) 0 = .ok (.aload_n 0, 1) := by decide +kernel
theorem d_X12_blanks_1 : decode (qMc M_X12_blanks) 1 = .ok (.aload_n 0, 1) := by decide +kernel
theorem d_X12_blanks_2 : decode (qMc M_X12_blanks) 2 = .ok (.getfield 150, 3) := by decide +kernel
theorem d_X12_blanks_5 : decode (qMc M_X12_blanks) 5 = .ok (.invokevirtual 153, 3) := by decide +kernel
theorem d_X12_blanks_8 : decode (qMc M_X12_blanks) 8 = .ok (.bipush 32, 2) := by decide +kernel
theorem d_X12_blanks_10 : decode (qMc M_X12_blanks) 10 = .ok (.if_icmp .eq 16, 3) := by decide +kernel
theorem d_X12_blanks_13 : decode (qMc M_X12_blanks) 13 = .ok (.aload_n 0, 1) := by decide +kernel
theorem d_X12_blanks_14 : decode (qMc M_X12_blanks) 14 = .ok (.aload_n 0, 1) := by decide +kernel
theorem d_X12_blanks_15 : decode (qMc M_X12_blanks) 15 = .ok (.getfield 150, 3) := by decide +kernel
theorem d_X12_blanks_18 : decode (qMc M_X12_blanks) 18 = .ok (.invokevirtual 153, 3) := by decide +kernel
theorem d_X12_blanks_21 : decode (qMc M_X12_blanks) 21 = .ok (.bipush 10, 2) := by decide +kernel
theorem d_X12_blanks_23 : decode (qMc M_X12_blanks) 23 = .ok (.if_icmp .ne 16, 3) := by decide +kernel
theorem d_X12_blanks_26 : decode (qMc M_X12_blanks) 26 = .ok (.aload_n 0, 1) := by decide +kernel
theorem d_X12_blanks_27 : decode (qMc M_X12_blanks) 27 = .ok (.dup, 1) := by decide +kernel
theorem d_X12_blanks_28 : decode (qMc M_X12_blanks) 28 = .ok (.getfield 150, 3) := by decide +kernel
theorem d_X12_blanks_31 : decode (qMc M_X12_blanks) 31 = .ok (.iconst 1, 1) := by decide +kernel
theorem d_X12_blanks_32 : decode (qMc M_X12_blanks) 32 = .ok (.iadd, 1) := by decide +kernel
theorem d_X12_blanks_33 : decode (qMc M_X12_blanks) 33 = .ok (.putfield 150, 3) := by decide +kernel
theorem d_X12_blanks_36 : decode (qMc M_X12_blanks) 36 = .ok (.goto (-36), 3) := by decide +kernel
theorem d_X12_blanks_39 : decode (qMc M_X12_blanks) 39 = .ok (.return_, 1) := by decide +kernel
theorem d_X12_isLetter_0 : decode (qMc M_X12_isLetter) 0 = .ok (.iload_n 0, 1) := by decide +kernel
theorem d_X12_isLetter_1 : decode (qMc M_X12_isLetter) 1 = .ok (.bipush 97, 2) := by decide +kernel
theorem d_X12_isLetter_3 : decode (qMc M_X12_isLetter) 3 = .ok (.bipush 122, 2) := by decide +kernel
theorem d_X12_isLetter_5 : decode (qMc M_X12_isLetter) 5 = .ok (.invokestatic 137, 3) := by decide +kernel
theorem d_X12_isLetter_8 : decode (qMc M_X12_isLetter) 8 = .ok (.ifCond .ne 14, 3) := by decide +kernel
theorem d_X12_isLetter_11 : decode (qMc M_X12_isLetter) 11 = .ok (.iload_n 0, 1) := by decide +kernel
theorem d_X12_isLetter_12 : decode (qMc M_X12_isLetter) 12 = .ok (.bipush 65, 2) := by decide +kernel
theorem d_X12_isLetter_14 : decode (qMc M_X12_isLetter) 14 = .ok (.bipush 90, 2) := by decide +kernel
theorem d_X12_isLetter_16 : decode (qMc M_X12_isLetter) 16 = .ok (.invokestatic 137, 3) := by decide +kernel
theorem d_X12_isLetter_19 : decode (qMc M_X12_isLetter) 19 = .ok (.ifCond .eq 7, 3) := by decide +kernel
theorem d_X12_isLetter_22 : decode (qMc M_X12_isLetter) 22 = .ok (.iconst 1, 1) := by decide +kernel
theorem d_X12_isLetter_23 : decode (qMc M_X12_isLetter) 23 = .ok (.goto 4, 3) := by decide +kernel
theorem d_X12_isLetter_26 : decode (qMc M_X12_isLetter) 26 = .ok (.iconst 0, 1) := by decide +kernel
theorem d_X12_isLetter_27 : decode (qMc M_X12_isLetter) 27 = .ok (.ireturn, 1) := by decide +kernel
theorem d_X12_isDigit_0 : decode (qMc M_X12_isDigit) 0 = .ok (.iload_n 0, 1) := by decide +kernel
theorem d_X12_isDigit_1 : decode (qMc M_X12_isDigit) 1 = .ok (.bipush 48, 2) := by decide +kernel
theorem d_X12_isDigit_3 : decode (qMc M_X12_isDigit) 3 = .ok (.bipush 57, 2) := by decide +kernel
theorem d_X12_isDigit_5 : decode (qMc M_X12_isDigit) 5 = .ok (.invokestatic 137, 3) := by decide +kernel
theorem d_X12_isDigit_8 : decode (qMc M_X12_isDigit) 8 = .ok (.ireturn, 1) := by decide +kernel
theorem d_X12_letters_0 : decode (qMc M_X12_letters) 0 = .ok (.iconst 0, 1) := by decide +kernel
theorem d_X12_letters_1 : decode (qMc M_X12_letters) 1 = .ok (.istore_n 1, 1) := by decide +kernel
theorem d_X12_letters_2 : decode (qMc M_X12_letters) 2 = .ok (.aload_n 0, 1) := by decide +kernel
theorem d_X12_letters_3 : decode (qMc M_X12_letters) 3 = .ok (.aload_n 0, 1) := by decide +kernel
theorem d_X12_letters_4 : decode (qMc M_X12_letters) 4 = .ok (.getfield 150, 3) := by decide +kernel
theorem d_X12_letters_7 : decode (qMc M_X12_letters) 7 = .ok (.iload_n 1, 1) := by decide +kernel
theorem d_X12_letters_8 : decode (qMc M_X12_letters) 8 = .ok (.iadd, 1) := by decide +kernel
theorem d_X12_letters_9 : decode (qMc M_X12_letters) 9 = .ok (.invokevirtual 153, 3) := by decide +kernel
theorem d_X12_letters_12 : decode (qMc M_X12_letters) 12 = .ok (.invokestatic 157, 3) := by decide +kernel
theorem d_X12_letters_15 : decode (qMc M_X12_letters) 15 = .ok (.ifCond .eq 9, 3) := by decide +kernel
theorem d_X12_letters_18 : decode (qMc M_X12_letters) 18 = .ok (.iinc 1 1, 3) := by decide +kernel
theorem d_X12_letters_21 : decode (qMc M_X12_letters) 21 = .ok (.goto (-19), 3) := by decide +kernel
theorem d_X12_letters_24 : decode (qMc M_X12_letters) 24 = .ok (.iload_n 1, 1) := by decide +kernel
theorem d_X12_letters_25 : decode (qMc M_X12_letters) 25 = .ok (.ireturn, 1) := by decide +kernel
theorem d_X12_digits_0 : decode (qMc M_X12_digits) 0 = .ok (.iconst 0, 1) := by decide +kernel
theorem d_X12_digits_1 : decode (qMc M_X12_digits) 1 = .ok (.istore_n 1, 1) := by decide +kernel
theorem d_X12_digits_2 : decode (qMc M_X12_digits) 2 = .ok (.aload_n 0, 1) := by decide +kernel
theorem d_X12_digits_3 : decode (qMc M_X12_digits) 3 = .ok (.aload_n 0, 1) := by decide +kernel
theorem d_X12_digits_4 : decode (qMc M_X12_digits) 4 = .ok (.getfield 150, 3) := by decide +kernel
theorem d_X12_digits_7 : decode (qMc M_X12_digits) 7 = .ok (.iload_n 1, 1) := by decide +kernel
theorem d_X12_digits_8 : decode (qMc M_X12_digits) 8 = .ok (.iadd, 1) := by decide +kernel
theorem d_X12_digits_9 : decode (qMc M_X12_digits) 9 = .ok (.invokevirtual 153, 3) := by decide +kernel
theorem d_X12_digits_12 : decode (qMc M_X12_digits) 12 = .ok (.invokestatic 161, 3) := by decide +kernel
theorem d_X12_digits_15 : decode (qMc M_X12_digits) 15 = .ok (.ifCond .eq 9, 3) := by decide +kernel
theorem d_X12_digits_18 : decode (qMc M_X12_digits) 18 = .ok (.iinc 1 1, 3) := by decide +kernel
theorem d_X12_digits_21 : decode (qMc M_X12_digits) 21 = .ok (.goto (-19), 3) := by decide +kernel
theorem d_X12_digits_24 : decode (qMc M_X12_digits) 24 = .ok (.iload_n 1, 1) := by decide +kernel
theorem d_X12_digits_25 : decode (qMc M_X12_digits) 25 = .ok (.ireturn, 1) := by decide +kernel
theorem d_X12_wordHere_0 : decode (qMc M_X12_wordHere) 0 = .ok (.aload_n 0, 1) := by decide +kernel
theorem d_X12_wordHere_1 : decode (qMc M_X12_wordHere) 1 = .ok (.invokevirtual 164, 3) := by decide +kernel
theorem d_X12_wordHere_4 : decode (qMc M_X12_wordHere) 4 = .ok (.aload_n 0, 1) := by decide +kernel
theorem d_X12_wordHere_5 : decode (qMc M_X12_wordHere) 5 = .ok (.invokevirtual 167, 3) := by decide +kernel
theorem d_X12_wordHere_8 : decode (qMc M_X12_wordHere) 8 = .ok (.istore_n 1, 1) := by decide +kernel
theorem d_X12_wordHere_9 : decode (qMc M_X12_wordHere) 9 = .ok (.iload_n 1, 1) := by decide +kernel
theorem d_X12_wordHere_10 : decode (qMc M_X12_wordHere) 10 = .ok (.bipush 6, 2) := by decide +kernel
theorem d_X12_wordHere_12 : decode (qMc M_X12_wordHere) 12 = .ok (.if_icmp .le 7, 3) := by decide +kernel
theorem d_X12_wordHere_15 : decode (qMc M_X12_wordHere) 15 = .ok (.ldc2_w 171, 3) := by decide +kernel
theorem d_X12_wordHere_18 : decode (qMc M_X12_wordHere) 18 = .ok (.lreturn, 1) := by decide +kernel
theorem d_X12_wordHere_19 : decode (qMc M_X12_wordHere) 19 = .ok (.lconst 0, 1) := by decide +kernel
theorem d_X12_wordHere_20 : decode (qMc M_X12_wordHere) 20 = .ok (.lstore_n 2, 1) := by decide +kernel
theorem d_X12_wordHere_21 : decode (qMc M_X12_wordHere) 21 = .ok (.iconst 0, 1) := by decide +kernel
theorem d_X12_wordHere_22 : decode (qMc M_X12_wordHere) 22 = .ok (.istore 4, 2) := by decide +kernel
theorem d_X12_wordHere_24 : decode (qMc M_X12_wordHere) 24 = .ok (.iload 4, 2) := by decide +kernel
theorem d_X12_wordHere_26 : decode (qMc M_X12_wordHere) 26 = .ok (.iload_n 1, 1) := by decide +kernel
theorem d_X12_wordHere_27 : decode (qMc M_X12_wordHere) 27 = .ok (.if_icmp .ge 54, 3) := by decide +kernel
theorem d_X12_wordHere_30 : decode (qMc M_X12_wordHere) 30 = .ok (.aload_n 0, 1) := by decide +kernel
theorem d_X12_wordHere_31 : decode (qMc M_X12_wordHere) 31 = .ok (.aload_n 0, 1) := by decide +kernel
theorem d_X12_wordHere_32 : decode (qMc M_X12_wordHere) 32 = .ok (.getfield 150, 3) := by decide +kernel
theorem d_X12_wordHere_35 : decode (qMc M_X12_wordHere) 35 = .ok (.iload 4, 2) := by decide +kernel
theorem d_X12_wordHere_37 : decode (qMc M_X12_wordHere) 37 = .ok (.iadd, 1) := by decide +kernel
theorem d_X12_wordHere_38 : decode (qMc M_X12_wordHere) 38 = .ok (.invokevirtual 153, 3) := by decide +kernel
theorem d_X12_wordHere_41 : decode (qMc M_X12_wordHere) 41 = .ok (.istore 5, 2) := by decide +kernel
theorem d_X12_wordHere_43 : decode (qMc M_X12_wordHere) 43 = .ok (.iload 5, 2) := by decide +kernel
theorem d_X12_wordHere_45 : decode (qMc M_X12_wordHere) 45 = .ok (.bipush 97, 2) := by decide +kernel
theorem d_X12_wordHere_47 : decode (qMc M_X12_wordHere) 47 = .ok (.bipush 122, 2) := by decide +kernel
theorem d_X12_wordHere_49 : decode (qMc M_X12_wordHere) 49 = .ok (.invokestatic 137, 3) := by decide +kernel
theorem d_X12_wordHere_52 : decode (qMc M_X12_wordHere) 52 = .ok (.ifCond .ne 7, 3) := by decide +kernel
theorem d_X12_wordHere_55 : decode (qMc M_X12_wordHere) 55 = .ok (.ldc2_w 171, 3) := by decide +kernel
theorem d_X12_wordHere_58 : decode (qMc M_X12_wordHere) 58 = .ok (.lreturn, 1) := by decide +kernel
theorem d_X12_wordHere_59 : decode (qMc M_X12_wordHere) 59 = .ok (.ldc2_w 173, 3) := by decide +kernel
theorem d_X12_wordHere_62 : decode (qMc M_X12_wordHere) 62 = .ok (.lload_n 2, 1) := by decide +kernel
theorem d_X12_wordHere_63 : decode (qMc M_X12_wordHere) 63 = .ok (.lmul, 1) := by decide +kernel
theorem d_X12_wordHere_64 : decode (qMc M_X12_wordHere) 64 = .ok (.iload 5, 2) := by decide +kernel
theorem d_X12_wordHere_66 : decode (qMc M_X12_wordHere) 66 = .ok (.i2l, 1) := by decide +kernel
theorem d_X12_wordHere_67 : decode (qMc M_X12_wordHere) 67 = .ok (.ladd, 1) := by decide +kernel
theorem d_X12_wordHere_68 : decode (qMc M_X12_wordHere) 68 = .ok (.ldc2_w 175, 3) := by decide +kernel
theorem d_X12_wordHere_71 : decode (qMc M_X12_wordHere) 71 = .ok (.lsub, 1) := by decide +kernel
theorem d_X12_wordHere_72 : decode (qMc M_X12_wordHere) 72 = .ok (.lconst 1, 1) := by decide +kernel
theorem d_X12_wordHere_73 : decode (qMc M_X12_wordHere) 73 = .ok (.ladd, 1) := by decide +kernel
theorem d_X12_wordHere_74 : decode (qMc M_X12_wordHere) 74 = .ok (.lstore_n 2, 1) := by decide +kernel
theorem d_X12_wordHere_75 : decode (qMc M_X12_wordHere) 75 = .ok (.iinc 4 1, 3) := by decide +kernel
theorem d_X12_wordHere_78 : decode (qMc M_X12_wordHere) 78 = .ok (.goto (-54), 3) := by decide +kernel
theorem d_X12_wordHere_81 : decode (qMc M_X12_wordHere) 81 = .ok (.lload_n 2, 1) := by decide +kernel
theorem d_X12_wordHere_82 : decode (qMc M_X12_wordHere) 82 = .ok (.lreturn, 1) := by decide +kernel
theorem d_X12_wordOf_0 : decode (qMc M_X12_wordOf) 0 = .ok (.ldc2_w 173, 3) := by decide +kernel
theorem d_X12_wordOf_3 : decode (qMc M_X12_wordOf) 3 = .ok (.iload_n 0, 1) := by decide +kernel
theorem d_X12_wordOf_4 : decode (qMc M_X12_wordOf) 4 = .ok (.i2l, 1) := by decide +kernel
theorem d_X12_wordOf_5 : decode (qMc M_X12_wordOf) 5 = .ok (.lmul, 1) := by decide +kernel
theorem d_X12_wordOf_6 : decode (qMc M_X12_wordOf) 6 = .ok (.iload_n 1, 1) := by decide +kernel
theorem d_X12_wordOf_7 : decode (qMc M_X12_wordOf) 7 = .ok (.i2l, 1) := by decide +kernel
theorem d_X12_wordOf_8 : decode (qMc M_X12_wordOf) 8 = .ok (.ladd, 1) := by decide +kernel
theorem d_X12_wordOf_9 : decode (qMc M_X12_wordOf) 9 = .ok (.lstore 6, 2) := by decide +kernel
theorem d_X12_wordOf_11 : decode (qMc M_X12_wordOf) 11 = .ok (.iload_n 2, 1) := by decide +kernel
theorem d_X12_wordOf_12 : decode (qMc M_X12_wordOf) 12 = .ok (.ifCond .ne 8, 3) := by decide +kernel
theorem d_X12_wordOf_15 : decode (qMc M_X12_wordOf) 15 = .ok (.lload 6, 2) := by decide +kernel
theorem d_X12_wordOf_17 : decode (qMc M_X12_wordOf) 17 = .ok (.goto 12, 3) := by decide +kernel
theorem d_X12_wordOf_20 : decode (qMc M_X12_wordOf) 20 = .ok (.ldc2_w 173, 3) := by decide +kernel
theorem d_X12_wordOf_23 : decode (qMc M_X12_wordOf) 23 = .ok (.lload 6, 2) := by decide +kernel
theorem d_X12_wordOf_25 : decode (qMc M_X12_wordOf) 25 = .ok (.lmul, 1) := by decide +kernel
theorem d_X12_wordOf_26 : decode (qMc M_X12_wordOf) 26 = .ok (.iload_n 2, 1) := by decide +kernel
theorem d_X12_wordOf_27 : decode (qMc M_X12_wordOf) 27 = .ok (.i2l, 1) := by decide +kernel
theorem d_X12_wordOf_28 : decode (qMc M_X12_wordOf) 28 = .ok (.ladd, 1) := by decide +kernel
theorem d_X12_wordOf_29 : decode (qMc M_X12_wordOf) 29 = .ok (.lstore 6, 2) := by decide +kernel
theorem d_X12_wordOf_31 : decode (qMc M_X12_wordOf) 31 = .ok (.iload_n 3, 1) := by decide +kernel
theorem d_X12_wordOf_32 : decode (qMc M_X12_wordOf) 32 = .ok (.ifCond .ne 8, 3) := by decide +kernel
theorem d_X12_wordOf_35 : decode (qMc M_X12_wordOf) 35 = .ok (.lload 6, 2) := by decide +kernel
theorem d_X12_wordOf_37 : decode (qMc M_X12_wordOf) 37 = .ok (.goto 12, 3) := by decide +kernel
theorem d_X12_wordOf_40 : decode (qMc M_X12_wordOf) 40 = .ok (.ldc2_w 173, 3) := by decide +kernel
theorem d_X12_wordOf_43 : decode (qMc M_X12_wordOf) 43 = .ok (.lload 6, 2) := by decide +kernel
theorem d_X12_wordOf_45 : decode (qMc M_X12_wordOf) 45 = .ok (.lmul, 1) := by decide +kernel
theorem d_X12_wordOf_46 : decode (qMc M_X12_wordOf) 46 = .ok (.iload_n 3, 1) := by decide +kernel
theorem d_X12_wordOf_47 : decode (qMc M_X12_wordOf) 47 = .ok (.i2l, 1) := by decide +kernel
theorem d_X12_wordOf_48 : decode (qMc M_X12_wordOf) 48 = .ok (.ladd, 1) := by decide +kernel
theorem d_X12_wordOf_49 : decode (qMc M_X12_wordOf) 49 = .ok (.lstore 6, 2) := by decide +kernel
theorem d_X12_wordOf_51 : decode (qMc M_X12_wordOf) 51 = .ok (.iload 4, 2) := by decide +kernel
theorem d_X12_wordOf_53 : decode (qMc M_X12_wordOf) 53 = .ok (.ifCond .ne 8, 3) := by decide +kernel
theorem d_X12_wordOf_56 : decode (qMc M_X12_wordOf) 56 = .ok (.lload 6, 2) := by decide +kernel
theorem d_X12_wordOf_58 : decode (qMc M_X12_wordOf) 58 = .ok (.goto 13, 3) := by decide +kernel
theorem d_X12_wordOf_61 : decode (qMc M_X12_wordOf) 61 = .ok (.ldc2_w 173, 3) := by decide +kernel
theorem d_X12_wordOf_64 : decode (qMc M_X12_wordOf) 64 = .ok (.lload 6, 2) := by decide +kernel
theorem d_X12_wordOf_66 : decode (qMc M_X12_wordOf) 66 = .ok (.lmul, 1) := by decide +kernel
theorem d_X12_wordOf_67 : decode (qMc M_X12_wordOf) 67 = .ok (.iload 4, 2) := by decide +kernel
theorem d_X12_wordOf_69 : decode (qMc M_X12_wordOf) 69 = .ok (.i2l, 1) := by decide +kernel
theorem d_X12_wordOf_70 : decode (qMc M_X12_wordOf) 70 = .ok (.ladd, 1) := by decide +kernel
theorem d_X12_wordOf_71 : decode (qMc M_X12_wordOf) 71 = .ok (.lstore 6, 2) := by decide +kernel
theorem d_X12_wordOf_73 : decode (qMc M_X12_wordOf) 73 = .ok (.iload 5, 2) := by decide +kernel
theorem d_X12_wordOf_75 : decode (qMc M_X12_wordOf) 75 = .ok (.ifCond .ne 8, 3) := by decide +kernel
theorem d_X12_wordOf_78 : decode (qMc M_X12_wordOf) 78 = .ok (.lload 6, 2) := by decide +kernel
theorem d_X12_wordOf_80 : decode (qMc M_X12_wordOf) 80 = .ok (.goto 13, 3) := by decide +kernel
theorem d_X12_wordOf_83 : decode (qMc M_X12_wordOf) 83 = .ok (.ldc2_w 173, 3) := by decide +kernel
theorem d_X12_wordOf_86 : decode (qMc M_X12_wordOf) 86 = .ok (.lload 6, 2) := by decide +kernel
theorem d_X12_wordOf_88 : decode (qMc M_X12_wordOf) 88 = .ok (.lmul, 1) := by decide +kernel
theorem d_X12_wordOf_89 : decode (qMc M_X12_wordOf) 89 = .ok (.iload 5, 2) := by decide +kernel
theorem d_X12_wordOf_91 : decode (qMc M_X12_wordOf) 91 = .ok (.i2l, 1) := by decide +kernel
theorem d_X12_wordOf_92 : decode (qMc M_X12_wordOf) 92 = .ok (.ladd, 1) := by decide +kernel
theorem d_X12_wordOf_93 : decode (qMc M_X12_wordOf) 93 = .ok (.lreturn, 1) := by decide +kernel
theorem d_X12_isWord_0 : decode (qMc M_X12_isWord) 0 = .ok (.aload_n 0, 1) := by decide +kernel
theorem d_X12_isWord_1 : decode (qMc M_X12_isWord) 1 = .ok (.invokevirtual 177, 3) := by decide +kernel
theorem d_X12_isWord_4 : decode (qMc M_X12_isWord) 4 = .ok (.iload_n 1, 1) := by decide +kernel
theorem d_X12_isWord_5 : decode (qMc M_X12_isWord) 5 = .ok (.iload_n 2, 1) := by decide +kernel
theorem d_X12_isWord_6 : decode (qMc M_X12_isWord) 6 = .ok (.iload_n 3, 1) := by decide +kernel
theorem d_X12_isWord_7 : decode (qMc M_X12_isWord) 7 = .ok (.iload 4, 2) := by decide +kernel
theorem d_X12_isWord_9 : decode (qMc M_X12_isWord) 9 = .ok (.iload 5, 2) := by decide +kernel
theorem d_X12_isWord_11 : decode (qMc M_X12_isWord) 11 = .ok (.iload 6, 2) := by decide +kernel
theorem d_X12_isWord_13 : decode (qMc M_X12_isWord) 13 = .ok (.invokestatic 181, 3) := by decide +kernel
theorem d_X12_isWord_16 : decode (qMc M_X12_isWord) 16 = .ok (.lcmp, 1) := by decide +kernel
theorem d_X12_isWord_17 : decode (qMc M_X12_isWord) 17 = .ok (.ifCond .ne 7, 3) := by decide +kernel
theorem d_X12_isWord_20 : decode (qMc M_X12_isWord) 20 = .ok (.iconst 1, 1) := by decide +kernel
theorem d_X12_isWord_21 : decode (qMc M_X12_isWord) 21 = .ok (.goto 4, 3) := by decide +kernel
theorem d_X12_isWord_24 : decode (qMc M_X12_isWord) 24 = .ok (.iconst 0, 1) := by decide +kernel
theorem d_X12_isWord_25 : decode (qMc M_X12_isWord) 25 = .ok (.ireturn, 1) := by decide +kernel
theorem d_X12_takes_0 : decode (qMc M_X12_takes) 0 = .ok (.aload_n 0, 1) := by decide +kernel
theorem d_X12_takes_1 : decode (qMc M_X12_takes) 1 = .ok (.getfield 141, 3) := by decide +kernel
theorem d_X12_takes_4 : decode (qMc M_X12_takes) 4 = .ok (.ifCond .ne 19, 3) := by decide +kernel
theorem d_X12_takes_7 : decode (qMc M_X12_takes) 7 = .ok (.aload_n 0, 1) := by decide +kernel
theorem d_X12_takes_8 : decode (qMc M_X12_takes) 8 = .ok (.iload_n 1, 1) := by decide +kernel
theorem d_X12_takes_9 : decode (qMc M_X12_takes) 9 = .ok (.iload_n 2, 1) := by decide +kernel
theorem d_X12_takes_10 : decode (qMc M_X12_takes) 10 = .ok (.iload_n 3, 1) := by decide +kernel
theorem d_X12_takes_11 : decode (qMc M_X12_takes) 11 = .ok (.iload 4, 2) := by decide +kernel
theorem d_X12_takes_13 : decode (qMc M_X12_takes) 13 = .ok (.iload 5, 2) := by decide +kernel
theorem d_X12_takes_15 : decode (qMc M_X12_takes) 15 = .ok (.iload 6, 2) := by decide +kernel
theorem d_X12_takes_17 : decode (qMc M_X12_takes) 17 = .ok (.invokevirtual 185, 3) := by decide +kernel
theorem d_X12_takes_20 : decode (qMc M_X12_takes) 20 = .ok (.ifCond .ne 5, 3) := by decide +kernel
theorem d_X12_takes_23 : decode (qMc M_X12_takes) 23 = .ok (.iconst 0, 1) := by decide +kernel
theorem d_X12_takes_24 : decode (qMc M_X12_takes) 24 = .ok (.ireturn, 1) := by decide +kernel
theorem d_X12_takes_25 : decode (qMc M_X12_takes) 25 = .ok (.aload_n 0, 1) := by decide +kernel
theorem d_X12_takes_26 : decode (qMc M_X12_takes) 26 = .ok (.dup, 1) := by decide +kernel
theorem d_X12_takes_27 : decode (qMc M_X12_takes) 27 = .ok (.getfield 150, 3) := by decide +kernel
theorem d_X12_takes_30 : decode (qMc M_X12_takes) 30 = .ok (.aload_n 0, 1) := by decide +kernel
theorem d_X12_takes_31 : decode (qMc M_X12_takes) 31 = .ok (.invokevirtual 167, 3) := by decide +kernel
theorem d_X12_takes_34 : decode (qMc M_X12_takes) 34 = .ok (.iadd, 1) := by decide +kernel
theorem d_X12_takes_35 : decode (qMc M_X12_takes) 35 = .ok (.putfield 150, 3) := by decide +kernel
theorem d_X12_takes_38 : decode (qMc M_X12_takes) 38 = .ok (.iconst 1, 1) := by decide +kernel
theorem d_X12_takes_39 : decode (qMc M_X12_takes) 39 = .ok (.ireturn, 1) := by decide +kernel
theorem d_X12_isNumber_0 : decode (qMc M_X12_isNumber) 0 = .ok (.aload_n 0, 1) := by decide +kernel
theorem d_X12_isNumber_1 : decode (qMc M_X12_isNumber) 1 = .ok (.invokevirtual 164, 3) := by decide +kernel
theorem d_X12_isNumber_4 : decode (qMc M_X12_isNumber) 4 = .ok (.aload_n 0, 1) := by decide +kernel
theorem d_X12_isNumber_5 : decode (qMc M_X12_isNumber) 5 = .ok (.invokevirtual 189, 3) := by decide +kernel
theorem d_X12_isNumber_8 : decode (qMc M_X12_isNumber) 8 = .ok (.iconst 1, 1) := by decide +kernel
theorem d_X12_isNumber_9 : decode (qMc M_X12_isNumber) 9 = .ok (.iconst 4, 1) := by decide +kernel
theorem d_X12_isNumber_10 : decode (qMc M_X12_isNumber) 10 = .ok (.invokestatic 137, 3) := by decide +kernel
theorem d_X12_isNumber_13 : decode (qMc M_X12_isNumber) 13 = .ok (.ireturn, 1) := by decide +kernel
theorem d_X12_valueHere_0 : decode (qMc M_X12_valueHere) 0 = .ok (.iconst 0, 1) := by decide +kernel
theorem d_X12_valueHere_1 : decode (qMc M_X12_valueHere) 1 = .ok (.istore_n 1, 1) := by decide +kernel
theorem d_X12_valueHere_2 : decode (qMc M_X12_valueHere) 2 = .ok (.aload_n 0, 1) := by decide +kernel
theorem d_X12_valueHere_3 : decode (qMc M_X12_valueHere) 3 = .ok (.invokevirtual 189, 3) := by decide +kernel
theorem d_X12_valueHere_6 : decode (qMc M_X12_valueHere) 6 = .ok (.istore_n 2, 1) := by decide +kernel
theorem d_X12_valueHere_7 : decode (qMc M_X12_valueHere) 7 = .ok (.iconst 0, 1) := by decide +kernel
theorem d_X12_valueHere_8 : decode (qMc M_X12_valueHere) 8 = .ok (.istore_n 3, 1) := by decide +kernel
theorem d_X12_valueHere_9 : decode (qMc M_X12_valueHere) 9 = .ok (.iload_n 3, 1) := by decide +kernel
theorem d_X12_valueHere_10 : decode (qMc M_X12_valueHere) 10 = .ok (.iload_n 2, 1) := by decide +kernel
theorem d_X12_valueHere_11 : decode (qMc M_X12_valueHere) 11 = .ok (.if_icmp .ge 28, 3) := by decide +kernel
theorem d_X12_valueHere_14 : decode (qMc M_X12_valueHere) 14 = .ok (.bipush 10, 2) := by decide +kernel
theorem d_X12_valueHere_16 : decode (qMc M_X12_valueHere) 16 = .ok (.iload_n 1, 1) := by decide +kernel
theorem d_X12_valueHere_17 : decode (qMc M_X12_valueHere) 17 = .ok (.imul, 1) := by decide +kernel
theorem d_X12_valueHere_18 : decode (qMc M_X12_valueHere) 18 = .ok (.aload_n 0, 1) := by decide +kernel
theorem d_X12_valueHere_19 : decode (qMc M_X12_valueHere) 19 = .ok (.aload_n 0, 1) := by decide +kernel
theorem d_X12_valueHere_20 : decode (qMc M_X12_valueHere) 20 = .ok (.getfield 150, 3) := by decide +kernel
theorem d_X12_valueHere_23 : decode (qMc M_X12_valueHere) 23 = .ok (.iload_n 3, 1) := by decide +kernel
theorem d_X12_valueHere_24 : decode (qMc M_X12_valueHere) 24 = .ok (.iadd, 1) := by decide +kernel
theorem d_X12_valueHere_25 : decode (qMc M_X12_valueHere) 25 = .ok (.invokevirtual 153, 3) := by decide +kernel
theorem d_X12_valueHere_28 : decode (qMc M_X12_valueHere) 28 = .ok (.iadd, 1) := by decide +kernel
theorem d_X12_valueHere_29 : decode (qMc M_X12_valueHere) 29 = .ok (.bipush 48, 2) := by decide +kernel
theorem d_X12_valueHere_31 : decode (qMc M_X12_valueHere) 31 = .ok (.isub, 1) := by decide +kernel
theorem d_X12_valueHere_32 : decode (qMc M_X12_valueHere) 32 = .ok (.istore_n 1, 1) := by decide +kernel
theorem d_X12_valueHere_33 : decode (qMc M_X12_valueHere) 33 = .ok (.iinc 3 1, 3) := by decide +kernel
theorem d_X12_valueHere_36 : decode (qMc M_X12_valueHere) 36 = .ok (.goto (-27), 3) := by decide +kernel
theorem d_X12_valueHere_39 : decode (qMc M_X12_valueHere) 39 = .ok (.iload_n 1, 1) := by decide +kernel
theorem d_X12_valueHere_40 : decode (qMc M_X12_valueHere) 40 = .ok (.ireturn, 1) := by decide +kernel
theorem d_X12_number_0 : decode (qMc M_X12_number) 0 = .ok (.aload_n 0, 1) := by decide +kernel
theorem d_X12_number_1 : decode (qMc M_X12_number) 1 = .ok (.getfield 141, 3) := by decide +kernel
theorem d_X12_number_4 : decode (qMc M_X12_number) 4 = .ok (.ifCond .eq 5, 3) := by decide +kernel
theorem d_X12_number_7 : decode (qMc M_X12_number) 7 = .ok (.iconst 0, 1) := by decide +kernel
theorem d_X12_number_8 : decode (qMc M_X12_number) 8 = .ok (.ireturn, 1) := by decide +kernel
theorem d_X12_number_9 : decode (qMc M_X12_number) 9 = .ok (.aload_n 0, 1) := by decide +kernel
theorem d_X12_number_10 : decode (qMc M_X12_number) 10 = .ok (.invokevirtual 192, 3) := by decide +kernel
theorem d_X12_number_13 : decode (qMc M_X12_number) 13 = .ok (.ifCond .ne 14, 3) := by decide +kernel
theorem d_X12_number_16 : decode (qMc M_X12_number) 16 = .ok (.aload_n 0, 1) := by decide +kernel
theorem d_X12_number_17 : decode (qMc M_X12_number) 17 = .ok (.iconst 1, 1) := by decide +kernel
theorem d_X12_number_18 : decode (qMc M_X12_number) 18 = .ok (.aload_n 0, 1) := by decide +kernel
theorem d_X12_number_19 : decode (qMc M_X12_number) 19 = .ok (.getfield 150, 3) := by decide +kernel
theorem d_X12_number_22 : decode (qMc M_X12_number) 22 = .ok (.invokevirtual 196, 3) := by decide +kernel
theorem d_X12_number_25 : decode (qMc M_X12_number) 25 = .ok (.iconst 0, 1) := by decide +kernel
theorem d_X12_number_26 : decode (qMc M_X12_number) 26 = .ok (.ireturn, 1) := by decide +kernel
theorem d_X12_number_27 : decode (qMc M_X12_number) 27 = .ok (.aload_n 0, 1) := by decide +kernel
theorem d_X12_number_28 : decode (qMc M_X12_number) 28 = .ok (.invokevirtual 200, 3) := by decide +kernel
theorem d_X12_number_31 : decode (qMc M_X12_number) 31 = .ok (.istore_n 3, 1) := by decide +kernel
theorem d_X12_number_32 : decode (qMc M_X12_number) 32 = .ok (.iload_n 3, 1) := by decide +kernel
theorem d_X12_number_33 : decode (qMc M_X12_number) 33 = .ok (.iload_n 1, 1) := by decide +kernel
theorem d_X12_number_34 : decode (qMc M_X12_number) 34 = .ok (.iload_n 2, 1) := by decide +kernel
theorem d_X12_number_35 : decode (qMc M_X12_number) 35 = .ok (.invokestatic 137, 3) := by decide +kernel
theorem d_X12_number_38 : decode (qMc M_X12_number) 38 = .ok (.ifCond .ne 15, 3) := by decide +kernel
theorem d_X12_number_41 : decode (qMc M_X12_number) 41 = .ok (.aload_n 0, 1) := by decide +kernel
theorem d_X12_number_42 : decode (qMc M_X12_number) 42 = .ok (.iconst 2, 1) := by decide +kernel
theorem d_X12_number_43 : decode (qMc M_X12_number) 43 = .ok (.aload_n 0, 1) := by decide +kernel
theorem d_X12_number_44 : decode (qMc M_X12_number) 44 = .ok (.getfield 150, 3) := by decide +kernel
theorem d_X12_number_47 : decode (qMc M_X12_number) 47 = .ok (.invokevirtual 196, 3) := by decide +kernel
theorem d_X12_number_50 : decode (qMc M_X12_number) 50 = .ok (.goto 16, 3) := by decide +kernel
theorem d_X12_number_53 : decode (qMc M_X12_number) 53 = .ok (.aload_n 0, 1) := by decide +kernel
theorem d_X12_number_54 : decode (qMc M_X12_number) 54 = .ok (.dup, 1) := by decide +kernel
theorem d_X12_number_55 : decode (qMc M_X12_number) 55 = .ok (.getfield 150, 3) := by decide +kernel
theorem d_X12_number_58 : decode (qMc M_X12_number) 58 = .ok (.aload_n 0, 1) := by decide +kernel
theorem d_X12_number_59 : decode (qMc M_X12_number) 59 = .ok (.invokevirtual 189, 3) := by decide +kernel
theorem d_X12_number_62 : decode (qMc M_X12_number) 62 = .ok (.iadd, 1) := by decide +kernel
theorem d_X12_number_63 : decode (qMc M_X12_number) 63 = .ok (.putfield 150, 3) := by decide +kernel
theorem d_X12_number_66 : decode (qMc M_X12_number) 66 = .ok (.iload_n 3, 1) := by decide +kernel
theorem d_X12_number_67 : decode (qMc M_X12_number) 67 = .ok (.ireturn, 1) := by decide +kernel
theorem d_X12_sign_0 : decode (qMc M_X12_sign) 0 = .ok (.aload_n 0, 1) := by decide +kernel
theorem d_X12_sign_1 : decode (qMc M_X12_sign) 1 = .ok (.getfield 141, 3) := by decide +kernel
theorem d_X12_sign_4 : decode (qMc M_X12_sign) 4 = .ok (.ifCond .eq 4, 3) := by decide +kernel
theorem d_X12_sign_7 : decode (qMc M_X12_sign) 7 = .ok (.return_, 1) := by decide +kernel
theorem d_X12_sign_8 : decode (qMc M_X12_sign) 8 = .ok (.aload_n 0, 1) := by decide +kernel
theorem d_X12_sign_9 : decode (qMc M_X12_sign) 9 = .ok (.invokevirtual 164, 3) := by decide +kernel
theorem d_X12_sign_12 : decode (qMc M_X12_sign) 12 = .ok (.aload_n 0, 1) := by decide +kernel
theorem d_X12_sign_13 : decode (qMc M_X12_sign) 13 = .ok (.aload_n 0, 1) := by decide +kernel
theorem d_X12_sign_14 : decode (qMc M_X12_sign) 14 = .ok (.getfield 150, 3) := by decide +kernel
theorem d_X12_sign_17 : decode (qMc M_X12_sign) 17 = .ok (.invokevirtual 153, 3) := by decide +kernel
theorem d_X12_sign_20 : decode (qMc M_X12_sign) 20 = .ok (.iload_n 1, 1) := by decide +kernel
theorem d_X12_sign_21 : decode (qMc M_X12_sign) 21 = .ok (.if_icmp .ne 16, 3) := by decide +kernel
theorem d_X12_sign_24 : decode (qMc M_X12_sign) 24 = .ok (.aload_n 0, 1) := by decide +kernel
theorem d_X12_sign_25 : decode (qMc M_X12_sign) 25 = .ok (.dup, 1) := by decide +kernel
theorem d_X12_sign_26 : decode (qMc M_X12_sign) 26 = .ok (.getfield 150, 3) := by decide +kernel
theorem d_X12_sign_29 : decode (qMc M_X12_sign) 29 = .ok (.iconst 1, 1) := by decide +kernel
theorem d_X12_sign_30 : decode (qMc M_X12_sign) 30 = .ok (.iadd, 1) := by decide +kernel
theorem d_X12_sign_31 : decode (qMc M_X12_sign) 31 = .ok (.putfield 150, 3) := by decide +kernel
theorem d_X12_sign_34 : decode (qMc M_X12_sign) 34 = .ok (.goto 12, 3) := by decide +kernel
theorem d_X12_sign_37 : decode (qMc M_X12_sign) 37 = .ok (.aload_n 0, 1) := by decide +kernel
theorem d_X12_sign_38 : decode (qMc M_X12_sign) 38 = .ok (.iconst 1, 1) := by decide +kernel
theorem d_X12_sign_39 : decode (qMc M_X12_sign) 39 = .ok (.aload_n 0, 1) := by decide +kernel
theorem d_X12_sign_40 : decode (qMc M_X12_sign) 40 = .ok (.getfield 150, 3) := by decide +kernel
theorem d_X12_sign_43 : decode (qMc M_X12_sign) 43 = .ok (.invokevirtual 196, 3) := by decide +kernel
theorem d_X12_sign_46 : decode (qMc M_X12_sign) 46 = .ok (.return_, 1) := by decide +kernel
theorem d_X12_isAny_0 : decode (qMc M_X12_isAny) 0 = .ok (.aload_n 0, 1) := by decide +kernel
theorem d_X12_isAny_1 : decode (qMc M_X12_isAny) 1 = .ok (.iconst 1, 1) := by decide +kernel
theorem d_X12_isAny_2 : decode (qMc M_X12_isAny) 2 = .ok (.bipush 14, 2) := by decide +kernel
theorem d_X12_isAny_4 : decode (qMc M_X12_isAny) 4 = .ok (.bipush 25, 2) := by decide +kernel
theorem d_X12_isAny_6 : decode (qMc M_X12_isAny) 6 = .ok (.iconst 0, 1) := by decide +kernel
theorem d_X12_isAny_7 : decode (qMc M_X12_isAny) 7 = .ok (.iconst 0, 1) := by decide +kernel
theorem d_X12_isAny_8 : decode (qMc M_X12_isAny) 8 = .ok (.iconst 0, 1) := by decide +kernel
theorem d_X12_isAny_9 : decode (qMc M_X12_isAny) 9 = .ok (.invokevirtual 185, 3) := by decide +kernel
theorem d_X12_isAny_12 : decode (qMc M_X12_isAny) 12 = .ok (.ireturn, 1) := by decide +kernel
theorem d_X12_isNot_0 : decode (qMc M_X12_isNot) 0 = .ok (.aload_n 0, 1) := by decide +kernel
theorem d_X12_isNot_1 : decode (qMc M_X12_isNot) 1 = .ok (.bipush 14, 2) := by decide +kernel
theorem d_X12_isNot_3 : decode (qMc M_X12_isNot) 3 = .ok (.bipush 15, 2) := by decide +kernel
theorem d_X12_isNot_5 : decode (qMc M_X12_isNot) 5 = .ok (.bipush 20, 2) := by decide +kernel
theorem d_X12_isNot_7 : decode (qMc M_X12_isNot) 7 = .ok (.iconst 0, 1) := by decide +kernel
theorem d_X12_isNot_8 : decode (qMc M_X12_isNot) 8 = .ok (.iconst 0, 1) := by decide +kernel
theorem d_X12_isNot_9 : decode (qMc M_X12_isNot) 9 = .ok (.iconst 0, 1) := by decide +kernel
theorem d_X12_isNot_10 : decode (qMc M_X12_isNot) 10 = .ok (.invokevirtual 185, 3) := by decide +kernel
theorem d_X12_isNot_13 : decode (qMc M_X12_isNot) 13 = .ok (.ireturn, 1) := by decide +kernel
theorem d_X12_isEnd_0 : decode (qMc M_X12_isEnd) 0 = .ok (.aload_n 0, 1) := by decide +kernel
theorem d_X12_isEnd_1 : decode (qMc M_X12_isEnd) 1 = .ok (.iconst 5, 1) := by decide +kernel
theorem d_X12_isEnd_2 : decode (qMc M_X12_isEnd) 2 = .ok (.bipush 14, 2) := by decide +kernel
theorem d_X12_isEnd_4 : decode (qMc M_X12_isEnd) 4 = .ok (.iconst 4, 1) := by decide +kernel
theorem d_X12_isEnd_5 : decode (qMc M_X12_isEnd) 5 = .ok (.iconst 0, 1) := by decide +kernel
theorem d_X12_isEnd_6 : decode (qMc M_X12_isEnd) 6 = .ok (.iconst 0, 1) := by decide +kernel
theorem d_X12_isEnd_7 : decode (qMc M_X12_isEnd) 7 = .ok (.iconst 0, 1) := by decide +kernel
theorem d_X12_isEnd_8 : decode (qMc M_X12_isEnd) 8 = .ok (.invokevirtual 185, 3) := by decide +kernel
theorem d_X12_isEnd_11 : decode (qMc M_X12_isEnd) 11 = .ok (.ireturn, 1) := by decide +kernel
theorem d_X12_oneSeen_0 : decode (qMc M_X12_oneSeen) 0 = .ok (.aload_n 0, 1) := by decide +kernel
theorem d_X12_oneSeen_1 : decode (qMc M_X12_oneSeen) 1 = .ok (.getfield 141, 3) := by decide +kernel
theorem d_X12_oneSeen_4 : decode (qMc M_X12_oneSeen) 4 = .ok (.ifCond .eq 5, 3) := by decide +kernel
theorem d_X12_oneSeen_7 : decode (qMc M_X12_oneSeen) 7 = .ok (.iconst 0, 1) := by decide +kernel
theorem d_X12_oneSeen_8 : decode (qMc M_X12_oneSeen) 8 = .ok (.ireturn, 1) := by decide +kernel
theorem d_X12_oneSeen_9 : decode (qMc M_X12_oneSeen) 9 = .ok (.aload_n 0, 1) := by decide +kernel
theorem d_X12_oneSeen_10 : decode (qMc M_X12_oneSeen) 10 = .ok (.iconst 5, 1) := by decide +kernel
theorem d_X12_oneSeen_11 : decode (qMc M_X12_oneSeen) 11 = .ok (.bipush 14, 2) := by decide +kernel
theorem d_X12_oneSeen_13 : decode (qMc M_X12_oneSeen) 13 = .ok (.iconst 4, 1) := by decide +kernel
theorem d_X12_oneSeen_14 : decode (qMc M_X12_oneSeen) 14 = .ok (.iconst 0, 1) := by decide +kernel
theorem d_X12_oneSeen_15 : decode (qMc M_X12_oneSeen) 15 = .ok (.iconst 0, 1) := by decide +kernel
theorem d_X12_oneSeen_16 : decode (qMc M_X12_oneSeen) 16 = .ok (.iconst 0, 1) := by decide +kernel
theorem d_X12_oneSeen_17 : decode (qMc M_X12_oneSeen) 17 = .ok (.invokevirtual 203, 3) := by decide +kernel
theorem d_X12_oneSeen_20 : decode (qMc M_X12_oneSeen) 20 = .ok (.ifCond .eq 7, 3) := by decide +kernel
theorem d_X12_oneSeen_23 : decode (qMc M_X12_oneSeen) 23 = .ok (.sipush 256, 3) := by decide +kernel
theorem d_X12_oneSeen_26 : decode (qMc M_X12_oneSeen) 26 = .ok (.ireturn, 1) := by decide +kernel
theorem d_X12_oneSeen_27 : decode (qMc M_X12_oneSeen) 27 = .ok (.iconst 1, 1) := by decide +kernel
theorem d_X12_oneSeen_28 : decode (qMc M_X12_oneSeen) 28 = .ok (.aload_n 0, 1) := by decide +kernel
theorem d_X12_oneSeen_29 : decode (qMc M_X12_oneSeen) 29 = .ok (.iconst 0, 1) := by decide +kernel
theorem d_X12_oneSeen_30 : decode (qMc M_X12_oneSeen) 30 = .ok (.bipush 7, 2) := by decide +kernel
theorem d_X12_oneSeen_32 : decode (qMc M_X12_oneSeen) 32 = .ok (.invokevirtual 206, 3) := by decide +kernel
theorem d_X12_oneSeen_35 : decode (qMc M_X12_oneSeen) 35 = .ok (.ishl, 1) := by decide +kernel
theorem d_X12_oneSeen_36 : decode (qMc M_X12_oneSeen) 36 = .ok (.ireturn, 1) := by decide +kernel
theorem d_X12_seen_0 : decode (qMc M_X12_seen) 0 = .ok (.aload_n 0, 1) := by decide +kernel
theorem d_X12_seen_1 : decode (qMc M_X12_seen) 1 = .ok (.getfield 141, 3) := by decide +kernel
theorem d_X12_seen_4 : decode (qMc M_X12_seen) 4 = .ok (.ifCond .eq 5, 3) := by decide +kernel
theorem d_X12_seen_7 : decode (qMc M_X12_seen) 7 = .ok (.iconst 0, 1) := by decide +kernel
theorem d_X12_seen_8 : decode (qMc M_X12_seen) 8 = .ok (.ireturn, 1) := by decide +kernel
theorem d_X12_seen_9 : decode (qMc M_X12_seen) 9 = .ok (.aload_n 0, 1) := by decide +kernel
theorem d_X12_seen_10 : decode (qMc M_X12_seen) 10 = .ok (.iconst 1, 1) := by decide +kernel
theorem d_X12_seen_11 : decode (qMc M_X12_seen) 11 = .ok (.bipush 14, 2) := by decide +kernel
theorem d_X12_seen_13 : decode (qMc M_X12_seen) 13 = .ok (.bipush 25, 2) := by decide +kernel
theorem d_X12_seen_15 : decode (qMc M_X12_seen) 15 = .ok (.iconst 0, 1) := by decide +kernel
theorem d_X12_seen_16 : decode (qMc M_X12_seen) 16 = .ok (.iconst 0, 1) := by decide +kernel
theorem d_X12_seen_17 : decode (qMc M_X12_seen) 17 = .ok (.iconst 0, 1) := by decide +kernel
theorem d_X12_seen_18 : decode (qMc M_X12_seen) 18 = .ok (.invokevirtual 203, 3) := by decide +kernel
theorem d_X12_seen_21 : decode (qMc M_X12_seen) 21 = .ok (.ifCond .eq 7, 3) := by decide +kernel
theorem d_X12_seen_24 : decode (qMc M_X12_seen) 24 = .ok (.sipush 511, 3) := by decide +kernel
theorem d_X12_seen_27 : decode (qMc M_X12_seen) 27 = .ok (.ireturn, 1) := by decide +kernel
theorem d_X12_seen_28 : decode (qMc M_X12_seen) 28 = .ok (.aload_n 0, 1) := by decide +kernel
theorem d_X12_seen_29 : decode (qMc M_X12_seen) 29 = .ok (.bipush 14, 2) := by decide +kernel
theorem d_X12_seen_31 : decode (qMc M_X12_seen) 31 = .ok (.bipush 15, 2) := by decide +kernel
theorem d_X12_seen_33 : decode (qMc M_X12_seen) 33 = .ok (.bipush 20, 2) := by decide +kernel
theorem d_X12_seen_35 : decode (qMc M_X12_seen) 35 = .ok (.iconst 0, 1) := by decide +kernel
theorem d_X12_seen_36 : decode (qMc M_X12_seen) 36 = .ok (.iconst 0, 1) := by decide +kernel
theorem d_X12_seen_37 : decode (qMc M_X12_seen) 37 = .ok (.iconst 0, 1) := by decide +kernel
theorem d_X12_seen_38 : decode (qMc M_X12_seen) 38 = .ok (.invokevirtual 203, 3) := by decide +kernel
theorem d_X12_seen_41 : decode (qMc M_X12_seen) 41 = .ok (.istore_n 1, 1) := by decide +kernel
theorem d_X12_seen_42 : decode (qMc M_X12_seen) 42 = .ok (.aload_n 0, 1) := by decide +kernel
theorem d_X12_seen_43 : decode (qMc M_X12_seen) 43 = .ok (.invokevirtual 210, 3) := by decide +kernel
theorem d_X12_seen_46 : decode (qMc M_X12_seen) 46 = .ok (.istore_n 2, 1) := by decide +kernel
theorem d_X12_seen_47 : decode (qMc M_X12_seen) 47 = .ok (.aload_n 0, 1) := by decide +kernel
theorem d_X12_seen_48 : decode (qMc M_X12_seen) 48 = .ok (.invokevirtual 164, 3) := by decide +kernel
theorem d_X12_seen_51 : decode (qMc M_X12_seen) 51 = .ok (.aload_n 0, 1) := by decide +kernel
theorem d_X12_seen_52 : decode (qMc M_X12_seen) 52 = .ok (.getfield 141, 3) := by decide +kernel
theorem d_X12_seen_55 : decode (qMc M_X12_seen) 55 = .ok (.ifCond .ne 40, 3) := by decide +kernel
theorem d_X12_seen_58 : decode (qMc M_X12_seen) 58 = .ok (.aload_n 0, 1) := by decide +kernel
theorem d_X12_seen_59 : decode (qMc M_X12_seen) 59 = .ok (.aload_n 0, 1) := by decide +kernel
theorem d_X12_seen_60 : decode (qMc M_X12_seen) 60 = .ok (.getfield 150, 3) := by decide +kernel
theorem d_X12_seen_63 : decode (qMc M_X12_seen) 63 = .ok (.invokevirtual 153, 3) := by decide +kernel
theorem d_X12_seen_66 : decode (qMc M_X12_seen) 66 = .ok (.bipush 44, 2) := by decide +kernel
theorem d_X12_seen_68 : decode (qMc M_X12_seen) 68 = .ok (.if_icmp .ne 27, 3) := by decide +kernel
theorem d_X12_seen_71 : decode (qMc M_X12_seen) 71 = .ok (.aload_n 0, 1) := by decide +kernel
theorem d_X12_seen_72 : decode (qMc M_X12_seen) 72 = .ok (.dup, 1) := by decide +kernel
theorem d_X12_seen_73 : decode (qMc M_X12_seen) 73 = .ok (.getfield 150, 3) := by decide +kernel
theorem d_X12_seen_76 : decode (qMc M_X12_seen) 76 = .ok (.iconst 1, 1) := by decide +kernel
theorem d_X12_seen_77 : decode (qMc M_X12_seen) 77 = .ok (.iadd, 1) := by decide +kernel
theorem d_X12_seen_78 : decode (qMc M_X12_seen) 78 = .ok (.putfield 150, 3) := by decide +kernel
theorem d_X12_seen_81 : decode (qMc M_X12_seen) 81 = .ok (.iload_n 2, 1) := by decide +kernel
theorem d_X12_seen_82 : decode (qMc M_X12_seen) 82 = .ok (.aload_n 0, 1) := by decide +kernel
theorem d_X12_seen_83 : decode (qMc M_X12_seen) 83 = .ok (.invokevirtual 210, 3) := by decide +kernel
theorem d_X12_seen_86 : decode (qMc M_X12_seen) 86 = .ok (.ior, 1) := by decide +kernel
theorem d_X12_seen_87 : decode (qMc M_X12_seen) 87 = .ok (.istore_n 2, 1) := by decide +kernel
theorem d_X12_seen_88 : decode (qMc M_X12_seen) 88 = .ok (.aload_n 0, 1) := by decide +kernel
theorem d_X12_seen_89 : decode (qMc M_X12_seen) 89 = .ok (.invokevirtual 164, 3) := by decide +kernel
theorem d_X12_seen_92 : decode (qMc M_X12_seen) 92 = .ok (.goto (-41), 3) := by decide +kernel
theorem d_X12_seen_95 : decode (qMc M_X12_seen) 95 = .ok (.iload_n 1, 1) := by decide +kernel
theorem d_X12_seen_96 : decode (qMc M_X12_seen) 96 = .ok (.ifCond .eq 13, 3) := by decide +kernel
theorem d_X12_seen_99 : decode (qMc M_X12_seen) 99 = .ok (.sipush 511, 3) := by decide +kernel
theorem d_X12_seen_102 : decode (qMc M_X12_seen) 102 = .ok (.iload_n 2, 1) := by decide +kernel
theorem d_X12_seen_103 : decode (qMc M_X12_seen) 103 = .ok (.iconst (-1), 1) := by decide +kernel
theorem d_X12_seen_104 : decode (qMc M_X12_seen) 104 = .ok (.ixor, 1) := by decide +kernel
theorem d_X12_seen_105 : decode (qMc M_X12_seen) 105 = .ok (.iand, 1) := by decide +kernel
theorem d_X12_seen_106 : decode (qMc M_X12_seen) 106 = .ok (.goto 4, 3) := by decide +kernel
theorem d_X12_seen_109 : decode (qMc M_X12_seen) 109 = .ok (.iload_n 2, 1) := by decide +kernel
theorem d_X12_seen_110 : decode (qMc M_X12_seen) 110 = .ok (.ireturn, 1) := by decide +kernel
theorem d_X12_lineOfPage_0 : decode (qMc M_X12_lineOfPage) 0 = .ok (.aload_n 0, 1) := by decide +kernel
theorem d_X12_lineOfPage_1 : decode (qMc M_X12_lineOfPage) 1 = .ok (.invokevirtual 213, 3) := by decide +kernel
theorem d_X12_lineOfPage_4 : decode (qMc M_X12_lineOfPage) 4 = .ok (.ifCond .ne 36, 3) := by decide +kernel
theorem d_X12_lineOfPage_7 : decode (qMc M_X12_lineOfPage) 7 = .ok (.aload_n 0, 1) := by decide +kernel
theorem d_X12_lineOfPage_8 : decode (qMc M_X12_lineOfPage) 8 = .ok (.invokevirtual 216, 3) := by decide +kernel
theorem d_X12_lineOfPage_11 : decode (qMc M_X12_lineOfPage) 11 = .ok (.ifCond .ne 29, 3) := by decide +kernel
theorem d_X12_lineOfPage_14 : decode (qMc M_X12_lineOfPage) 14 = .ok (.aload_n 0, 1) := by decide +kernel
theorem d_X12_lineOfPage_15 : decode (qMc M_X12_lineOfPage) 15 = .ok (.invokevirtual 219, 3) := by decide +kernel
theorem d_X12_lineOfPage_18 : decode (qMc M_X12_lineOfPage) 18 = .ok (.ifCond .ne 22, 3) := by decide +kernel
theorem d_X12_lineOfPage_21 : decode (qMc M_X12_lineOfPage) 21 = .ok (.aload_n 0, 1) := by decide +kernel
theorem d_X12_lineOfPage_22 : decode (qMc M_X12_lineOfPage) 22 = .ok (.invokevirtual 192, 3) := by decide +kernel
theorem d_X12_lineOfPage_25 : decode (qMc M_X12_lineOfPage) 25 = .ok (.ifCond .ne 15, 3) := by decide +kernel
theorem d_X12_lineOfPage_28 : decode (qMc M_X12_lineOfPage) 28 = .ok (.aload_n 0, 1) := by decide +kernel
theorem d_X12_lineOfPage_29 : decode (qMc M_X12_lineOfPage) 29 = .ok (.iconst 1, 1) := by decide +kernel
theorem d_X12_lineOfPage_30 : decode (qMc M_X12_lineOfPage) 30 = .ok (.aload_n 0, 1) := by decide +kernel
theorem d_X12_lineOfPage_31 : decode (qMc M_X12_lineOfPage) 31 = .ok (.getfield 150, 3) := by decide +kernel
theorem d_X12_lineOfPage_34 : decode (qMc M_X12_lineOfPage) 34 = .ok (.invokevirtual 196, 3) := by decide +kernel
theorem d_X12_lineOfPage_37 : decode (qMc M_X12_lineOfPage) 37 = .ok (.goto 49, 3) := by decide +kernel
theorem d_X12_lineOfPage_40 : decode (qMc M_X12_lineOfPage) 40 = .ok (.aload_n 0, 1) := by decide +kernel
theorem d_X12_lineOfPage_41 : decode (qMc M_X12_lineOfPage) 41 = .ok (.invokevirtual 192, 3) := by decide +kernel
theorem d_X12_lineOfPage_44 : decode (qMc M_X12_lineOfPage) 44 = .ok (.ifCond .eq 24, 3) := by decide +kernel
theorem d_X12_lineOfPage_47 : decode (qMc M_X12_lineOfPage) 47 = .ok (.aload_n 0, 1) := by decide +kernel
theorem d_X12_lineOfPage_48 : decode (qMc M_X12_lineOfPage) 48 = .ok (.invokevirtual 200, 3) := by decide +kernel
theorem d_X12_lineOfPage_51 : decode (qMc M_X12_lineOfPage) 51 = .ok (.bipush 8, 2) := by decide +kernel
theorem d_X12_lineOfPage_53 : decode (qMc M_X12_lineOfPage) 53 = .ok (.if_icmp .lt 15, 3) := by decide +kernel
theorem d_X12_lineOfPage_56 : decode (qMc M_X12_lineOfPage) 56 = .ok (.aload_n 0, 1) := by decide +kernel
theorem d_X12_lineOfPage_57 : decode (qMc M_X12_lineOfPage) 57 = .ok (.iconst 2, 1) := by decide +kernel
theorem d_X12_lineOfPage_58 : decode (qMc M_X12_lineOfPage) 58 = .ok (.aload_n 0, 1) := by decide +kernel
theorem d_X12_lineOfPage_59 : decode (qMc M_X12_lineOfPage) 59 = .ok (.getfield 150, 3) := by decide +kernel
theorem d_X12_lineOfPage_62 : decode (qMc M_X12_lineOfPage) 62 = .ok (.invokevirtual 196, 3) := by decide +kernel
theorem d_X12_lineOfPage_65 : decode (qMc M_X12_lineOfPage) 65 = .ok (.goto 21, 3) := by decide +kernel
theorem d_X12_lineOfPage_68 : decode (qMc M_X12_lineOfPage) 68 = .ok (.aload_n 0, 1) := by decide +kernel
theorem d_X12_lineOfPage_69 : decode (qMc M_X12_lineOfPage) 69 = .ok (.getfield 222, 3) := by decide +kernel
theorem d_X12_lineOfPage_72 : decode (qMc M_X12_lineOfPage) 72 = .ok (.bipush 24, 2) := by decide +kernel
theorem d_X12_lineOfPage_74 : decode (qMc M_X12_lineOfPage) 74 = .ok (.if_icmp .ne 12, 3) := by decide +kernel
theorem d_X12_lineOfPage_77 : decode (qMc M_X12_lineOfPage) 77 = .ok (.aload_n 0, 1) := by decide +kernel
theorem d_X12_lineOfPage_78 : decode (qMc M_X12_lineOfPage) 78 = .ok (.iconst 3, 1) := by decide +kernel
theorem d_X12_lineOfPage_79 : decode (qMc M_X12_lineOfPage) 79 = .ok (.aload_n 0, 1) := by decide +kernel
theorem d_X12_lineOfPage_80 : decode (qMc M_X12_lineOfPage) 80 = .ok (.getfield 150, 3) := by decide +kernel
theorem d_X12_lineOfPage_83 : decode (qMc M_X12_lineOfPage) 83 = .ok (.invokevirtual 196, 3) := by decide +kernel
theorem d_X12_lineOfPage_86 : decode (qMc M_X12_lineOfPage) 86 = .ok (.aload_n 0, 1) := by decide +kernel
theorem d_X12_lineOfPage_87 : decode (qMc M_X12_lineOfPage) 87 = .ok (.getfield 141, 3) := by decide +kernel
theorem d_X12_lineOfPage_90 : decode (qMc M_X12_lineOfPage) 90 = .ok (.ifCond .eq 4, 3) := by decide +kernel
theorem d_X12_lineOfPage_93 : decode (qMc M_X12_lineOfPage) 93 = .ok (.return_, 1) := by decide +kernel
theorem d_X12_lineOfPage_94 : decode (qMc M_X12_lineOfPage) 94 = .ok (.iconst 0, 1) := by decide +kernel
theorem d_X12_lineOfPage_95 : decode (qMc M_X12_lineOfPage) 95 = .ok (.istore_n 1, 1) := by decide +kernel
theorem d_X12_lineOfPage_96 : decode (qMc M_X12_lineOfPage) 96 = .ok (.iload_n 1, 1) := by decide +kernel
theorem d_X12_lineOfPage_97 : decode (qMc M_X12_lineOfPage) 97 = .ok (.iconst 3, 1) := by decide +kernel
theorem d_X12_lineOfPage_98 : decode (qMc M_X12_lineOfPage) 98 = .ok (.if_icmp .ge 26, 3) := by decide +kernel
theorem d_X12_lineOfPage_101 : decode (qMc M_X12_lineOfPage) 101 = .ok (.aload_n 0, 1) := by decide +kernel
theorem d_X12_lineOfPage_102 : decode (qMc M_X12_lineOfPage) 102 = .ok (.getfield 23, 3) := by decide +kernel
theorem d_X12_lineOfPage_105 : decode (qMc M_X12_lineOfPage) 105 = .ok (.iconst 4, 1) := by decide +kernel
theorem d_X12_lineOfPage_106 : decode (qMc M_X12_lineOfPage) 106 = .ok (.aload_n 0, 1) := by decide +kernel
theorem d_X12_lineOfPage_107 : decode (qMc M_X12_lineOfPage) 107 = .ok (.getfield 222, 3) := by decide +kernel
theorem d_X12_lineOfPage_110 : decode (qMc M_X12_lineOfPage) 110 = .ok (.imul, 1) := by decide +kernel
theorem d_X12_lineOfPage_111 : decode (qMc M_X12_lineOfPage) 111 = .ok (.iload_n 1, 1) := by decide +kernel
theorem d_X12_lineOfPage_112 : decode (qMc M_X12_lineOfPage) 112 = .ok (.iadd, 1) := by decide +kernel
theorem d_X12_lineOfPage_113 : decode (qMc M_X12_lineOfPage) 113 = .ok (.aload_n 0, 1) := by decide +kernel
theorem d_X12_lineOfPage_114 : decode (qMc M_X12_lineOfPage) 114 = .ok (.invokevirtual 225, 3) := by decide +kernel
theorem d_X12_lineOfPage_117 : decode (qMc M_X12_lineOfPage) 117 = .ok (.iastore, 1) := by decide +kernel
theorem d_X12_lineOfPage_118 : decode (qMc M_X12_lineOfPage) 118 = .ok (.iinc 1 1, 3) := by decide +kernel
theorem d_X12_lineOfPage_121 : decode (qMc M_X12_lineOfPage) 121 = .ok (.goto (-25), 3) := by decide +kernel
theorem d_X12_lineOfPage_124 : decode (qMc M_X12_lineOfPage) 124 = .ok (.aload_n 0, 1) := by decide +kernel
theorem d_X12_lineOfPage_125 : decode (qMc M_X12_lineOfPage) 125 = .ok (.bipush 62, 2) := by decide +kernel
theorem d_X12_lineOfPage_127 : decode (qMc M_X12_lineOfPage) 127 = .ok (.invokevirtual 228, 3) := by decide +kernel
theorem d_X12_lineOfPage_130 : decode (qMc M_X12_lineOfPage) 130 = .ok (.aload_n 0, 1) := by decide +kernel
theorem d_X12_lineOfPage_131 : decode (qMc M_X12_lineOfPage) 131 = .ok (.getfield 23, 3) := by decide +kernel
theorem d_X12_lineOfPage_134 : decode (qMc M_X12_lineOfPage) 134 = .ok (.iconst 4, 1) := by decide +kernel
theorem d_X12_lineOfPage_135 : decode (qMc M_X12_lineOfPage) 135 = .ok (.aload_n 0, 1) := by decide +kernel
theorem d_X12_lineOfPage_136 : decode (qMc M_X12_lineOfPage) 136 = .ok (.getfield 222, 3) := by decide +kernel
theorem d_X12_lineOfPage_139 : decode (qMc M_X12_lineOfPage) 139 = .ok (.imul, 1) := by decide +kernel
theorem d_X12_lineOfPage_140 : decode (qMc M_X12_lineOfPage) 140 = .ok (.iconst 3, 1) := by decide +kernel
theorem d_X12_lineOfPage_141 : decode (qMc M_X12_lineOfPage) 141 = .ok (.iadd, 1) := by decide +kernel
theorem d_X12_lineOfPage_142 : decode (qMc M_X12_lineOfPage) 142 = .ok (.aload_n 0, 1) := by decide +kernel
theorem d_X12_lineOfPage_143 : decode (qMc M_X12_lineOfPage) 143 = .ok (.bipush 19, 2) := by decide +kernel
theorem d_X12_lineOfPage_145 : decode (qMc M_X12_lineOfPage) 145 = .ok (.iconst 1, 1) := by decide +kernel
theorem d_X12_lineOfPage_146 : decode (qMc M_X12_lineOfPage) 146 = .ok (.bipush 13, 2) := by decide +kernel
theorem d_X12_lineOfPage_148 : decode (qMc M_X12_lineOfPage) 148 = .ok (.iconst 5, 1) := by decide +kernel
theorem d_X12_lineOfPage_149 : decode (qMc M_X12_lineOfPage) 149 = .ok (.iconst 0, 1) := by decide +kernel
theorem d_X12_lineOfPage_150 : decode (qMc M_X12_lineOfPage) 150 = .ok (.iconst 0, 1) := by decide +kernel
theorem d_X12_lineOfPage_151 : decode (qMc M_X12_lineOfPage) 151 = .ok (.invokevirtual 203, 3) := by decide +kernel
theorem d_X12_lineOfPage_154 : decode (qMc M_X12_lineOfPage) 154 = .ok (.ifCond .eq 8, 3) := by decide +kernel
theorem d_X12_lineOfPage_157 : decode (qMc M_X12_lineOfPage) 157 = .ok (.bipush 8, 2) := by decide +kernel
theorem d_X12_lineOfPage_159 : decode (qMc M_X12_lineOfPage) 159 = .ok (.goto 10, 3) := by decide +kernel
theorem d_X12_lineOfPage_162 : decode (qMc M_X12_lineOfPage) 162 = .ok (.aload_n 0, 1) := by decide +kernel
theorem d_X12_lineOfPage_163 : decode (qMc M_X12_lineOfPage) 163 = .ok (.iconst 0, 1) := by decide +kernel
theorem d_X12_lineOfPage_164 : decode (qMc M_X12_lineOfPage) 164 = .ok (.bipush 7, 2) := by decide +kernel
theorem d_X12_lineOfPage_166 : decode (qMc M_X12_lineOfPage) 166 = .ok (.invokevirtual 206, 3) := by decide +kernel
theorem d_X12_lineOfPage_169 : decode (qMc M_X12_lineOfPage) 169 = .ok (.iastore, 1) := by decide +kernel
theorem d_X12_lineOfPage_170 : decode (qMc M_X12_lineOfPage) 170 = .ok (.aload_n 0, 1) := by decide +kernel
theorem d_X12_lineOfPage_171 : decode (qMc M_X12_lineOfPage) 171 = .ok (.bipush 59, 2) := by decide +kernel
theorem d_X12_lineOfPage_173 : decode (qMc M_X12_lineOfPage) 173 = .ok (.invokevirtual 228, 3) := by decide +kernel
theorem d_X12_lineOfPage_176 : decode (qMc M_X12_lineOfPage) 176 = .ok (.aload_n 0, 1) := by decide +kernel
theorem d_X12_lineOfPage_177 : decode (qMc M_X12_lineOfPage) 177 = .ok (.dup, 1) := by decide +kernel
theorem d_X12_lineOfPage_178 : decode (qMc M_X12_lineOfPage) 178 = .ok (.getfield 222, 3) := by decide +kernel
theorem d_X12_lineOfPage_181 : decode (qMc M_X12_lineOfPage) 181 = .ok (.iconst 1, 1) := by decide +kernel
theorem d_X12_lineOfPage_182 : decode (qMc M_X12_lineOfPage) 182 = .ok (.iadd, 1) := by decide +kernel
theorem d_X12_lineOfPage_183 : decode (qMc M_X12_lineOfPage) 183 = .ok (.putfield 222, 3) := by decide +kernel
theorem d_X12_lineOfPage_186 : decode (qMc M_X12_lineOfPage) 186 = .ok (.return_, 1) := by decide +kernel
theorem d_X12_actHere_0 : decode (qMc M_X12_actHere) 0 = .ok (.aload_n 0, 1) := by decide +kernel
theorem d_X12_actHere_1 : decode (qMc M_X12_actHere) 1 = .ok (.bipush 20, 2) := by decide +kernel
theorem d_X12_actHere_3 : decode (qMc M_X12_actHere) 3 = .ok (.iconst 5, 1) := by decide +kernel
theorem d_X12_actHere_4 : decode (qMc M_X12_actHere) 4 = .ok (.bipush 12, 2) := by decide +kernel
theorem d_X12_actHere_6 : decode (qMc M_X12_actHere) 6 = .ok (.bipush 12, 2) := by decide +kernel
theorem d_X12_actHere_8 : decode (qMc M_X12_actHere) 8 = .ok (.iconst 0, 1) := by decide +kernel
theorem d_X12_actHere_9 : decode (qMc M_X12_actHere) 9 = .ok (.iconst 0, 1) := by decide +kernel
theorem d_X12_actHere_10 : decode (qMc M_X12_actHere) 10 = .ok (.invokevirtual 203, 3) := by decide +kernel
theorem d_X12_actHere_13 : decode (qMc M_X12_actHere) 13 = .ok (.ifCond .eq 5, 3) := by decide +kernel
theorem d_X12_actHere_16 : decode (qMc M_X12_actHere) 16 = .ok (.iconst 0, 1) := by decide +kernel
theorem d_X12_actHere_17 : decode (qMc M_X12_actHere) 17 = .ok (.ireturn, 1) := by decide +kernel
theorem d_X12_actHere_18 : decode (qMc M_X12_actHere) 18 = .ok (.aload_n 0, 1) := by decide +kernel
theorem d_X12_actHere_19 : decode (qMc M_X12_actHere) 19 = .ok (.iconst 4, 1) := by decide +kernel
theorem d_X12_actHere_20 : decode (qMc M_X12_actHere) 20 = .ok (.iconst 5, 1) := by decide +kernel
theorem d_X12_actHere_21 : decode (qMc M_X12_actHere) 21 = .ok (.iconst 1, 1) := by decide +kernel
theorem d_X12_actHere_22 : decode (qMc M_X12_actHere) 22 = .ok (.bipush 6, 2) := by decide +kernel
theorem d_X12_actHere_24 : decode (qMc M_X12_actHere) 24 = .ok (.iconst 0, 1) := by decide +kernel
theorem d_X12_actHere_25 : decode (qMc M_X12_actHere) 25 = .ok (.iconst 0, 1) := by decide +kernel
theorem d_X12_actHere_26 : decode (qMc M_X12_actHere) 26 = .ok (.invokevirtual 203, 3) := by decide +kernel
theorem d_X12_actHere_29 : decode (qMc M_X12_actHere) 29 = .ok (.ifCond .eq 5, 3) := by decide +kernel
theorem d_X12_actHere_32 : decode (qMc M_X12_actHere) 32 = .ok (.iconst 1, 1) := by decide +kernel
theorem d_X12_actHere_33 : decode (qMc M_X12_actHere) 33 = .ok (.ireturn, 1) := by decide +kernel
theorem d_X12_actHere_34 : decode (qMc M_X12_actHere) 34 = .ok (.aload_n 0, 1) := by decide +kernel
theorem d_X12_actHere_35 : decode (qMc M_X12_actHere) 35 = .ok (.bipush 23, 2) := by decide +kernel
theorem d_X12_actHere_37 : decode (qMc M_X12_actHere) 37 = .ok (.iconst 1, 1) := by decide +kernel
theorem d_X12_actHere_38 : decode (qMc M_X12_actHere) 38 = .ok (.bipush 11, 2) := by decide +kernel
theorem d_X12_actHere_40 : decode (qMc M_X12_actHere) 40 = .ok (.iconst 5, 1) := by decide +kernel
theorem d_X12_actHere_41 : decode (qMc M_X12_actHere) 41 = .ok (.iconst 0, 1) := by decide +kernel
theorem d_X12_actHere_42 : decode (qMc M_X12_actHere) 42 = .ok (.iconst 0, 1) := by decide +kernel
theorem d_X12_actHere_43 : decode (qMc M_X12_actHere) 43 = .ok (.invokevirtual 203, 3) := by decide +kernel
theorem d_X12_actHere_46 : decode (qMc M_X12_actHere) 46 = .ok (.ifCond .eq 5, 3) := by decide +kernel
theorem d_X12_actHere_49 : decode (qMc M_X12_actHere) 49 = .ok (.iconst 2, 1) := by decide +kernel
theorem d_X12_actHere_50 : decode (qMc M_X12_actHere) 50 = .ok (.ireturn, 1) := by decide +kernel
theorem d_X12_actHere_51 : decode (qMc M_X12_actHere) 51 = .ok (.aload_n 0, 1) := by decide +kernel
theorem d_X12_actHere_52 : decode (qMc M_X12_actHere) 52 = .ok (.bipush 12, 2) := by decide +kernel
theorem d_X12_actHere_54 : decode (qMc M_X12_actHere) 54 = .ok (.iconst 1, 1) := by decide +kernel
theorem d_X12_actHere_55 : decode (qMc M_X12_actHere) 55 = .ok (.bipush 20, 2) := by decide +kernel
theorem d_X12_actHere_57 : decode (qMc M_X12_actHere) 57 = .ok (.iconst 5, 1) := by decide +kernel
theorem d_X12_actHere_58 : decode (qMc M_X12_actHere) 58 = .ok (.iconst 0, 1) := by decide +kernel
theorem d_X12_actHere_59 : decode (qMc M_X12_actHere) 59 = .ok (.iconst 0, 1) := by decide +kernel
theorem d_X12_actHere_60 : decode (qMc M_X12_actHere) 60 = .ok (.invokevirtual 203, 3) := by decide +kernel
theorem d_X12_actHere_63 : decode (qMc M_X12_actHere) 63 = .ok (.ifCond .eq 5, 3) := by decide +kernel
theorem d_X12_actHere_66 : decode (qMc M_X12_actHere) 66 = .ok (.iconst 3, 1) := by decide +kernel
theorem d_X12_actHere_67 : decode (qMc M_X12_actHere) 67 = .ok (.ireturn, 1) := by decide +kernel
theorem d_X12_actHere_68 : decode (qMc M_X12_actHere) 68 = .ok (.aload_n 0, 1) := by decide +kernel
theorem d_X12_actHere_69 : decode (qMc M_X12_actHere) 69 = .ok (.bipush 19, 2) := by decide +kernel
theorem d_X12_actHere_71 : decode (qMc M_X12_actHere) 71 = .ok (.bipush 15, 2) := by decide +kernel
theorem d_X12_actHere_73 : decode (qMc M_X12_actHere) 73 = .ok (.bipush 15, 2) := by decide +kernel
theorem d_X12_actHere_75 : decode (qMc M_X12_actHere) 75 = .ok (.bipush 14, 2) := by decide +kernel
theorem d_X12_actHere_77 : decode (qMc M_X12_actHere) 77 = .ok (.iconst 0, 1) := by decide +kernel
theorem d_X12_actHere_78 : decode (qMc M_X12_actHere) 78 = .ok (.iconst 0, 1) := by decide +kernel
theorem d_X12_actHere_79 : decode (qMc M_X12_actHere) 79 = .ok (.invokevirtual 203, 3) := by decide +kernel
theorem d_X12_actHere_82 : decode (qMc M_X12_actHere) 82 = .ok (.ifCond .eq 5, 3) := by decide +kernel
theorem d_X12_actHere_85 : decode (qMc M_X12_actHere) 85 = .ok (.iconst 4, 1) := by decide +kernel
theorem d_X12_actHere_86 : decode (qMc M_X12_actHere) 86 = .ok (.ireturn, 1) := by decide +kernel
theorem d_X12_actHere_87 : decode (qMc M_X12_actHere) 87 = .ok (.aload_n 0, 1) := by decide +kernel
theorem d_X12_actHere_88 : decode (qMc M_X12_actHere) 88 = .ok (.bipush 7, 2) := by decide +kernel
theorem d_X12_actHere_90 : decode (qMc M_X12_actHere) 90 = .ok (.iconst 1, 1) := by decide +kernel
theorem d_X12_actHere_91 : decode (qMc M_X12_actHere) 91 = .ok (.bipush 20, 2) := by decide +kernel
theorem d_X12_actHere_93 : decode (qMc M_X12_actHere) 93 = .ok (.iconst 5, 1) := by decide +kernel
theorem d_X12_actHere_94 : decode (qMc M_X12_actHere) 94 = .ok (.iconst 0, 1) := by decide +kernel
theorem d_X12_actHere_95 : decode (qMc M_X12_actHere) 95 = .ok (.iconst 0, 1) := by decide +kernel
theorem d_X12_actHere_96 : decode (qMc M_X12_actHere) 96 = .ok (.invokevirtual 203, 3) := by decide +kernel
theorem d_X12_actHere_99 : decode (qMc M_X12_actHere) 99 = .ok (.ifCond .eq 7, 3) := by decide +kernel
theorem d_X12_actHere_102 : decode (qMc M_X12_actHere) 102 = .ok (.iconst 5, 1) := by decide +kernel
theorem d_X12_actHere_103 : decode (qMc M_X12_actHere) 103 = .ok (.goto 4, 3) := by decide +kernel
theorem d_X12_actHere_106 : decode (qMc M_X12_actHere) 106 = .ok (.iconst (-1), 1) := by decide +kernel
theorem d_X12_actHere_107 : decode (qMc M_X12_actHere) 107 = .ok (.ireturn, 1) := by decide +kernel
theorem d_X12_lineOfPlan_0 : decode (qMc M_X12_lineOfPlan) 0 = .ok (.aload_n 0, 1) := by decide +kernel
theorem d_X12_lineOfPlan_1 : decode (qMc M_X12_lineOfPlan) 1 = .ok (.iconst 1, 1) := by decide +kernel
theorem d_X12_lineOfPlan_2 : decode (qMc M_X12_lineOfPlan) 2 = .ok (.bipush 20, 2) := by decide +kernel
theorem d_X12_lineOfPlan_4 : decode (qMc M_X12_lineOfPlan) 4 = .ok (.iconst 0, 1) := by decide +kernel
theorem d_X12_lineOfPlan_5 : decode (qMc M_X12_lineOfPlan) 5 = .ok (.iconst 0, 1) := by decide +kernel
theorem d_X12_lineOfPlan_6 : decode (qMc M_X12_lineOfPlan) 6 = .ok (.iconst 0, 1) := by decide +kernel
theorem d_X12_lineOfPlan_7 : decode (qMc M_X12_lineOfPlan) 7 = .ok (.iconst 0, 1) := by decide +kernel
theorem d_X12_lineOfPlan_8 : decode (qMc M_X12_lineOfPlan) 8 = .ok (.invokevirtual 185, 3) := by decide +kernel
theorem d_X12_lineOfPlan_11 : decode (qMc M_X12_lineOfPlan) 11 = .ok (.ifCond .ne 15, 3) := by decide +kernel
theorem d_X12_lineOfPlan_14 : decode (qMc M_X12_lineOfPlan) 14 = .ok (.aload_n 0, 1) := by decide +kernel
theorem d_X12_lineOfPlan_15 : decode (qMc M_X12_lineOfPlan) 15 = .ok (.iconst 1, 1) := by decide +kernel
theorem d_X12_lineOfPlan_16 : decode (qMc M_X12_lineOfPlan) 16 = .ok (.aload_n 0, 1) := by decide +kernel
theorem d_X12_lineOfPlan_17 : decode (qMc M_X12_lineOfPlan) 17 = .ok (.getfield 150, 3) := by decide +kernel
theorem d_X12_lineOfPlan_20 : decode (qMc M_X12_lineOfPlan) 20 = .ok (.invokevirtual 196, 3) := by decide +kernel
theorem d_X12_lineOfPlan_23 : decode (qMc M_X12_lineOfPlan) 23 = .ok (.goto 21, 3) := by decide +kernel
theorem d_X12_lineOfPlan_26 : decode (qMc M_X12_lineOfPlan) 26 = .ok (.aload_n 0, 1) := by decide +kernel
theorem d_X12_lineOfPlan_27 : decode (qMc M_X12_lineOfPlan) 27 = .ok (.getfield 222, 3) := by decide +kernel
theorem d_X12_lineOfPlan_30 : decode (qMc M_X12_lineOfPlan) 30 = .ok (.bipush 16, 2) := by decide +kernel
theorem d_X12_lineOfPlan_32 : decode (qMc M_X12_lineOfPlan) 32 = .ok (.if_icmp .ne 12, 3) := by decide +kernel
theorem d_X12_lineOfPlan_35 : decode (qMc M_X12_lineOfPlan) 35 = .ok (.aload_n 0, 1) := by decide +kernel
theorem d_X12_lineOfPlan_36 : decode (qMc M_X12_lineOfPlan) 36 = .ok (.iconst 3, 1) := by decide +kernel
theorem d_X12_lineOfPlan_37 : decode (qMc M_X12_lineOfPlan) 37 = .ok (.aload_n 0, 1) := by decide +kernel
theorem d_X12_lineOfPlan_38 : decode (qMc M_X12_lineOfPlan) 38 = .ok (.getfield 150, 3) := by decide +kernel
theorem d_X12_lineOfPlan_41 : decode (qMc M_X12_lineOfPlan) 41 = .ok (.invokevirtual 196, 3) := by decide +kernel
theorem d_X12_lineOfPlan_44 : decode (qMc M_X12_lineOfPlan) 44 = .ok (.aload_n 0, 1) := by decide +kernel
theorem d_X12_lineOfPlan_45 : decode (qMc M_X12_lineOfPlan) 45 = .ok (.iconst 1, 1) := by decide +kernel
theorem d_X12_lineOfPlan_46 : decode (qMc M_X12_lineOfPlan) 46 = .ok (.bipush 20, 2) := by decide +kernel
theorem d_X12_lineOfPlan_48 : decode (qMc M_X12_lineOfPlan) 48 = .ok (.iconst 0, 1) := by decide +kernel
theorem d_X12_lineOfPlan_49 : decode (qMc M_X12_lineOfPlan) 49 = .ok (.iconst 0, 1) := by decide +kernel
theorem d_X12_lineOfPlan_50 : decode (qMc M_X12_lineOfPlan) 50 = .ok (.iconst 0, 1) := by decide +kernel
theorem d_X12_lineOfPlan_51 : decode (qMc M_X12_lineOfPlan) 51 = .ok (.iconst 0, 1) := by decide +kernel
theorem d_X12_lineOfPlan_52 : decode (qMc M_X12_lineOfPlan) 52 = .ok (.invokevirtual 203, 3) := by decide +kernel
theorem d_X12_lineOfPlan_55 : decode (qMc M_X12_lineOfPlan) 55 = .ok (.ifCond .ne 4, 3) := by decide +kernel
theorem d_X12_lineOfPlan_58 : decode (qMc M_X12_lineOfPlan) 58 = .ok (.return_, 1) := by decide +kernel
theorem d_X12_lineOfPlan_59 : decode (qMc M_X12_lineOfPlan) 59 = .ok (.aload_n 0, 1) := by decide +kernel
theorem d_X12_lineOfPlan_60 : decode (qMc M_X12_lineOfPlan) 60 = .ok (.getfield 35, 3) := by decide +kernel
theorem d_X12_lineOfPlan_63 : decode (qMc M_X12_lineOfPlan) 63 = .ok (.iconst 4, 1) := by decide +kernel
theorem d_X12_lineOfPlan_64 : decode (qMc M_X12_lineOfPlan) 64 = .ok (.aload_n 0, 1) := by decide +kernel
theorem d_X12_lineOfPlan_65 : decode (qMc M_X12_lineOfPlan) 65 = .ok (.getfield 222, 3) := by decide +kernel
theorem d_X12_lineOfPlan_68 : decode (qMc M_X12_lineOfPlan) 68 = .ok (.imul, 1) := by decide +kernel
theorem d_X12_lineOfPlan_69 : decode (qMc M_X12_lineOfPlan) 69 = .ok (.iconst 0, 1) := by decide +kernel
theorem d_X12_lineOfPlan_70 : decode (qMc M_X12_lineOfPlan) 70 = .ok (.iadd, 1) := by decide +kernel
theorem d_X12_lineOfPlan_71 : decode (qMc M_X12_lineOfPlan) 71 = .ok (.aload_n 0, 1) := by decide +kernel
theorem d_X12_lineOfPlan_72 : decode (qMc M_X12_lineOfPlan) 72 = .ok (.iconst 0, 1) := by decide +kernel
theorem d_X12_lineOfPlan_73 : decode (qMc M_X12_lineOfPlan) 73 = .ok (.sipush 999, 3) := by decide +kernel
theorem d_X12_lineOfPlan_76 : decode (qMc M_X12_lineOfPlan) 76 = .ok (.invokevirtual 206, 3) := by decide +kernel
theorem d_X12_lineOfPlan_79 : decode (qMc M_X12_lineOfPlan) 79 = .ok (.iastore, 1) := by decide +kernel
theorem d_X12_lineOfPlan_80 : decode (qMc M_X12_lineOfPlan) 80 = .ok (.aload_n 0, 1) := by decide +kernel
theorem d_X12_lineOfPlan_81 : decode (qMc M_X12_lineOfPlan) 81 = .ok (.invokevirtual 231, 3) := by decide +kernel
theorem d_X12_lineOfPlan_84 : decode (qMc M_X12_lineOfPlan) 84 = .ok (.istore_n 1, 1) := by decide +kernel
theorem d_X12_lineOfPlan_85 : decode (qMc M_X12_lineOfPlan) 85 = .ok (.iload_n 1, 1) := by decide +kernel
theorem d_X12_lineOfPlan_86 : decode (qMc M_X12_lineOfPlan) 86 = .ok (.iconst (-1), 1) := by decide +kernel
theorem d_X12_lineOfPlan_87 : decode (qMc M_X12_lineOfPlan) 87 = .ok (.if_icmp .ne 12, 3) := by decide +kernel
theorem d_X12_lineOfPlan_90 : decode (qMc M_X12_lineOfPlan) 90 = .ok (.aload_n 0, 1) := by decide +kernel
theorem d_X12_lineOfPlan_91 : decode (qMc M_X12_lineOfPlan) 91 = .ok (.iconst 1, 1) := by decide +kernel
theorem d_X12_lineOfPlan_92 : decode (qMc M_X12_lineOfPlan) 92 = .ok (.aload_n 0, 1) := by decide +kernel
theorem d_X12_lineOfPlan_93 : decode (qMc M_X12_lineOfPlan) 93 = .ok (.getfield 150, 3) := by decide +kernel
theorem d_X12_lineOfPlan_96 : decode (qMc M_X12_lineOfPlan) 96 = .ok (.invokevirtual 196, 3) := by decide +kernel
theorem d_X12_lineOfPlan_99 : decode (qMc M_X12_lineOfPlan) 99 = .ok (.aload_n 0, 1) := by decide +kernel
theorem d_X12_lineOfPlan_100 : decode (qMc M_X12_lineOfPlan) 100 = .ok (.getfield 35, 3) := by decide +kernel
theorem d_X12_lineOfPlan_103 : decode (qMc M_X12_lineOfPlan) 103 = .ok (.iconst 4, 1) := by decide +kernel
theorem d_X12_lineOfPlan_104 : decode (qMc M_X12_lineOfPlan) 104 = .ok (.aload_n 0, 1) := by decide +kernel
theorem d_X12_lineOfPlan_105 : decode (qMc M_X12_lineOfPlan) 105 = .ok (.getfield 222, 3) := by decide +kernel
theorem d_X12_lineOfPlan_108 : decode (qMc M_X12_lineOfPlan) 108 = .ok (.imul, 1) := by decide +kernel
theorem d_X12_lineOfPlan_109 : decode (qMc M_X12_lineOfPlan) 109 = .ok (.iconst 1, 1) := by decide +kernel
theorem d_X12_lineOfPlan_110 : decode (qMc M_X12_lineOfPlan) 110 = .ok (.iadd, 1) := by decide +kernel
theorem d_X12_lineOfPlan_111 : decode (qMc M_X12_lineOfPlan) 111 = .ok (.iload_n 1, 1) := by decide +kernel
theorem d_X12_lineOfPlan_112 : decode (qMc M_X12_lineOfPlan) 112 = .ok (.iastore, 1) := by decide +kernel
theorem d_X12_lineOfPlan_113 : decode (qMc M_X12_lineOfPlan) 113 = .ok (.aload_n 0, 1) := by decide +kernel
theorem d_X12_lineOfPlan_114 : decode (qMc M_X12_lineOfPlan) 114 = .ok (.getfield 35, 3) := by decide +kernel
theorem d_X12_lineOfPlan_117 : decode (qMc M_X12_lineOfPlan) 117 = .ok (.iconst 4, 1) := by decide +kernel
theorem d_X12_lineOfPlan_118 : decode (qMc M_X12_lineOfPlan) 118 = .ok (.aload_n 0, 1) := by decide +kernel
theorem d_X12_lineOfPlan_119 : decode (qMc M_X12_lineOfPlan) 119 = .ok (.getfield 222, 3) := by decide +kernel
theorem d_X12_lineOfPlan_122 : decode (qMc M_X12_lineOfPlan) 122 = .ok (.imul, 1) := by decide +kernel
theorem d_X12_lineOfPlan_123 : decode (qMc M_X12_lineOfPlan) 123 = .ok (.iconst 2, 1) := by decide +kernel
theorem d_X12_lineOfPlan_124 : decode (qMc M_X12_lineOfPlan) 124 = .ok (.iadd, 1) := by decide +kernel
theorem d_X12_lineOfPlan_125 : decode (qMc M_X12_lineOfPlan) 125 = .ok (.aload_n 0, 1) := by decide +kernel
theorem d_X12_lineOfPlan_126 : decode (qMc M_X12_lineOfPlan) 126 = .ok (.iconst 0, 1) := by decide +kernel
theorem d_X12_lineOfPlan_127 : decode (qMc M_X12_lineOfPlan) 127 = .ok (.bipush 31, 2) := by decide +kernel
theorem d_X12_lineOfPlan_129 : decode (qMc M_X12_lineOfPlan) 129 = .ok (.invokevirtual 206, 3) := by decide +kernel
theorem d_X12_lineOfPlan_132 : decode (qMc M_X12_lineOfPlan) 132 = .ok (.iastore, 1) := by decide +kernel
theorem d_X12_lineOfPlan_133 : decode (qMc M_X12_lineOfPlan) 133 = .ok (.aload_n 0, 1) := by decide +kernel
theorem d_X12_lineOfPlan_134 : decode (qMc M_X12_lineOfPlan) 134 = .ok (.getfield 35, 3) := by decide +kernel
theorem d_X12_lineOfPlan_137 : decode (qMc M_X12_lineOfPlan) 137 = .ok (.iconst 4, 1) := by decide +kernel
theorem d_X12_lineOfPlan_138 : decode (qMc M_X12_lineOfPlan) 138 = .ok (.aload_n 0, 1) := by decide +kernel
theorem d_X12_lineOfPlan_139 : decode (qMc M_X12_lineOfPlan) 139 = .ok (.getfield 222, 3) := by decide +kernel
theorem d_X12_lineOfPlan_142 : decode (qMc M_X12_lineOfPlan) 142 = .ok (.imul, 1) := by decide +kernel
theorem d_X12_lineOfPlan_143 : decode (qMc M_X12_lineOfPlan) 143 = .ok (.iconst 3, 1) := by decide +kernel
theorem d_X12_lineOfPlan_144 : decode (qMc M_X12_lineOfPlan) 144 = .ok (.iadd, 1) := by decide +kernel
theorem d_X12_lineOfPlan_145 : decode (qMc M_X12_lineOfPlan) 145 = .ok (.iload_n 1, 1) := by decide +kernel
theorem d_X12_lineOfPlan_146 : decode (qMc M_X12_lineOfPlan) 146 = .ok (.ifCond .ne 13, 3) := by decide +kernel
theorem d_X12_lineOfPlan_149 : decode (qMc M_X12_lineOfPlan) 149 = .ok (.aload_n 0, 1) := by decide +kernel
theorem d_X12_lineOfPlan_150 : decode (qMc M_X12_lineOfPlan) 150 = .ok (.iconst 0, 1) := by decide +kernel
theorem d_X12_lineOfPlan_151 : decode (qMc M_X12_lineOfPlan) 151 = .ok (.bipush 7, 2) := by decide +kernel
theorem d_X12_lineOfPlan_153 : decode (qMc M_X12_lineOfPlan) 153 = .ok (.invokevirtual 206, 3) := by decide +kernel
theorem d_X12_lineOfPlan_156 : decode (qMc M_X12_lineOfPlan) 156 = .ok (.goto 18, 3) := by decide +kernel
theorem d_X12_lineOfPlan_159 : decode (qMc M_X12_lineOfPlan) 159 = .ok (.iload_n 1, 1) := by decide +kernel
theorem d_X12_lineOfPlan_160 : decode (qMc M_X12_lineOfPlan) 160 = .ok (.iconst 5, 1) := by decide +kernel
theorem d_X12_lineOfPlan_161 : decode (qMc M_X12_lineOfPlan) 161 = .ok (.if_icmp .ne 12, 3) := by decide +kernel
theorem d_X12_lineOfPlan_164 : decode (qMc M_X12_lineOfPlan) 164 = .ok (.aload_n 0, 1) := by decide +kernel
theorem d_X12_lineOfPlan_165 : decode (qMc M_X12_lineOfPlan) 165 = .ok (.iconst 0, 1) := by decide +kernel
theorem d_X12_lineOfPlan_166 : decode (qMc M_X12_lineOfPlan) 166 = .ok (.iconst 3, 1) := by decide +kernel
theorem d_X12_lineOfPlan_167 : decode (qMc M_X12_lineOfPlan) 167 = .ok (.invokevirtual 206, 3) := by decide +kernel
theorem d_X12_lineOfPlan_170 : decode (qMc M_X12_lineOfPlan) 170 = .ok (.goto 4, 3) := by decide +kernel
theorem d_X12_lineOfPlan_173 : decode (qMc M_X12_lineOfPlan) 173 = .ok (.iconst 0, 1) := by decide +kernel
theorem d_X12_lineOfPlan_174 : decode (qMc M_X12_lineOfPlan) 174 = .ok (.iastore, 1) := by decide +kernel
theorem d_X12_lineOfPlan_175 : decode (qMc M_X12_lineOfPlan) 175 = .ok (.aload_n 0, 1) := by decide +kernel
theorem d_X12_lineOfPlan_176 : decode (qMc M_X12_lineOfPlan) 176 = .ok (.bipush 59, 2) := by decide +kernel
theorem d_X12_lineOfPlan_178 : decode (qMc M_X12_lineOfPlan) 178 = .ok (.invokevirtual 228, 3) := by decide +kernel
theorem d_X12_lineOfPlan_181 : decode (qMc M_X12_lineOfPlan) 181 = .ok (.aload_n 0, 1) := by decide +kernel
theorem d_X12_lineOfPlan_182 : decode (qMc M_X12_lineOfPlan) 182 = .ok (.dup, 1) := by decide +kernel
theorem d_X12_lineOfPlan_183 : decode (qMc M_X12_lineOfPlan) 183 = .ok (.getfield 222, 3) := by decide +kernel
theorem d_X12_lineOfPlan_186 : decode (qMc M_X12_lineOfPlan) 186 = .ok (.iconst 1, 1) := by decide +kernel
theorem d_X12_lineOfPlan_187 : decode (qMc M_X12_lineOfPlan) 187 = .ok (.iadd, 1) := by decide +kernel
theorem d_X12_lineOfPlan_188 : decode (qMc M_X12_lineOfPlan) 188 = .ok (.putfield 222, 3) := by decide +kernel
theorem d_X12_lineOfPlan_191 : decode (qMc M_X12_lineOfPlan) 191 = .ok (.return_, 1) := by decide +kernel
theorem d_X12_lineOfTree_0 : decode (qMc M_X12_lineOfTree) 0 = .ok (.aload_n 0, 1) := by decide +kernel
theorem d_X12_lineOfTree_1 : decode (qMc M_X12_lineOfTree) 1 = .ok (.bipush 11, 2) := by decide +kernel
theorem d_X12_lineOfTree_3 : decode (qMc M_X12_lineOfTree) 3 = .ok (.iconst 5, 1) := by decide +kernel
theorem d_X12_lineOfTree_4 : decode (qMc M_X12_lineOfTree) 4 = .ok (.iconst 5, 1) := by decide +kernel
theorem d_X12_lineOfTree_5 : decode (qMc M_X12_lineOfTree) 5 = .ok (.bipush 16, 2) := by decide +kernel
theorem d_X12_lineOfTree_7 : decode (qMc M_X12_lineOfTree) 7 = .ok (.iconst 5, 1) := by decide +kernel
theorem d_X12_lineOfTree_8 : decode (qMc M_X12_lineOfTree) 8 = .ok (.bipush 18, 2) := by decide +kernel
theorem d_X12_lineOfTree_10 : decode (qMc M_X12_lineOfTree) 10 = .ok (.invokevirtual 185, 3) := by decide +kernel
theorem d_X12_lineOfTree_13 : decode (qMc M_X12_lineOfTree) 13 = .ok (.ifCond .ne 15, 3) := by decide +kernel
theorem d_X12_lineOfTree_16 : decode (qMc M_X12_lineOfTree) 16 = .ok (.aload_n 0, 1) := by decide +kernel
theorem d_X12_lineOfTree_17 : decode (qMc M_X12_lineOfTree) 17 = .ok (.iconst 1, 1) := by decide +kernel
theorem d_X12_lineOfTree_18 : decode (qMc M_X12_lineOfTree) 18 = .ok (.aload_n 0, 1) := by decide +kernel
theorem d_X12_lineOfTree_19 : decode (qMc M_X12_lineOfTree) 19 = .ok (.getfield 150, 3) := by decide +kernel
theorem d_X12_lineOfTree_22 : decode (qMc M_X12_lineOfTree) 22 = .ok (.invokevirtual 196, 3) := by decide +kernel
theorem d_X12_lineOfTree_25 : decode (qMc M_X12_lineOfTree) 25 = .ok (.goto 21, 3) := by decide +kernel
theorem d_X12_lineOfTree_28 : decode (qMc M_X12_lineOfTree) 28 = .ok (.aload_n 0, 1) := by decide +kernel
theorem d_X12_lineOfTree_29 : decode (qMc M_X12_lineOfTree) 29 = .ok (.getfield 222, 3) := by decide +kernel
theorem d_X12_lineOfTree_32 : decode (qMc M_X12_lineOfTree) 32 = .ok (.bipush 16, 2) := by decide +kernel
theorem d_X12_lineOfTree_34 : decode (qMc M_X12_lineOfTree) 34 = .ok (.if_icmp .ne 12, 3) := by decide +kernel
theorem d_X12_lineOfTree_37 : decode (qMc M_X12_lineOfTree) 37 = .ok (.aload_n 0, 1) := by decide +kernel
theorem d_X12_lineOfTree_38 : decode (qMc M_X12_lineOfTree) 38 = .ok (.iconst 3, 1) := by decide +kernel
theorem d_X12_lineOfTree_39 : decode (qMc M_X12_lineOfTree) 39 = .ok (.aload_n 0, 1) := by decide +kernel
theorem d_X12_lineOfTree_40 : decode (qMc M_X12_lineOfTree) 40 = .ok (.getfield 150, 3) := by decide +kernel
theorem d_X12_lineOfTree_43 : decode (qMc M_X12_lineOfTree) 43 = .ok (.invokevirtual 196, 3) := by decide +kernel
theorem d_X12_lineOfTree_46 : decode (qMc M_X12_lineOfTree) 46 = .ok (.aload_n 0, 1) := by decide +kernel
theorem d_X12_lineOfTree_47 : decode (qMc M_X12_lineOfTree) 47 = .ok (.bipush 11, 2) := by decide +kernel
theorem d_X12_lineOfTree_49 : decode (qMc M_X12_lineOfTree) 49 = .ok (.iconst 5, 1) := by decide +kernel
theorem d_X12_lineOfTree_50 : decode (qMc M_X12_lineOfTree) 50 = .ok (.iconst 5, 1) := by decide +kernel
theorem d_X12_lineOfTree_51 : decode (qMc M_X12_lineOfTree) 51 = .ok (.bipush 16, 2) := by decide +kernel
theorem d_X12_lineOfTree_53 : decode (qMc M_X12_lineOfTree) 53 = .ok (.iconst 5, 1) := by decide +kernel
theorem d_X12_lineOfTree_54 : decode (qMc M_X12_lineOfTree) 54 = .ok (.bipush 18, 2) := by decide +kernel
theorem d_X12_lineOfTree_56 : decode (qMc M_X12_lineOfTree) 56 = .ok (.invokevirtual 203, 3) := by decide +kernel
theorem d_X12_lineOfTree_59 : decode (qMc M_X12_lineOfTree) 59 = .ok (.ifCond .ne 4, 3) := by decide +kernel
theorem d_X12_lineOfTree_62 : decode (qMc M_X12_lineOfTree) 62 = .ok (.return_, 1) := by decide +kernel
theorem d_X12_lineOfTree_63 : decode (qMc M_X12_lineOfTree) 63 = .ok (.aload_n 0, 1) := by decide +kernel
theorem d_X12_lineOfTree_64 : decode (qMc M_X12_lineOfTree) 64 = .ok (.invokevirtual 164, 3) := by decide +kernel
theorem d_X12_lineOfTree_67 : decode (qMc M_X12_lineOfTree) 67 = .ok (.aload_n 0, 1) := by decide +kernel
theorem d_X12_lineOfTree_68 : decode (qMc M_X12_lineOfTree) 68 = .ok (.getfield 150, 3) := by decide +kernel
theorem d_X12_lineOfTree_71 : decode (qMc M_X12_lineOfTree) 71 = .ok (.istore_n 1, 1) := by decide +kernel
theorem d_X12_lineOfTree_72 : decode (qMc M_X12_lineOfTree) 72 = .ok (.aload_n 0, 1) := by decide +kernel
theorem d_X12_lineOfTree_73 : decode (qMc M_X12_lineOfTree) 73 = .ok (.iconst 1, 1) := by decide +kernel
theorem d_X12_lineOfTree_74 : decode (qMc M_X12_lineOfTree) 74 = .ok (.bipush 15, 2) := by decide +kernel
theorem d_X12_lineOfTree_76 : decode (qMc M_X12_lineOfTree) 76 = .ok (.invokevirtual 206, 3) := by decide +kernel
theorem d_X12_lineOfTree_79 : decode (qMc M_X12_lineOfTree) 79 = .ok (.istore_n 2, 1) := by decide +kernel
theorem d_X12_lineOfTree_80 : decode (qMc M_X12_lineOfTree) 80 = .ok (.aload_n 0, 1) := by decide +kernel
theorem d_X12_lineOfTree_81 : decode (qMc M_X12_lineOfTree) 81 = .ok (.getfield 141, 3) := by decide +kernel
theorem d_X12_lineOfTree_84 : decode (qMc M_X12_lineOfTree) 84 = .ok (.ifCond .ne 19, 3) := by decide +kernel
theorem d_X12_lineOfTree_87 : decode (qMc M_X12_lineOfTree) 87 = .ok (.aload_n 0, 1) := by decide +kernel
theorem d_X12_lineOfTree_88 : decode (qMc M_X12_lineOfTree) 88 = .ok (.getfield 41, 3) := by decide +kernel
theorem d_X12_lineOfTree_91 : decode (qMc M_X12_lineOfTree) 91 = .ok (.iload_n 2, 1) := by decide +kernel
theorem d_X12_lineOfTree_92 : decode (qMc M_X12_lineOfTree) 92 = .ok (.iaload, 1) := by decide +kernel
theorem d_X12_lineOfTree_93 : decode (qMc M_X12_lineOfTree) 93 = .ok (.iconst (-1), 1) := by decide +kernel
theorem d_X12_lineOfTree_94 : decode (qMc M_X12_lineOfTree) 94 = .ok (.if_icmp .eq 9, 3) := by decide +kernel
theorem d_X12_lineOfTree_97 : decode (qMc M_X12_lineOfTree) 97 = .ok (.aload_n 0, 1) := by decide +kernel
theorem d_X12_lineOfTree_98 : decode (qMc M_X12_lineOfTree) 98 = .ok (.iconst 2, 1) := by decide +kernel
theorem d_X12_lineOfTree_99 : decode (qMc M_X12_lineOfTree) 99 = .ok (.iload_n 1, 1) := by decide +kernel
theorem d_X12_lineOfTree_100 : decode (qMc M_X12_lineOfTree) 100 = .ok (.invokevirtual 196, 3) := by decide +kernel
theorem d_X12_lineOfTree_103 : decode (qMc M_X12_lineOfTree) 103 = .ok (.aload_n 0, 1) := by decide +kernel
theorem d_X12_lineOfTree_104 : decode (qMc M_X12_lineOfTree) 104 = .ok (.iconst 2, 1) := by decide +kernel
theorem d_X12_lineOfTree_105 : decode (qMc M_X12_lineOfTree) 105 = .ok (.iconst 5, 1) := by decide +kernel
theorem d_X12_lineOfTree_106 : decode (qMc M_X12_lineOfTree) 106 = .ok (.bipush 12, 2) := by decide +kernel
theorem d_X12_lineOfTree_108 : decode (qMc M_X12_lineOfTree) 108 = .ok (.bipush 15, 2) := by decide +kernel
theorem d_X12_lineOfTree_110 : decode (qMc M_X12_lineOfTree) 110 = .ok (.bipush 23, 2) := by decide +kernel
theorem d_X12_lineOfTree_112 : decode (qMc M_X12_lineOfTree) 112 = .ok (.iconst 0, 1) := by decide +kernel
theorem d_X12_lineOfTree_113 : decode (qMc M_X12_lineOfTree) 113 = .ok (.invokevirtual 203, 3) := by decide +kernel
theorem d_X12_lineOfTree_116 : decode (qMc M_X12_lineOfTree) 116 = .ok (.ifCond .ne 12, 3) := by decide +kernel
theorem d_X12_lineOfTree_119 : decode (qMc M_X12_lineOfTree) 119 = .ok (.aload_n 0, 1) := by decide +kernel
theorem d_X12_lineOfTree_120 : decode (qMc M_X12_lineOfTree) 120 = .ok (.iconst 1, 1) := by decide +kernel
theorem d_X12_lineOfTree_121 : decode (qMc M_X12_lineOfTree) 121 = .ok (.aload_n 0, 1) := by decide +kernel
theorem d_X12_lineOfTree_122 : decode (qMc M_X12_lineOfTree) 122 = .ok (.getfield 150, 3) := by decide +kernel
theorem d_X12_lineOfTree_125 : decode (qMc M_X12_lineOfTree) 125 = .ok (.invokevirtual 196, 3) := by decide +kernel
theorem d_X12_lineOfTree_128 : decode (qMc M_X12_lineOfTree) 128 = .ok (.aload_n 0, 1) := by decide +kernel
theorem d_X12_lineOfTree_129 : decode (qMc M_X12_lineOfTree) 129 = .ok (.invokevirtual 164, 3) := by decide +kernel
theorem d_X12_lineOfTree_132 : decode (qMc M_X12_lineOfTree) 132 = .ok (.aload_n 0, 1) := by decide +kernel
theorem d_X12_lineOfTree_133 : decode (qMc M_X12_lineOfTree) 133 = .ok (.getfield 150, 3) := by decide +kernel
theorem d_X12_lineOfTree_136 : decode (qMc M_X12_lineOfTree) 136 = .ok (.istore_n 1, 1) := by decide +kernel
theorem d_X12_lineOfTree_137 : decode (qMc M_X12_lineOfTree) 137 = .ok (.aload_n 0, 1) := by decide +kernel
theorem d_X12_lineOfTree_138 : decode (qMc M_X12_lineOfTree) 138 = .ok (.iconst 0, 1) := by decide +kernel
theorem d_X12_lineOfTree_139 : decode (qMc M_X12_lineOfTree) 139 = .ok (.bipush 14, 2) := by decide +kernel
theorem d_X12_lineOfTree_141 : decode (qMc M_X12_lineOfTree) 141 = .ok (.invokevirtual 206, 3) := by decide +kernel
theorem d_X12_lineOfTree_144 : decode (qMc M_X12_lineOfTree) 144 = .ok (.istore_n 3, 1) := by decide +kernel
theorem d_X12_lineOfTree_145 : decode (qMc M_X12_lineOfTree) 145 = .ok (.aload_n 0, 1) := by decide +kernel
theorem d_X12_lineOfTree_146 : decode (qMc M_X12_lineOfTree) 146 = .ok (.getfield 141, 3) := by decide +kernel
theorem d_X12_lineOfTree_149 : decode (qMc M_X12_lineOfTree) 149 = .ok (.ifCond .ne 14, 3) := by decide +kernel
theorem d_X12_lineOfTree_152 : decode (qMc M_X12_lineOfTree) 152 = .ok (.iload_n 3, 1) := by decide +kernel
theorem d_X12_lineOfTree_153 : decode (qMc M_X12_lineOfTree) 153 = .ok (.iload_n 2, 1) := by decide +kernel
theorem d_X12_lineOfTree_154 : decode (qMc M_X12_lineOfTree) 154 = .ok (.if_icmp .lt 9, 3) := by decide +kernel
theorem d_X12_lineOfTree_157 : decode (qMc M_X12_lineOfTree) 157 = .ok (.aload_n 0, 1) := by decide +kernel
theorem d_X12_lineOfTree_158 : decode (qMc M_X12_lineOfTree) 158 = .ok (.iconst 2, 1) := by decide +kernel
theorem d_X12_lineOfTree_159 : decode (qMc M_X12_lineOfTree) 159 = .ok (.iload_n 1, 1) := by decide +kernel
theorem d_X12_lineOfTree_160 : decode (qMc M_X12_lineOfTree) 160 = .ok (.invokevirtual 196, 3) := by decide +kernel
theorem d_X12_lineOfTree_163 : decode (qMc M_X12_lineOfTree) 163 = .ok (.aload_n 0, 1) := by decide +kernel
theorem d_X12_lineOfTree_164 : decode (qMc M_X12_lineOfTree) 164 = .ok (.bipush 59, 2) := by decide +kernel
theorem d_X12_lineOfTree_166 : decode (qMc M_X12_lineOfTree) 166 = .ok (.invokevirtual 228, 3) := by decide +kernel
theorem d_X12_lineOfTree_169 : decode (qMc M_X12_lineOfTree) 169 = .ok (.aload_n 0, 1) := by decide +kernel
theorem d_X12_lineOfTree_170 : decode (qMc M_X12_lineOfTree) 170 = .ok (.getfield 141, 3) := by decide +kernel
theorem d_X12_lineOfTree_173 : decode (qMc M_X12_lineOfTree) 173 = .ok (.ifCond .ne 10, 3) := by decide +kernel
theorem d_X12_lineOfTree_176 : decode (qMc M_X12_lineOfTree) 176 = .ok (.aload_n 0, 1) := by decide +kernel
theorem d_X12_lineOfTree_177 : decode (qMc M_X12_lineOfTree) 177 = .ok (.getfield 41, 3) := by decide +kernel
theorem d_X12_lineOfTree_180 : decode (qMc M_X12_lineOfTree) 180 = .ok (.iload_n 2, 1) := by decide +kernel
theorem d_X12_lineOfTree_181 : decode (qMc M_X12_lineOfTree) 181 = .ok (.iload_n 3, 1) := by decide +kernel
theorem d_X12_lineOfTree_182 : decode (qMc M_X12_lineOfTree) 182 = .ok (.iastore, 1) := by decide +kernel
theorem d_X12_lineOfTree_183 : decode (qMc M_X12_lineOfTree) 183 = .ok (.aload_n 0, 1) := by decide +kernel
theorem d_X12_lineOfTree_184 : decode (qMc M_X12_lineOfTree) 184 = .ok (.dup, 1) := by decide +kernel
theorem d_X12_lineOfTree_185 : decode (qMc M_X12_lineOfTree) 185 = .ok (.getfield 222, 3) := by decide +kernel
theorem d_X12_lineOfTree_188 : decode (qMc M_X12_lineOfTree) 188 = .ok (.iconst 1, 1) := by decide +kernel
theorem d_X12_lineOfTree_189 : decode (qMc M_X12_lineOfTree) 189 = .ok (.iadd, 1) := by decide +kernel
theorem d_X12_lineOfTree_190 : decode (qMc M_X12_lineOfTree) 190 = .ok (.putfield 222, 3) := by decide +kernel
theorem d_X12_lineOfTree_193 : decode (qMc M_X12_lineOfTree) 193 = .ok (.return_, 1) := by decide +kernel
theorem d_X12_text_0 : decode (qMc M_X12_text) 0 = .ok (.aload_n 0, 1) := by decide +kernel
theorem d_X12_text_1 : decode (qMc M_X12_text) 1 = .ok (.iconst 0, 1) := by decide +kernel
theorem d_X12_text_2 : decode (qMc M_X12_text) 2 = .ok (.putfield 127, 3) := by decide +kernel
theorem d_X12_text_5 : decode (qMc M_X12_text) 5 = .ok (.aload_n 0, 1) := by decide +kernel
theorem d_X12_text_6 : decode (qMc M_X12_text) 6 = .ok (.aload_n 0, 1) := by decide +kernel
theorem d_X12_text_7 : decode (qMc M_X12_text) 7 = .ok (.getfield 130, 3) := by decide +kernel
theorem d_X12_text_10 : decode (qMc M_X12_text) 10 = .ok (.putfield 147, 3) := by decide +kernel
theorem d_X12_text_13 : decode (qMc M_X12_text) 13 = .ok (.aload_n 0, 1) := by decide +kernel
theorem d_X12_text_14 : decode (qMc M_X12_text) 14 = .ok (.iconst 0, 1) := by decide +kernel
theorem d_X12_text_15 : decode (qMc M_X12_text) 15 = .ok (.putfield 150, 3) := by decide +kernel
theorem d_X12_text_18 : decode (qMc M_X12_text) 18 = .ok (.aload_n 0, 1) := by decide +kernel
theorem d_X12_text_19 : decode (qMc M_X12_text) 19 = .ok (.iconst 0, 1) := by decide +kernel
theorem d_X12_text_20 : decode (qMc M_X12_text) 20 = .ok (.putfield 141, 3) := by decide +kernel
theorem d_X12_text_23 : decode (qMc M_X12_text) 23 = .ok (.aload_n 0, 1) := by decide +kernel
theorem d_X12_text_24 : decode (qMc M_X12_text) 24 = .ok (.iconst (-1), 1) := by decide +kernel
theorem d_X12_text_25 : decode (qMc M_X12_text) 25 = .ok (.putfield 144, 3) := by decide +kernel
theorem d_X12_text_28 : decode (qMc M_X12_text) 28 = .ok (.aload_n 0, 1) := by decide +kernel
theorem d_X12_text_29 : decode (qMc M_X12_text) 29 = .ok (.iconst 0, 1) := by decide +kernel
theorem d_X12_text_30 : decode (qMc M_X12_text) 30 = .ok (.putfield 222, 3) := by decide +kernel
theorem d_X12_text_33 : decode (qMc M_X12_text) 33 = .ok (.aload_n 0, 1) := by decide +kernel
theorem d_X12_text_34 : decode (qMc M_X12_text) 34 = .ok (.iconst 0, 1) := by decide +kernel
theorem d_X12_text_35 : decode (qMc M_X12_text) 35 = .ok (.putfield 234, 3) := by decide +kernel
theorem d_X12_text_38 : decode (qMc M_X12_text) 38 = .ok (.aload_n 0, 1) := by decide +kernel
theorem d_X12_text_39 : decode (qMc M_X12_text) 39 = .ok (.iconst (-1), 1) := by decide +kernel
theorem d_X12_text_40 : decode (qMc M_X12_text) 40 = .ok (.putfield 9, 3) := by decide +kernel
theorem d_X12_text_43 : decode (qMc M_X12_text) 43 = .ok (.aload_n 0, 1) := by decide +kernel
theorem d_X12_text_44 : decode (qMc M_X12_text) 44 = .ok (.iconst 0, 1) := by decide +kernel
theorem d_X12_text_45 : decode (qMc M_X12_text) 45 = .ok (.putfield 130, 3) := by decide +kernel
theorem d_X12_text_48 : decode (qMc M_X12_text) 48 = .ok (.iload_n 1, 1) := by decide +kernel
theorem d_X12_text_49 : decode (qMc M_X12_text) 49 = .ok (.iconst 0, 1) := by decide +kernel
theorem d_X12_text_50 : decode (qMc M_X12_text) 50 = .ok (.iconst 5, 1) := by decide +kernel
theorem d_X12_text_51 : decode (qMc M_X12_text) 51 = .ok (.invokestatic 137, 3) := by decide +kernel
theorem d_X12_text_54 : decode (qMc M_X12_text) 54 = .ok (.ifCond .ne 5, 3) := by decide +kernel
theorem d_X12_text_57 : decode (qMc M_X12_text) 57 = .ok (.iconst (-1), 1) := by decide +kernel
theorem d_X12_text_58 : decode (qMc M_X12_text) 58 = .ok (.ireturn, 1) := by decide +kernel
theorem d_X12_text_59 : decode (qMc M_X12_text) 59 = .ok (.iconst 0, 1) := by decide +kernel
theorem d_X12_text_60 : decode (qMc M_X12_text) 60 = .ok (.istore_n 2, 1) := by decide +kernel
theorem d_X12_text_61 : decode (qMc M_X12_text) 61 = .ok (.iload_n 2, 1) := by decide +kernel
theorem d_X12_text_62 : decode (qMc M_X12_text) 62 = .ok (.bipush 16, 2) := by decide +kernel
theorem d_X12_text_64 : decode (qMc M_X12_text) 64 = .ok (.if_icmp .ge 16, 3) := by decide +kernel
theorem d_X12_text_67 : decode (qMc M_X12_text) 67 = .ok (.aload_n 0, 1) := by decide +kernel
theorem d_X12_text_68 : decode (qMc M_X12_text) 68 = .ok (.getfield 41, 3) := by decide +kernel
theorem d_X12_text_71 : decode (qMc M_X12_text) 71 = .ok (.iload_n 2, 1) := by decide +kernel
theorem d_X12_text_72 : decode (qMc M_X12_text) 72 = .ok (.iconst (-1), 1) := by decide +kernel
theorem d_X12_text_73 : decode (qMc M_X12_text) 73 = .ok (.iastore, 1) := by decide +kernel
theorem d_X12_text_74 : decode (qMc M_X12_text) 74 = .ok (.iinc 2 1, 3) := by decide +kernel
theorem d_X12_text_77 : decode (qMc M_X12_text) 77 = .ok (.goto (-16), 3) := by decide +kernel
theorem d_X12_text_80 : decode (qMc M_X12_text) 80 = .ok (.aload_n 0, 1) := by decide +kernel
theorem d_X12_text_81 : decode (qMc M_X12_text) 81 = .ok (.invokevirtual 164, 3) := by decide +kernel
theorem d_X12_text_84 : decode (qMc M_X12_text) 84 = .ok (.aload_n 0, 1) := by decide +kernel
theorem d_X12_text_85 : decode (qMc M_X12_text) 85 = .ok (.getfield 141, 3) := by decide +kernel
theorem d_X12_text_88 : decode (qMc M_X12_text) 88 = .ok (.ifCond .ne 49, 3) := by decide +kernel
theorem d_X12_text_91 : decode (qMc M_X12_text) 91 = .ok (.aload_n 0, 1) := by decide +kernel
theorem d_X12_text_92 : decode (qMc M_X12_text) 92 = .ok (.getfield 150, 3) := by decide +kernel
theorem d_X12_text_95 : decode (qMc M_X12_text) 95 = .ok (.aload_n 0, 1) := by decide +kernel
theorem d_X12_text_96 : decode (qMc M_X12_text) 96 = .ok (.getfield 147, 3) := by decide +kernel
theorem d_X12_text_99 : decode (qMc M_X12_text) 99 = .ok (.if_icmp .ge 38, 3) := by decide +kernel
theorem d_X12_text_102 : decode (qMc M_X12_text) 102 = .ok (.iload_n 1, 1) := by decide +kernel
theorem d_X12_text_103 : decode (qMc M_X12_text) 103 = .ok (.iconst 4, 1) := by decide +kernel
theorem d_X12_text_104 : decode (qMc M_X12_text) 104 = .ok (.if_icmp .ge 10, 3) := by decide +kernel
theorem d_X12_text_107 : decode (qMc M_X12_text) 107 = .ok (.aload_n 0, 1) := by decide +kernel
theorem d_X12_text_108 : decode (qMc M_X12_text) 108 = .ok (.invokevirtual 237, 3) := by decide +kernel
theorem d_X12_text_111 : decode (qMc M_X12_text) 111 = .ok (.goto 19, 3) := by decide +kernel
theorem d_X12_text_114 : decode (qMc M_X12_text) 114 = .ok (.iload_n 1, 1) := by decide +kernel
theorem d_X12_text_115 : decode (qMc M_X12_text) 115 = .ok (.iconst 4, 1) := by decide +kernel
theorem d_X12_text_116 : decode (qMc M_X12_text) 116 = .ok (.if_icmp .ne 10, 3) := by decide +kernel
theorem d_X12_text_119 : decode (qMc M_X12_text) 119 = .ok (.aload_n 0, 1) := by decide +kernel
theorem d_X12_text_120 : decode (qMc M_X12_text) 120 = .ok (.invokevirtual 240, 3) := by decide +kernel
theorem d_X12_text_123 : decode (qMc M_X12_text) 123 = .ok (.goto 7, 3) := by decide +kernel
theorem d_X12_text_126 : decode (qMc M_X12_text) 126 = .ok (.aload_n 0, 1) := by decide +kernel
theorem d_X12_text_127 : decode (qMc M_X12_text) 127 = .ok (.invokevirtual 243, 3) := by decide +kernel
theorem d_X12_text_130 : decode (qMc M_X12_text) 130 = .ok (.aload_n 0, 1) := by decide +kernel
theorem d_X12_text_131 : decode (qMc M_X12_text) 131 = .ok (.invokevirtual 164, 3) := by decide +kernel
theorem d_X12_text_134 : decode (qMc M_X12_text) 134 = .ok (.goto (-50), 3) := by decide +kernel
theorem d_X12_text_137 : decode (qMc M_X12_text) 137 = .ok (.aload_n 0, 1) := by decide +kernel
theorem d_X12_text_138 : decode (qMc M_X12_text) 138 = .ok (.aload_n 0, 1) := by decide +kernel
theorem d_X12_text_139 : decode (qMc M_X12_text) 139 = .ok (.getfield 141, 3) := by decide +kernel
theorem d_X12_text_142 : decode (qMc M_X12_text) 142 = .ok (.putfield 234, 3) := by decide +kernel
theorem d_X12_text_145 : decode (qMc M_X12_text) 145 = .ok (.aload_n 0, 1) := by decide +kernel
theorem d_X12_text_146 : decode (qMc M_X12_text) 146 = .ok (.aload_n 0, 1) := by decide +kernel
theorem d_X12_text_147 : decode (qMc M_X12_text) 147 = .ok (.getfield 144, 3) := by decide +kernel
theorem d_X12_text_150 : decode (qMc M_X12_text) 150 = .ok (.putfield 9, 3) := by decide +kernel
theorem d_X12_text_153 : decode (qMc M_X12_text) 153 = .ok (.aload_n 0, 1) := by decide +kernel
theorem d_X12_text_154 : decode (qMc M_X12_text) 154 = .ok (.getfield 141, 3) := by decide +kernel
theorem d_X12_text_157 : decode (qMc M_X12_text) 157 = .ok (.ifCond .eq 5, 3) := by decide +kernel
theorem d_X12_text_160 : decode (qMc M_X12_text) 160 = .ok (.iconst (-1), 1) := by decide +kernel
theorem d_X12_text_161 : decode (qMc M_X12_text) 161 = .ok (.ireturn, 1) := by decide +kernel
theorem d_X12_text_162 : decode (qMc M_X12_text) 162 = .ok (.iload_n 1, 1) := by decide +kernel
theorem d_X12_text_163 : decode (qMc M_X12_text) 163 = .ok (.iconst 4, 1) := by decide +kernel
theorem d_X12_text_164 : decode (qMc M_X12_text) 164 = .ok (.if_icmp .ge 51, 3) := by decide +kernel
theorem d_X12_text_167 : decode (qMc M_X12_text) 167 = .ok (.aload_n 0, 1) := by decide +kernel
theorem d_X12_text_168 : decode (qMc M_X12_text) 168 = .ok (.getfield 26, 3) := by decide +kernel
theorem d_X12_text_171 : decode (qMc M_X12_text) 171 = .ok (.iload_n 1, 1) := by decide +kernel
theorem d_X12_text_172 : decode (qMc M_X12_text) 172 = .ok (.aload_n 0, 1) := by decide +kernel
theorem d_X12_text_173 : decode (qMc M_X12_text) 173 = .ok (.getfield 222, 3) := by decide +kernel
theorem d_X12_text_176 : decode (qMc M_X12_text) 176 = .ok (.iastore, 1) := by decide +kernel
theorem d_X12_text_177 : decode (qMc M_X12_text) 177 = .ok (.iconst 0, 1) := by decide +kernel
theorem d_X12_text_178 : decode (qMc M_X12_text) 178 = .ok (.istore_n 2, 1) := by decide +kernel
theorem d_X12_text_179 : decode (qMc M_X12_text) 179 = .ok (.iload_n 2, 1) := by decide +kernel
theorem d_X12_text_180 : decode (qMc M_X12_text) 180 = .ok (.iconst 4, 1) := by decide +kernel
theorem d_X12_text_181 : decode (qMc M_X12_text) 181 = .ok (.aload_n 0, 1) := by decide +kernel
theorem d_X12_text_182 : decode (qMc M_X12_text) 182 = .ok (.getfield 222, 3) := by decide +kernel
theorem d_X12_text_185 : decode (qMc M_X12_text) 185 = .ok (.imul, 1) := by decide +kernel
theorem d_X12_text_186 : decode (qMc M_X12_text) 186 = .ok (.if_icmp .ge 26, 3) := by decide +kernel
theorem d_X12_text_189 : decode (qMc M_X12_text) 189 = .ok (.aload_n 0, 1) := by decide +kernel
theorem d_X12_text_190 : decode (qMc M_X12_text) 190 = .ok (.getfield 17, 3) := by decide +kernel
theorem d_X12_text_193 : decode (qMc M_X12_text) 193 = .ok (.bipush 96, 2) := by decide +kernel
theorem d_X12_text_195 : decode (qMc M_X12_text) 195 = .ok (.iload_n 1, 1) := by decide +kernel
theorem d_X12_text_196 : decode (qMc M_X12_text) 196 = .ok (.imul, 1) := by decide +kernel
theorem d_X12_text_197 : decode (qMc M_X12_text) 197 = .ok (.iload_n 2, 1) := by decide +kernel
theorem d_X12_text_198 : decode (qMc M_X12_text) 198 = .ok (.iadd, 1) := by decide +kernel
theorem d_X12_text_199 : decode (qMc M_X12_text) 199 = .ok (.aload_n 0, 1) := by decide +kernel
theorem d_X12_text_200 : decode (qMc M_X12_text) 200 = .ok (.getfield 23, 3) := by decide +kernel
theorem d_X12_text_203 : decode (qMc M_X12_text) 203 = .ok (.iload_n 2, 1) := by decide +kernel
theorem d_X12_text_204 : decode (qMc M_X12_text) 204 = .ok (.iaload, 1) := by decide +kernel
theorem d_X12_text_205 : decode (qMc M_X12_text) 205 = .ok (.iastore, 1) := by decide +kernel
theorem d_X12_text_206 : decode (qMc M_X12_text) 206 = .ok (.iinc 2 1, 3) := by decide +kernel
theorem d_X12_text_209 : decode (qMc M_X12_text) 209 = .ok (.goto (-30), 3) := by decide +kernel
theorem d_X12_text_212 : decode (qMc M_X12_text) 212 = .ok (.goto 49, 3) := by decide +kernel
theorem d_X12_text_215 : decode (qMc M_X12_text) 215 = .ok (.iload_n 1, 1) := by decide +kernel
theorem d_X12_text_216 : decode (qMc M_X12_text) 216 = .ok (.iconst 4, 1) := by decide +kernel
theorem d_X12_text_217 : decode (qMc M_X12_text) 217 = .ok (.if_icmp .ne 25, 3) := by decide +kernel
theorem d_X12_text_220 : decode (qMc M_X12_text) 220 = .ok (.aload_n 0, 1) := by decide +kernel
theorem d_X12_text_221 : decode (qMc M_X12_text) 221 = .ok (.aload_n 0, 1) := by decide +kernel
theorem d_X12_text_222 : decode (qMc M_X12_text) 222 = .ok (.getfield 222, 3) := by decide +kernel
theorem d_X12_text_225 : decode (qMc M_X12_text) 225 = .ok (.putfield 246, 3) := by decide +kernel
theorem d_X12_text_228 : decode (qMc M_X12_text) 228 = .ok (.aload_n 0, 1) := by decide +kernel
theorem d_X12_text_229 : decode (qMc M_X12_text) 229 = .ok (.getfield 35, 3) := by decide +kernel
theorem d_X12_text_232 : decode (qMc M_X12_text) 232 = .ok (.aload_n 0, 1) := by decide +kernel
theorem d_X12_text_233 : decode (qMc M_X12_text) 233 = .ok (.getfield 32, 3) := by decide +kernel
theorem d_X12_text_236 : decode (qMc M_X12_text) 236 = .ok (.invokestatic 249, 3) := by decide +kernel
theorem d_X12_text_239 : decode (qMc M_X12_text) 239 = .ok (.goto 22, 3) := by decide +kernel
theorem d_X12_text_242 : decode (qMc M_X12_text) 242 = .ok (.aload_n 0, 1) := by decide +kernel
theorem d_X12_text_243 : decode (qMc M_X12_text) 243 = .ok (.aload_n 0, 1) := by decide +kernel
theorem d_X12_text_244 : decode (qMc M_X12_text) 244 = .ok (.getfield 222, 3) := by decide +kernel
theorem d_X12_text_247 : decode (qMc M_X12_text) 247 = .ok (.putfield 253, 3) := by decide +kernel
theorem d_X12_text_250 : decode (qMc M_X12_text) 250 = .ok (.aload_n 0, 1) := by decide +kernel
theorem d_X12_text_251 : decode (qMc M_X12_text) 251 = .ok (.getfield 41, 3) := by decide +kernel
theorem d_X12_text_254 : decode (qMc M_X12_text) 254 = .ok (.aload_n 0, 1) := by decide +kernel
theorem d_X12_text_255 : decode (qMc M_X12_text) 255 = .ok (.getfield 38, 3) := by decide +kernel
theorem d_X12_text_258 : decode (qMc M_X12_text) 258 = .ok (.invokestatic 249, 3) := by decide +kernel
theorem d_X12_text_261 : decode (qMc M_X12_text) 261 = .ok (.aload_n 0, 1) := by decide +kernel
theorem d_X12_text_262 : decode (qMc M_X12_text) 262 = .ok (.iload_n 1, 1) := by decide +kernel
theorem d_X12_text_263 : decode (qMc M_X12_text) 263 = .ok (.iconst 5, 1) := by decide +kernel
theorem d_X12_text_264 : decode (qMc M_X12_text) 264 = .ok (.if_icmp .ge 7, 3) := by decide +kernel
theorem d_X12_text_267 : decode (qMc M_X12_text) 267 = .ok (.iconst 0, 1) := by decide +kernel
theorem d_X12_text_268 : decode (qMc M_X12_text) 268 = .ok (.goto 7, 3) := by decide +kernel
theorem d_X12_text_271 : decode (qMc M_X12_text) 271 = .ok (.aload_n 0, 1) := by decide +kernel
theorem d_X12_text_272 : decode (qMc M_X12_text) 272 = .ok (.getfield 256, 3) := by decide +kernel
theorem d_X12_text_275 : decode (qMc M_X12_text) 275 = .ok (.putfield 256, 3) := by decide +kernel
theorem d_X12_text_278 : decode (qMc M_X12_text) 278 = .ok (.aload_n 0, 1) := by decide +kernel
theorem d_X12_text_279 : decode (qMc M_X12_text) 279 = .ok (.getfield 222, 3) := by decide +kernel
theorem d_X12_text_282 : decode (qMc M_X12_text) 282 = .ok (.ireturn, 1) := by decide +kernel
theorem d_X12_fault_0 : decode (qMc M_X12_fault) 0 = .ok (.aload_n 0, 1) := by decide +kernel
theorem d_X12_fault_1 : decode (qMc M_X12_fault) 1 = .ok (.iconst 0, 1) := by decide +kernel
theorem d_X12_fault_2 : decode (qMc M_X12_fault) 2 = .ok (.putfield 127, 3) := by decide +kernel
theorem d_X12_fault_5 : decode (qMc M_X12_fault) 5 = .ok (.iload_n 1, 1) := by decide +kernel
theorem d_X12_fault_6 : decode (qMc M_X12_fault) 6 = .ok (.ifCond .ne 10, 3) := by decide +kernel
theorem d_X12_fault_9 : decode (qMc M_X12_fault) 9 = .ok (.aload_n 0, 1) := by decide +kernel
theorem d_X12_fault_10 : decode (qMc M_X12_fault) 10 = .ok (.getfield 234, 3) := by decide +kernel
theorem d_X12_fault_13 : decode (qMc M_X12_fault) 13 = .ok (.goto 16, 3) := by decide +kernel
theorem d_X12_fault_16 : decode (qMc M_X12_fault) 16 = .ok (.iload_n 1, 1) := by decide +kernel
theorem d_X12_fault_17 : decode (qMc M_X12_fault) 17 = .ok (.iconst 1, 1) := by decide +kernel
theorem d_X12_fault_18 : decode (qMc M_X12_fault) 18 = .ok (.if_icmp .ne 10, 3) := by decide +kernel
theorem d_X12_fault_21 : decode (qMc M_X12_fault) 21 = .ok (.aload_n 0, 1) := by decide +kernel
theorem d_X12_fault_22 : decode (qMc M_X12_fault) 22 = .ok (.getfield 9, 3) := by decide +kernel
theorem d_X12_fault_25 : decode (qMc M_X12_fault) 25 = .ok (.goto 4, 3) := by decide +kernel
theorem d_X12_fault_28 : decode (qMc M_X12_fault) 28 = .ok (.iconst (-1), 1) := by decide +kernel
theorem d_X12_fault_29 : decode (qMc M_X12_fault) 29 = .ok (.ireturn, 1) := by decide +kernel
theorem d_X12_caseOf_0 : decode (qMc M_X12_caseOf) 0 = .ok (.bipush 81, 2) := by decide +kernel
theorem d_X12_caseOf_2 : decode (qMc M_X12_caseOf) 2 = .ok (.iload_n 0, 1) := by decide +kernel
theorem d_X12_caseOf_3 : decode (qMc M_X12_caseOf) 3 = .ok (.imul, 1) := by decide +kernel
theorem d_X12_caseOf_4 : decode (qMc M_X12_caseOf) 4 = .ok (.bipush 9, 2) := by decide +kernel
theorem d_X12_caseOf_6 : decode (qMc M_X12_caseOf) 6 = .ok (.iload_n 1, 1) := by decide +kernel
theorem d_X12_caseOf_7 : decode (qMc M_X12_caseOf) 7 = .ok (.imul, 1) := by decide +kernel
theorem d_X12_caseOf_8 : decode (qMc M_X12_caseOf) 8 = .ok (.iadd, 1) := by decide +kernel
theorem d_X12_caseOf_9 : decode (qMc M_X12_caseOf) 9 = .ok (.iload_n 2, 1) := by decide +kernel
theorem d_X12_caseOf_10 : decode (qMc M_X12_caseOf) 10 = .ok (.iadd, 1) := by decide +kernel
theorem d_X12_caseOf_11 : decode (qMc M_X12_caseOf) 11 = .ok (.ireturn, 1) := by decide +kernel
theorem d_X12_fits_0 : decode (qMc M_X12_fits) 0 = .ok (.aload_n 0, 1) := by decide +kernel
theorem d_X12_fits_1 : decode (qMc M_X12_fits) 1 = .ok (.iconst 4, 1) := by decide +kernel
theorem d_X12_fits_2 : decode (qMc M_X12_fits) 2 = .ok (.iload_n 1, 1) := by decide +kernel
theorem d_X12_fits_3 : decode (qMc M_X12_fits) 3 = .ok (.imul, 1) := by decide +kernel
theorem d_X12_fits_4 : decode (qMc M_X12_fits) 4 = .ok (.iaload, 1) := by decide +kernel
theorem d_X12_fits_5 : decode (qMc M_X12_fits) 5 = .ok (.iload_n 2, 1) := by decide +kernel
theorem d_X12_fits_6 : decode (qMc M_X12_fits) 6 = .ok (.invokestatic 259, 3) := by decide +kernel
theorem d_X12_fits_9 : decode (qMc M_X12_fits) 9 = .ok (.ifCond .eq 36, 3) := by decide +kernel
theorem d_X12_fits_12 : decode (qMc M_X12_fits) 12 = .ok (.aload_n 0, 1) := by decide +kernel
theorem d_X12_fits_13 : decode (qMc M_X12_fits) 13 = .ok (.iconst 4, 1) := by decide +kernel
theorem d_X12_fits_14 : decode (qMc M_X12_fits) 14 = .ok (.iload_n 1, 1) := by decide +kernel
theorem d_X12_fits_15 : decode (qMc M_X12_fits) 15 = .ok (.imul, 1) := by decide +kernel
theorem d_X12_fits_16 : decode (qMc M_X12_fits) 16 = .ok (.iconst 1, 1) := by decide +kernel
theorem d_X12_fits_17 : decode (qMc M_X12_fits) 17 = .ok (.iadd, 1) := by decide +kernel
theorem d_X12_fits_18 : decode (qMc M_X12_fits) 18 = .ok (.iaload, 1) := by decide +kernel
theorem d_X12_fits_19 : decode (qMc M_X12_fits) 19 = .ok (.iload_n 3, 1) := by decide +kernel
theorem d_X12_fits_20 : decode (qMc M_X12_fits) 20 = .ok (.invokestatic 259, 3) := by decide +kernel
theorem d_X12_fits_23 : decode (qMc M_X12_fits) 23 = .ok (.ifCond .eq 22, 3) := by decide +kernel
theorem d_X12_fits_26 : decode (qMc M_X12_fits) 26 = .ok (.aload_n 0, 1) := by decide +kernel
theorem d_X12_fits_27 : decode (qMc M_X12_fits) 27 = .ok (.iconst 4, 1) := by decide +kernel
theorem d_X12_fits_28 : decode (qMc M_X12_fits) 28 = .ok (.iload_n 1, 1) := by decide +kernel
theorem d_X12_fits_29 : decode (qMc M_X12_fits) 29 = .ok (.imul, 1) := by decide +kernel
theorem d_X12_fits_30 : decode (qMc M_X12_fits) 30 = .ok (.iconst 2, 1) := by decide +kernel
theorem d_X12_fits_31 : decode (qMc M_X12_fits) 31 = .ok (.iadd, 1) := by decide +kernel
theorem d_X12_fits_32 : decode (qMc M_X12_fits) 32 = .ok (.iaload, 1) := by decide +kernel
theorem d_X12_fits_33 : decode (qMc M_X12_fits) 33 = .ok (.iload 4, 2) := by decide +kernel
theorem d_X12_fits_35 : decode (qMc M_X12_fits) 35 = .ok (.invokestatic 259, 3) := by decide +kernel
theorem d_X12_fits_38 : decode (qMc M_X12_fits) 38 = .ok (.ifCond .eq 7, 3) := by decide +kernel
theorem d_X12_fits_41 : decode (qMc M_X12_fits) 41 = .ok (.iconst 1, 1) := by decide +kernel
theorem d_X12_fits_42 : decode (qMc M_X12_fits) 42 = .ok (.goto 4, 3) := by decide +kernel
theorem d_X12_fits_45 : decode (qMc M_X12_fits) 45 = .ok (.iconst 0, 1) := by decide +kernel
theorem d_X12_fits_46 : decode (qMc M_X12_fits) 46 = .ok (.ireturn, 1) := by decide +kernel
theorem d_X12_laysBook_0 : decode (qMc M_X12_laysBook) 0 = .ok (.iconst 0, 1) := by decide +kernel
theorem d_X12_laysBook_1 : decode (qMc M_X12_laysBook) 1 = .ok (.istore 8, 2) := by decide +kernel
theorem d_X12_laysBook_3 : decode (qMc M_X12_laysBook) 3 = .ok (.iload 8, 2) := by decide +kernel
theorem d_X12_laysBook_5 : decode (qMc M_X12_laysBook) 5 = .ok (.bipush 8, 2) := by decide +kernel
theorem d_X12_laysBook_7 : decode (qMc M_X12_laysBook) 7 = .ok (.if_icmp .ge 205, 3) := by decide +kernel
theorem d_X12_laysBook_10 : decode (qMc M_X12_laysBook) 10 = .ok (.iconst 0, 1) := by decide +kernel
theorem d_X12_laysBook_11 : decode (qMc M_X12_laysBook) 11 = .ok (.istore 9, 2) := by decide +kernel
theorem d_X12_laysBook_13 : decode (qMc M_X12_laysBook) 13 = .ok (.iload 9, 2) := by decide +kernel
theorem d_X12_laysBook_15 : decode (qMc M_X12_laysBook) 15 = .ok (.bipush 9, 2) := by decide +kernel
theorem d_X12_laysBook_17 : decode (qMc M_X12_laysBook) 17 = .ok (.if_icmp .ge 189, 3) := by decide +kernel
theorem d_X12_laysBook_20 : decode (qMc M_X12_laysBook) 20 = .ok (.iconst 0, 1) := by decide +kernel
theorem d_X12_laysBook_21 : decode (qMc M_X12_laysBook) 21 = .ok (.istore 10, 2) := by decide +kernel
theorem d_X12_laysBook_23 : decode (qMc M_X12_laysBook) 23 = .ok (.iload 10, 2) := by decide +kernel
theorem d_X12_laysBook_25 : decode (qMc M_X12_laysBook) 25 = .ok (.bipush 9, 2) := by decide +kernel
theorem d_X12_laysBook_27 : decode (qMc M_X12_laysBook) 27 = .ok (.if_icmp .ge 173, 3) := by decide +kernel
theorem d_X12_laysBook_30 : decode (qMc M_X12_laysBook) 30 = .ok (.iload 8, 2) := by decide +kernel
theorem d_X12_laysBook_32 : decode (qMc M_X12_laysBook) 32 = .ok (.iload 9, 2) := by decide +kernel
theorem d_X12_laysBook_34 : decode (qMc M_X12_laysBook) 34 = .ok (.iload 10, 2) := by decide +kernel
theorem d_X12_laysBook_36 : decode (qMc M_X12_laysBook) 36 = .ok (.invokestatic 263, 3) := by decide +kernel
theorem d_X12_laysBook_39 : decode (qMc M_X12_laysBook) 39 = .ok (.istore 11, 2) := by decide +kernel
theorem d_X12_laysBook_41 : decode (qMc M_X12_laysBook) 41 = .ok (.iconst (-1), 1) := by decide +kernel
theorem d_X12_laysBook_42 : decode (qMc M_X12_laysBook) 42 = .ok (.istore 12, 2) := by decide +kernel
theorem d_X12_laysBook_44 : decode (qMc M_X12_laysBook) 44 = .ok (.iconst 0, 1) := by decide +kernel
theorem d_X12_laysBook_45 : decode (qMc M_X12_laysBook) 45 = .ok (.istore 13, 2) := by decide +kernel
theorem d_X12_laysBook_47 : decode (qMc M_X12_laysBook) 47 = .ok (.iload 13, 2) := by decide +kernel
theorem d_X12_laysBook_49 : decode (qMc M_X12_laysBook) 49 = .ok (.bipush 96, 2) := by decide +kernel
theorem d_X12_laysBook_51 : decode (qMc M_X12_laysBook) 51 = .ok (.if_icmp .ge 82, 3) := by decide +kernel
theorem d_X12_laysBook_54 : decode (qMc M_X12_laysBook) 54 = .ok (.iload 12, 2) := by decide +kernel
theorem d_X12_laysBook_56 : decode (qMc M_X12_laysBook) 56 = .ok (.iconst (-1), 1) := by decide +kernel
theorem d_X12_laysBook_57 : decode (qMc M_X12_laysBook) 57 = .ok (.if_icmp .ne 76, 3) := by decide +kernel
theorem d_X12_laysBook_60 : decode (qMc M_X12_laysBook) 60 = .ok (.iload 8, 2) := by decide +kernel
theorem d_X12_laysBook_62 : decode (qMc M_X12_laysBook) 62 = .ok (.bipush 7, 2) := by decide +kernel
theorem d_X12_laysBook_64 : decode (qMc M_X12_laysBook) 64 = .ok (.if_icmp .eq 69, 3) := by decide +kernel
theorem d_X12_laysBook_67 : decode (qMc M_X12_laysBook) 67 = .ok (.iload_n 3, 1) := by decide +kernel
theorem d_X12_laysBook_68 : decode (qMc M_X12_laysBook) 68 = .ok (.iload 13, 2) := by decide +kernel
theorem d_X12_laysBook_70 : decode (qMc M_X12_laysBook) 70 = .ok (.bipush 24, 2) := by decide +kernel
theorem d_X12_laysBook_72 : decode (qMc M_X12_laysBook) 72 = .ok (.idiv, 1) := by decide +kernel
theorem d_X12_laysBook_73 : decode (qMc M_X12_laysBook) 73 = .ok (.invokestatic 259, 3) := by decide +kernel
theorem d_X12_laysBook_76 : decode (qMc M_X12_laysBook) 76 = .ok (.ifCond .eq 51, 3) := by decide +kernel
theorem d_X12_laysBook_79 : decode (qMc M_X12_laysBook) 79 = .ok (.iload 13, 2) := by decide +kernel
theorem d_X12_laysBook_81 : decode (qMc M_X12_laysBook) 81 = .ok (.bipush 24, 2) := by decide +kernel
theorem d_X12_laysBook_83 : decode (qMc M_X12_laysBook) 83 = .ok (.irem, 1) := by decide +kernel
theorem d_X12_laysBook_84 : decode (qMc M_X12_laysBook) 84 = .ok (.aload_n 2, 1) := by decide +kernel
theorem d_X12_laysBook_85 : decode (qMc M_X12_laysBook) 85 = .ok (.iload 13, 2) := by decide +kernel
theorem d_X12_laysBook_87 : decode (qMc M_X12_laysBook) 87 = .ok (.bipush 24, 2) := by decide +kernel
theorem d_X12_laysBook_89 : decode (qMc M_X12_laysBook) 89 = .ok (.idiv, 1) := by decide +kernel
theorem d_X12_laysBook_90 : decode (qMc M_X12_laysBook) 90 = .ok (.iaload, 1) := by decide +kernel
theorem d_X12_laysBook_91 : decode (qMc M_X12_laysBook) 91 = .ok (.if_icmp .ge 36, 3) := by decide +kernel
theorem d_X12_laysBook_94 : decode (qMc M_X12_laysBook) 94 = .ok (.iload 13, 2) := by decide +kernel
theorem d_X12_laysBook_96 : decode (qMc M_X12_laysBook) 96 = .ok (.iload 4, 2) := by decide +kernel
theorem d_X12_laysBook_98 : decode (qMc M_X12_laysBook) 98 = .ok (.if_icmp .ne 6, 3) := by decide +kernel
theorem d_X12_laysBook_101 : decode (qMc M_X12_laysBook) 101 = .ok (.goto 26, 3) := by decide +kernel
theorem d_X12_laysBook_104 : decode (qMc M_X12_laysBook) 104 = .ok (.aload_n 1, 1) := by decide +kernel
theorem d_X12_laysBook_105 : decode (qMc M_X12_laysBook) 105 = .ok (.iload 13, 2) := by decide +kernel
theorem d_X12_laysBook_107 : decode (qMc M_X12_laysBook) 107 = .ok (.iload 8, 2) := by decide +kernel
theorem d_X12_laysBook_109 : decode (qMc M_X12_laysBook) 109 = .ok (.iload 9, 2) := by decide +kernel
theorem d_X12_laysBook_111 : decode (qMc M_X12_laysBook) 111 = .ok (.iload 10, 2) := by decide +kernel
theorem d_X12_laysBook_113 : decode (qMc M_X12_laysBook) 113 = .ok (.invokestatic 267, 3) := by decide +kernel
theorem d_X12_laysBook_116 : decode (qMc M_X12_laysBook) 116 = .ok (.ifCond .eq 8, 3) := by decide +kernel
theorem d_X12_laysBook_119 : decode (qMc M_X12_laysBook) 119 = .ok (.iload 13, 2) := by decide +kernel
theorem d_X12_laysBook_121 : decode (qMc M_X12_laysBook) 121 = .ok (.goto 4, 3) := by decide +kernel
theorem d_X12_laysBook_124 : decode (qMc M_X12_laysBook) 124 = .ok (.iconst (-1), 1) := by decide +kernel
theorem d_X12_laysBook_125 : decode (qMc M_X12_laysBook) 125 = .ok (.istore 12, 2) := by decide +kernel
theorem d_X12_laysBook_127 : decode (qMc M_X12_laysBook) 127 = .ok (.iinc 13 1, 3) := by decide +kernel
theorem d_X12_laysBook_130 : decode (qMc M_X12_laysBook) 130 = .ok (.goto (-83), 3) := by decide +kernel
theorem d_X12_laysBook_133 : decode (qMc M_X12_laysBook) 133 = .ok (.iload 12, 2) := by decide +kernel
theorem d_X12_laysBook_135 : decode (qMc M_X12_laysBook) 135 = .ok (.iconst (-1), 1) := by decide +kernel
theorem d_X12_laysBook_136 : decode (qMc M_X12_laysBook) 136 = .ok (.if_icmp .ne 8, 3) := by decide +kernel
theorem d_X12_laysBook_139 : decode (qMc M_X12_laysBook) 139 = .ok (.bipush 8, 2) := by decide +kernel
theorem d_X12_laysBook_141 : decode (qMc M_X12_laysBook) 141 = .ok (.goto 23, 3) := by decide +kernel
theorem d_X12_laysBook_144 : decode (qMc M_X12_laysBook) 144 = .ok (.iload 12, 2) := by decide +kernel
theorem d_X12_laysBook_146 : decode (qMc M_X12_laysBook) 146 = .ok (.iload 5, 2) := by decide +kernel
theorem d_X12_laysBook_148 : decode (qMc M_X12_laysBook) 148 = .ok (.if_icmp .ne 8, 3) := by decide +kernel
theorem d_X12_laysBook_151 : decode (qMc M_X12_laysBook) 151 = .ok (.iload 6, 2) := by decide +kernel
theorem d_X12_laysBook_153 : decode (qMc M_X12_laysBook) 153 = .ok (.goto 11, 3) := by decide +kernel
theorem d_X12_laysBook_156 : decode (qMc M_X12_laysBook) 156 = .ok (.aload_n 1, 1) := by decide +kernel
theorem d_X12_laysBook_157 : decode (qMc M_X12_laysBook) 157 = .ok (.iconst 4, 1) := by decide +kernel
theorem d_X12_laysBook_158 : decode (qMc M_X12_laysBook) 158 = .ok (.iload 12, 2) := by decide +kernel
theorem d_X12_laysBook_160 : decode (qMc M_X12_laysBook) 160 = .ok (.imul, 1) := by decide +kernel
theorem d_X12_laysBook_161 : decode (qMc M_X12_laysBook) 161 = .ok (.iconst 3, 1) := by decide +kernel
theorem d_X12_laysBook_162 : decode (qMc M_X12_laysBook) 162 = .ok (.iadd, 1) := by decide +kernel
theorem d_X12_laysBook_163 : decode (qMc M_X12_laysBook) 163 = .ok (.iaload, 1) := by decide +kernel
theorem d_X12_laysBook_164 : decode (qMc M_X12_laysBook) 164 = .ok (.istore 13, 2) := by decide +kernel
theorem d_X12_laysBook_166 : decode (qMc M_X12_laysBook) 166 = .ok (.aload 7, 2) := by decide +kernel
theorem d_X12_laysBook_168 : decode (qMc M_X12_laysBook) 168 = .ok (.iload 11, 2) := by decide +kernel
theorem d_X12_laysBook_170 : decode (qMc M_X12_laysBook) 170 = .ok (.iload 13, 2) := by decide +kernel
theorem d_X12_laysBook_172 : decode (qMc M_X12_laysBook) 172 = .ok (.bipush 8, 2) := by decide +kernel
theorem d_X12_laysBook_174 : decode (qMc M_X12_laysBook) 174 = .ok (.if_icmp .ne 8, 3) := by decide +kernel
theorem d_X12_laysBook_177 : decode (qMc M_X12_laysBook) 177 = .ok (.iload 8, 2) := by decide +kernel
theorem d_X12_laysBook_179 : decode (qMc M_X12_laysBook) 179 = .ok (.goto 5, 3) := by decide +kernel
theorem d_X12_laysBook_182 : decode (qMc M_X12_laysBook) 182 = .ok (.iload 13, 2) := by decide +kernel
theorem d_X12_laysBook_184 : decode (qMc M_X12_laysBook) 184 = .ok (.iastore, 1) := by decide +kernel
theorem d_X12_laysBook_185 : decode (qMc M_X12_laysBook) 185 = .ok (.aload_n 0, 1) := by decide +kernel
theorem d_X12_laysBook_186 : decode (qMc M_X12_laysBook) 186 = .ok (.getfield 89, 3) := by decide +kernel
theorem d_X12_laysBook_189 : decode (qMc M_X12_laysBook) 189 = .ok (.iload 11, 2) := by decide +kernel
theorem d_X12_laysBook_191 : decode (qMc M_X12_laysBook) 191 = .ok (.iload 12, 2) := by decide +kernel
theorem d_X12_laysBook_193 : decode (qMc M_X12_laysBook) 193 = .ok (.iastore, 1) := by decide +kernel
theorem d_X12_laysBook_194 : decode (qMc M_X12_laysBook) 194 = .ok (.iinc 10 1, 3) := by decide +kernel
theorem d_X12_laysBook_197 : decode (qMc M_X12_laysBook) 197 = .ok (.goto (-174), 3) := by decide +kernel
theorem d_X12_laysBook_200 : decode (qMc M_X12_laysBook) 200 = .ok (.iinc 9 1, 3) := by decide +kernel
theorem d_X12_laysBook_203 : decode (qMc M_X12_laysBook) 203 = .ok (.goto (-190), 3) := by decide +kernel
theorem d_X12_laysBook_206 : decode (qMc M_X12_laysBook) 206 = .ok (.iinc 8 1, 3) := by decide +kernel
theorem d_X12_laysBook_209 : decode (qMc M_X12_laysBook) 209 = .ok (.goto (-206), 3) := by decide +kernel
theorem d_X12_laysBook_212 : decode (qMc M_X12_laysBook) 212 = .ok (.return_, 1) := by decide +kernel
theorem d_X12_laysOwn_0 : decode (qMc M_X12_laysOwn) 0 = .ok (.aload_n 0, 1) := by decide +kernel
theorem d_X12_laysOwn_1 : decode (qMc M_X12_laysOwn) 1 = .ok (.aload_n 0, 1) := by decide +kernel
theorem d_X12_laysOwn_2 : decode (qMc M_X12_laysOwn) 2 = .ok (.getfield 17, 3) := by decide +kernel
theorem d_X12_laysOwn_5 : decode (qMc M_X12_laysOwn) 5 = .ok (.aload_n 0, 1) := by decide +kernel
theorem d_X12_laysOwn_6 : decode (qMc M_X12_laysOwn) 6 = .ok (.getfield 26, 3) := by decide +kernel
theorem d_X12_laysOwn_9 : decode (qMc M_X12_laysOwn) 9 = .ok (.bipush 15, 2) := by decide +kernel
theorem d_X12_laysOwn_11 : decode (qMc M_X12_laysOwn) 11 = .ok (.iconst (-1), 1) := by decide +kernel
theorem d_X12_laysOwn_12 : decode (qMc M_X12_laysOwn) 12 = .ok (.iconst (-1), 1) := by decide +kernel
theorem d_X12_laysOwn_13 : decode (qMc M_X12_laysOwn) 13 = .ok (.iconst 0, 1) := by decide +kernel
theorem d_X12_laysOwn_14 : decode (qMc M_X12_laysOwn) 14 = .ok (.aload_n 0, 1) := by decide +kernel
theorem d_X12_laysOwn_15 : decode (qMc M_X12_laysOwn) 15 = .ok (.getfield 86, 3) := by decide +kernel
theorem d_X12_laysOwn_18 : decode (qMc M_X12_laysOwn) 18 = .ok (.invokevirtual 271, 3) := by decide +kernel
theorem d_X12_laysOwn_21 : decode (qMc M_X12_laysOwn) 21 = .ok (.return_, 1) := by decide +kernel
