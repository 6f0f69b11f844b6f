theorem fl_X11_12 : qFL RX11 12 11 0 := ⟨_, _, _, rfl, by decide, Or.inl (qT 402 (by decide +kernel) rfl)⟩
theorem fl_X11_16 : qFL RX11 16 11 1 := ⟨_, _, _, rfl, by decide, Or.inl (qT 403 (by decide +kernel) rfl)⟩
theorem fl_X11_19 : qFL RX11 19 11 2 := ⟨_, _, _, rfl, by decide, Or.inl (qT 404 (by decide +kernel) rfl)⟩
theorem fl_X11_26 : qFL RX11 26 11 3 := ⟨_, _, _, rfl, by decide, Or.inl (qT 405 (by decide +kernel) rfl)⟩
theorem fl_X11_33 : qFL RX11 33 11 4 := ⟨_, _, _, rfl, by decide, Or.inl (qT 406 (by decide +kernel) rfl)⟩
theorem fl_X11_40 : qFL RX11 40 11 5 := ⟨_, _, _, rfl, by decide, Or.inl (qT 407 (by decide +kernel) rfl)⟩
theorem fl_X11_47 : qFL RX11 47 11 6 := ⟨_, _, _, rfl, by decide, Or.inl (qT 408 (by decide +kernel) rfl)⟩
theorem fl_X11_54 : qFL RX11 54 11 7 := ⟨_, _, _, rfl, by decide, Or.inl (qT 409 (by decide +kernel) rfl)⟩
theorem fl_X11_58 : qFL RX11 58 11 8 := ⟨_, _, _, rfl, by decide, Or.inl (qT 410 (by decide +kernel) rfl)⟩
theorem fl_X11_66 : qFL RX11 66 8 4 := ⟨_, _, _, rfl, by decide, Or.inr ⟨_, qTn 179 (w := .fieldLinkNest RX11 66 (TX8 4).1 (TX8 4).2.1 (TX8 4).2.2.1 "BeaconWall") (by decide +kernel)⟩⟩
theorem fl_X11_95 : qFL RX11 95 10 8 := ⟨_, _, _, rfl, by decide, Or.inr ⟨_, qTn 136 (w := .fieldLinkNest RX11 95 (TX10 8).1 (TX10 8).2.1 (TX10 8).2.2.1 "BeaconWall") (by decide +kernel)⟩⟩
theorem fl_X11_106 : qFL RX11 106 10 2 := ⟨_, _, _, rfl, by decide, Or.inr ⟨_, qTn 125 (w := .fieldLinkNest RX11 106 (TX10 2).1 (TX10 2).2.1 (TX10 2).2.2.1 "BeaconWall") (by decide +kernel)⟩⟩
theorem fl_X11_109 : qFL RX11 109 10 3 := ⟨_, _, _, rfl, by decide, Or.inr ⟨_, qTn 128 (w := .fieldLinkNest RX11 109 (TX10 3).1 (TX10 3).2.1 (TX10 3).2.2.1 "BeaconWall") (by decide +kernel)⟩⟩
theorem fl_X11_118 : qFL RX11 118 10 4 := ⟨_, _, _, rfl, by decide, Or.inr ⟨_, qTn 130 (w := .fieldLinkNest RX11 118 (TX10 4).1 (TX10 4).2.1 (TX10 4).2.2.1 "BeaconWall") (by decide +kernel)⟩⟩
theorem fl_X11_128 : qFL RX11 128 8 5 := ⟨_, _, _, rfl, by decide, Or.inr ⟨_, qTn 183 (w := .fieldLinkNest RX11 128 (TX8 5).1 (TX8 5).2.1 (TX8 5).2.2.1 "BeaconWall") (by decide +kernel)⟩⟩
theorem fl_X11_144 : qFL RX11 144 8 0 := ⟨_, _, _, rfl, by decide, Or.inr ⟨_, qTn 171 (w := .fieldLinkNest RX11 144 (TX8 0).1 (TX8 0).2.1 (TX8 0).2.2.1 "BeaconWall") (by decide +kernel)⟩⟩
theorem fl_X11_148 : qFL RX11 148 0 0 := ⟨_, _, _, rfl, by decide, Or.inr ⟨_, qTn 72 (w := .fieldLinkNest RX11 148 (TX0 0).1 (TX0 0).2.1 (TX0 0).2.2.1 "BeaconWall") (by decide +kernel)⟩⟩
theorem fl_X11_154 : qFL RX11 154 2 4 := ⟨_, _, _, rfl, by decide, Or.inr ⟨_, qTn 56 (w := .fieldLinkNest RX11 154 (TX2 4).1 (TX2 4).2.1 (TX2 4).2.2.1 "BeaconWall") (by decide +kernel)⟩⟩
theorem fl_X11_159 : qFL RX11 159 10 0 := ⟨_, _, _, rfl, by decide, Or.inr ⟨_, qTn 120 (w := .fieldLinkNest RX11 159 (TX10 0).1 (TX10 0).2.1 (TX10 0).2.2.1 "BeaconWall") (by decide +kernel)⟩⟩
theorem fl_X11_162 : qFL RX11 162 10 1 := ⟨_, _, _, rfl, by decide, Or.inr ⟨_, qTn 122 (w := .fieldLinkNest RX11 162 (TX10 1).1 (TX10 1).2.1 (TX10 1).2.2.1 "BeaconWall") (by decide +kernel)⟩⟩
theorem fl_X11_165 : qFL RX11 165 10 9 := ⟨_, _, _, rfl, by decide, Or.inr ⟨_, qTn 138 (w := .fieldLinkNest RX11 165 (TX10 9).1 (TX10 9).2.1 (TX10 9).2.2.1 "BeaconWall") (by decide +kernel)⟩⟩
theorem fl_X11_168 : qFL RX11 168 10 10 := ⟨_, _, _, rfl, by decide, Or.inr ⟨_, qTn 141 (w := .fieldLinkNest RX11 168 (TX10 10).1 (TX10 10).2.1 (TX10 10).2.2.1 "BeaconWall") (by decide +kernel)⟩⟩
theorem fl_X11_171 : qFL RX11 171 10 11 := ⟨_, _, _, rfl, by decide, Or.inr ⟨_, qTn 144 (w := .fieldLinkNest RX11 171 (TX10 11).1 (TX10 11).2.1 (TX10 11).2.2.1 "BeaconWall") (by decide +kernel)⟩⟩
theorem fl_X11_174 : qFL RX11 174 6 2 := ⟨_, _, _, rfl, by decide, Or.inr ⟨_, qTn 103 (w := .fieldLinkNest RX11 174 (TX6 2).1 (TX6 2).2.1 (TX6 2).2.2.1 "BeaconWall") (by decide +kernel)⟩⟩
theorem fl_X11_175 : qFL RX11 175 8 2 := ⟨_, _, _, rfl, by decide, Or.inr ⟨_, qTn 175 (w := .fieldLinkNest RX11 175 (TX8 2).1 (TX8 2).2.1 (TX8 2).2.2.1 "BeaconWall") (by decide +kernel)⟩⟩
theorem fl_X11_178 : qFL RX11 178 8 3 := ⟨_, _, _, rfl, by decide, Or.inr ⟨_, qTn 177 (w := .fieldLinkNest RX11 178 (TX8 3).1 (TX8 3).2.1 (TX8 3).2.2.1 "BeaconWall") (by decide +kernel)⟩⟩
theorem fl_X11_181 : qFL RX11 181 8 1 := ⟨_, _, _, rfl, by decide, Or.inr ⟨_, qTn 173 (w := .fieldLinkNest RX11 181 (TX8 1).1 (TX8 1).2.1 (TX8 1).2.2.1 "BeaconWall") (by decide +kernel)⟩⟩
theorem fl_X11_187 : qFL RX11 187 3 3 := ⟨_, _, _, rfl, by decide, Or.inr ⟨_, qTn 214 (w := .fieldLinkNest RX11 187 (TX3 3).1 (TX3 3).2.1 (TX3 3).2.2.1 "BeaconWall") (by decide +kernel)⟩⟩
theorem fl_X11_211 : qFL RX11 211 4 9 := ⟨_, _, _, rfl, by decide, Or.inr ⟨_, qTn 246 (w := .fieldLinkNest RX11 211 (TX4 9).1 (TX4 9).2.1 (TX4 9).2.2.1 "BeaconWall") (by decide +kernel)⟩⟩
theorem fl_X11_224 : qFL RX11 224 4 10 := ⟨_, _, _, rfl, by decide, Or.inr ⟨_, qTn 248 (w := .fieldLinkNest RX11 224 (TX4 10).1 (TX4 10).2.1 (TX4 10).2.2.1 "BeaconWall") (by decide +kernel)⟩⟩
theorem fl_X11_233 : qFL RX11 233 4 7 := ⟨_, _, _, rfl, by decide, Or.inr ⟨_, qTn 242 (w := .fieldLinkNest RX11 233 (TX4 7).1 (TX4 7).2.1 (TX4 7).2.2.1 "BeaconWall") (by decide +kernel)⟩⟩
theorem fl_X11_236 : qFL RX11 236 4 8 := ⟨_, _, _, rfl, by decide, Or.inr ⟨_, qTn 244 (w := .fieldLinkNest RX11 236 (TX4 8).1 (TX4 8).2.1 (TX4 8).2.2.1 "BeaconWall") (by decide +kernel)⟩⟩
theorem fl_X11_243 : qFL RX11 243 0 1 := ⟨_, _, _, rfl, by decide, Or.inr ⟨_, qTn 76 (w := .fieldLinkNest RX11 243 (TX0 1).1 (TX0 1).2.1 (TX0 1).2.2.1 "BeaconWall") (by decide +kernel)⟩⟩
theorem fl_X11_246 : qFL RX11 246 0 2 := ⟨_, _, _, rfl, by decide, Or.inr ⟨_, qTn 80 (w := .fieldLinkNest RX11 246 (TX0 2).1 (TX0 2).2.1 (TX0 2).2.2.1 "BeaconWall") (by decide +kernel)⟩⟩
theorem fl_X11_293 : qFL RX11 293 9 0 := ⟨_, _, _, rfl, by decide, Or.inr ⟨_, qTn 331 (w := .fieldLinkNest RX11 293 (TX9 0).1 (TX9 0).2.1 (TX9 0).2.2.1 "BeaconWall") (by decide +kernel)⟩⟩
theorem fl_X11_320 : qFL RX11 320 7 9 := ⟨_, _, _, rfl, by decide, Or.inr ⟨_, qTn 301 (w := .fieldLinkNest RX11 320 (TX7 9).1 (TX7 9).2.1 (TX7 9).2.2.1 "BeaconWall") (by decide +kernel)⟩⟩
theorem fl_X11_323 : qFL RX11 323 7 8 := ⟨_, _, _, rfl, by decide, Or.inr ⟨_, qTn 298 (w := .fieldLinkNest RX11 323 (TX7 8).1 (TX7 8).2.1 (TX7 8).2.2.1 "BeaconWall") (by decide +kernel)⟩⟩
theorem fl_X11_330 : qFL RX11 330 9 4 := ⟨_, _, _, rfl, by decide, Or.inr ⟨_, qTn 336 (w := .fieldLinkNest RX11 330 (TX9 4).1 (TX9 4).2.1 (TX9 4).2.2.1 "BeaconWall") (by decide +kernel)⟩⟩
theorem fl_X11_336 : qFL RX11 336 7 7 := ⟨_, _, _, rfl, by decide, Or.inr ⟨_, qTn 296 (w := .fieldLinkNest RX11 336 (TX7 7).1 (TX7 7).2.1 (TX7 7).2.2.1 "BeaconWall") (by decide +kernel)⟩⟩
theorem fl_X11_339 : qFL RX11 339 7 0 := ⟨_, _, _, rfl, by decide, Or.inr ⟨_, qTn 286 (w := .fieldLinkNest RX11 339 (TX7 0).1 (TX7 0).2.1 (TX7 0).2.2.1 "BeaconWall") (by decide +kernel)⟩⟩
theorem fl_X11_351 : qFL RX11 351 7 10 := ⟨_, _, _, rfl, by decide, Or.inr ⟨_, qTn 304 (w := .fieldLinkNest RX11 351 (TX7 10).1 (TX7 10).2.1 (TX7 10).2.2.1 "BeaconWall") (by decide +kernel)⟩⟩
theorem fl_X11_374 : qFL RX11 374 9 5 := ⟨_, _, _, rfl, by decide, Or.inr ⟨_, qTn 338 (w := .fieldLinkNest RX11 374 (TX9 5).1 (TX9 5).2.1 (TX9 5).2.2.1 "BeaconWall") (by decide +kernel)⟩⟩
theorem fl_X11_377 : qFL RX11 377 9 6 := ⟨_, _, _, rfl, by decide, Or.inr ⟨_, qTn 340 (w := .fieldLinkNest RX11 377 (TX9 6).1 (TX9 6).2.1 (TX9 6).2.2.1 "BeaconWall") (by decide +kernel)⟩⟩
theorem fl_X11_399 : qFL RX11 399 5 5 := ⟨_, _, _, rfl, by decide, Or.inr ⟨_, qTn 370 (w := .fieldLinkNest RX11 399 (TX5 5).1 (TX5 5).2.1 (TX5 5).2.2.1 "BeaconWall") (by decide +kernel)⟩⟩
theorem fl_X11_402 : qFL RX11 402 5 6 := ⟨_, _, _, rfl, by decide, Or.inr ⟨_, qTn 372 (w := .fieldLinkNest RX11 402 (TX5 6).1 (TX5 6).2.1 (TX5 6).2.2.1 "BeaconWall") (by decide +kernel)⟩⟩
theorem fl_X11_426 : qFL RX11 426 8 6 := ⟨_, _, _, rfl, by decide, Or.inr ⟨_, qTn 185 (w := .fieldLinkNest RX11 426 (TX8 6).1 (TX8 6).2.1 (TX8 6).2.2.1 "BeaconWall") (by decide +kernel)⟩⟩
theorem fl_X0_11 : qFL RX0 11 0 0 := ⟨_, _, _, rfl, by decide, Or.inl (qT 70 (by decide +kernel) rfl)⟩
theorem fl_X0_17 : qFL RX0 17 0 1 := ⟨_, _, _, rfl, by decide, Or.inl (qT 73 (by decide +kernel) rfl)⟩
theorem fl_X0_21 : qFL RX0 21 0 2 := ⟨_, _, _, rfl, by decide, Or.inl (qT 77 (by decide +kernel) rfl)⟩
theorem fl_X0_65 : qFL RX0 65 2 4 := ⟨_, _, _, rfl, by decide, Or.inr ⟨_, qTn 55 (w := .fieldLinkNest RX0 65 (TX2 4).1 (TX2 4).2.1 (TX2 4).2.2.1 "BeaconWall") (by decide +kernel)⟩⟩
theorem fl_X1_9 : qFL RX1 9 1 0 := ⟨_, _, _, rfl, by decide, Or.inl (qT 395 (by decide +kernel) rfl)⟩
theorem fl_X1_15 : qFL RX1 15 1 1 := ⟨_, _, _, rfl, by decide, Or.inl (qT 396 (by decide +kernel) rfl)⟩
theorem fl_X2_9 : qFL RX2 9 2 0 := ⟨_, _, _, rfl, by decide, Or.inl (qT 49 (by decide +kernel) rfl)⟩
theorem fl_X2_15 : qFL RX2 15 2 1 := ⟨_, _, _, rfl, by decide, Or.inl (qT 50 (by decide +kernel) rfl)⟩
theorem fl_X2_18 : qFL RX2 18 2 2 := ⟨_, _, _, rfl, by decide, Or.inl (qT 51 (by decide +kernel) rfl)⟩
theorem fl_X2_21 : qFL RX2 21 2 3 := ⟨_, _, _, rfl, by decide, Or.inl (qT 52 (by decide +kernel) rfl)⟩
theorem fl_X2_24 : qFL RX2 24 2 4 := ⟨_, _, _, rfl, by decide, Or.inl (qT 54 (by decide +kernel) rfl)⟩
theorem fl_X3_11 : qFL RX3 11 3 0 := ⟨_, _, _, rfl, by decide, Or.inl (qT 210 (by decide +kernel) rfl)⟩
theorem fl_X3_15 : qFL RX3 15 3 1 := ⟨_, _, _, rfl, by decide, Or.inl (qT 211 (by decide +kernel) rfl)⟩
theorem fl_X3_19 : qFL RX3 19 3 2 := ⟨_, _, _, rfl, by decide, Or.inl (qT 212 (by decide +kernel) rfl)⟩
theorem fl_X3_23 : qFL RX3 23 3 3 := ⟨_, _, _, rfl, by decide, Or.inl (qT 213 (by decide +kernel) rfl)⟩
theorem fl_X3_27 : qFL RX3 27 8 4 := ⟨_, _, _, rfl, by decide, Or.inr ⟨_, qTn 180 (w := .fieldLinkNest RX3 27 (TX8 4).1 (TX8 4).2.1 (TX8 4).2.2.1 "BeaconWall") (by decide +kernel)⟩⟩
theorem fl_X3_37 : qFL RX3 37 8 5 := ⟨_, _, _, rfl, by decide, Or.inr ⟨_, qTn 182 (w := .fieldLinkNest RX3 37 (TX8 5).1 (TX8 5).2.1 (TX8 5).2.2.1 "BeaconWall") (by decide +kernel)⟩⟩
theorem fl_X3_41 : qFL RX3 41 6 2 := ⟨_, _, _, rfl, by decide, Or.inr ⟨_, qTn 100 (w := .fieldLinkNest RX3 41 (TX6 2).1 (TX6 2).2.1 (TX6 2).2.2.1 "BeaconWall") (by decide +kernel)⟩⟩
theorem fl_X4_11 : qFL RX4 11 4 0 := ⟨_, _, _, rfl, by decide, Or.inl (qT 234 (by decide +kernel) rfl)⟩
theorem fl_X4_15 : qFL RX4 15 4 1 := ⟨_, _, _, rfl, by decide, Or.inl (qT 235 (by decide +kernel) rfl)⟩
theorem fl_X4_19 : qFL RX4 19 4 2 := ⟨_, _, _, rfl, by decide, Or.inl (qT 236 (by decide +kernel) rfl)⟩
theorem fl_X4_22 : qFL RX4 22 4 3 := ⟨_, _, _, rfl, by decide, Or.inl (qT 237 (by decide +kernel) rfl)⟩
theorem fl_X4_25 : qFL RX4 25 4 4 := ⟨_, _, _, rfl, by decide, Or.inl (qT 238 (by decide +kernel) rfl)⟩
theorem fl_X4_28 : qFL RX4 28 4 5 := ⟨_, _, _, rfl, by decide, Or.inl (qT 239 (by decide +kernel) rfl)⟩
theorem fl_X4_31 : qFL RX4 31 4 6 := ⟨_, _, _, rfl, by decide, Or.inl (qT 240 (by decide +kernel) rfl)⟩
theorem fl_X4_43 : qFL RX4 43 4 9 := ⟨_, _, _, rfl, by decide, Or.inl (qT 245 (by decide +kernel) rfl)⟩
theorem fl_X4_52 : qFL RX4 52 4 10 := ⟨_, _, _, rfl, by decide, Or.inl (qT 247 (by decide +kernel) rfl)⟩
theorem fl_X4_124 : qFL RX4 124 2 4 := ⟨_, _, _, rfl, by decide, Or.inr ⟨_, qTn 57 (w := .fieldLinkNest RX4 124 (TX2 4).1 (TX2 4).2.1 (TX2 4).2.2.1 "BeaconWall") (by decide +kernel)⟩⟩
theorem fl_X4_165 : qFL RX4 165 6 2 := ⟨_, _, _, rfl, by decide, Or.inr ⟨_, qTn 104 (w := .fieldLinkNest RX4 165 (TX6 2).1 (TX6 2).2.1 (TX6 2).2.2.1 "BeaconWall") (by decide +kernel)⟩⟩
theorem fl_X5_12 : qFL RX5 12 5 0 := ⟨_, _, _, rfl, by decide, Or.inl (qT 364 (by decide +kernel) rfl)⟩
theorem fl_X5_18 : qFL RX5 18 5 1 := ⟨_, _, _, rfl, by decide, Or.inl (qT 365 (by decide +kernel) rfl)⟩
theorem fl_X5_22 : qFL RX5 22 5 2 := ⟨_, _, _, rfl, by decide, Or.inl (qT 366 (by decide +kernel) rfl)⟩
theorem fl_X5_25 : qFL RX5 25 5 3 := ⟨_, _, _, rfl, by decide, Or.inl (qT 367 (by decide +kernel) rfl)⟩
theorem fl_X5_29 : qFL RX5 29 5 4 := ⟨_, _, _, rfl, by decide, Or.inl (qT 368 (by decide +kernel) rfl)⟩
theorem fl_X5_49 : qFL RX5 49 10 3 := ⟨_, _, _, rfl, by decide, Or.inr ⟨_, qTn 127 (w := .fieldLinkNest RX5 49 (TX10 3).1 (TX10 3).2.1 (TX10 3).2.2.1 "BeaconWall") (by decide +kernel)⟩⟩
theorem fl_X5_56 : qFL RX5 56 10 2 := ⟨_, _, _, rfl, by decide, Or.inr ⟨_, qTn 124 (w := .fieldLinkNest RX5 56 (TX10 2).1 (TX10 2).2.1 (TX10 2).2.2.1 "BeaconWall") (by decide +kernel)⟩⟩
theorem fl_X5_67 : qFL RX5 67 10 0 := ⟨_, _, _, rfl, by decide, Or.inr ⟨_, qTn 119 (w := .fieldLinkNest RX5 67 (TX10 0).1 (TX10 0).2.1 (TX10 0).2.2.1 "BeaconWall") (by decide +kernel)⟩⟩
theorem fl_X6_9 : qFL RX6 9 6 2 := ⟨_, _, _, rfl, by decide, Or.inl (qT 99 (by decide +kernel) rfl)⟩
theorem fl_X6_21 : qFL RX6 21 6 1 := ⟨_, _, _, rfl, by decide, Or.inl (qT 98 (by decide +kernel) rfl)⟩
theorem fl_X6_24 : qFL RX6 24 6 0 := ⟨_, _, _, rfl, by decide, Or.inl (qT 97 (by decide +kernel) rfl)⟩
theorem fl_X7_9 : qFL RX7 9 7 0 := ⟨_, _, _, rfl, by decide, Or.inl (qT 284 (by decide +kernel) rfl)⟩
theorem fl_X7_15 : qFL RX7 15 7 1 := ⟨_, _, _, rfl, by decide, Or.inl (qT 287 (by decide +kernel) rfl)⟩
theorem fl_X7_18 : qFL RX7 18 7 2 := ⟨_, _, _, rfl, by decide, Or.inl (qT 288 (by decide +kernel) rfl)⟩
theorem fl_X7_21 : qFL RX7 21 7 3 := ⟨_, _, _, rfl, by decide, Or.inl (qT 289 (by decide +kernel) rfl)⟩
theorem fl_X7_25 : qFL RX7 25 7 4 := ⟨_, _, _, rfl, by decide, Or.inl (qT 290 (by decide +kernel) rfl)⟩
theorem fl_X7_29 : qFL RX7 29 7 5 := ⟨_, _, _, rfl, by decide, Or.inl (qT 291 (by decide +kernel) rfl)⟩
theorem fl_X7_32 : qFL RX7 32 7 6 := ⟨_, _, _, rfl, by decide, Or.inl (qT 292 (by decide +kernel) rfl)⟩
theorem fl_X7_35 : qFL RX7 35 7 7 := ⟨_, _, _, rfl, by decide, Or.inl (qT 294 (by decide +kernel) rfl)⟩
theorem fl_X7_38 : qFL RX7 38 7 8 := ⟨_, _, _, rfl, by decide, Or.inl (qT 297 (by decide +kernel) rfl)⟩
theorem fl_X7_41 : qFL RX7 41 7 9 := ⟨_, _, _, rfl, by decide, Or.inl (qT 299 (by decide +kernel) rfl)⟩
theorem fl_X7_44 : qFL RX7 44 7 10 := ⟨_, _, _, rfl, by decide, Or.inl (qT 302 (by decide +kernel) rfl)⟩
theorem fl_X7_53 : qFL RX7 53 6 2 := ⟨_, _, _, rfl, by decide, Or.inr ⟨_, qTn 101 (w := .fieldLinkNest RX7 53 (TX6 2).1 (TX6 2).2.1 (TX6 2).2.2.1 "BeaconWall") (by decide +kernel)⟩⟩
theorem fl_X8_12 : qFL RX8 12 8 0 := ⟨_, _, _, rfl, by decide, Or.inl (qT 170 (by decide +kernel) rfl)⟩
theorem fl_X8_18 : qFL RX8 18 8 1 := ⟨_, _, _, rfl, by decide, Or.inl (qT 172 (by decide +kernel) rfl)⟩
theorem fl_X8_26 : qFL RX8 26 8 2 := ⟨_, _, _, rfl, by decide, Or.inl (qT 174 (by decide +kernel) rfl)⟩
theorem fl_X8_30 : qFL RX8 30 8 3 := ⟨_, _, _, rfl, by decide, Or.inl (qT 176 (by decide +kernel) rfl)⟩
theorem fl_X8_36 : qFL RX8 36 8 4 := ⟨_, _, _, rfl, by decide, Or.inl (qT 178 (by decide +kernel) rfl)⟩
theorem fl_X8_40 : qFL RX8 40 8 5 := ⟨_, _, _, rfl, by decide, Or.inl (qT 181 (by decide +kernel) rfl)⟩
theorem fl_X8_43 : qFL RX8 43 8 6 := ⟨_, _, _, rfl, by decide, Or.inl (qT 184 (by decide +kernel) rfl)⟩
theorem fl_X8_60 : qFL RX8 60 10 8 := ⟨_, _, _, rfl, by decide, Or.inr ⟨_, qTn 135 (w := .fieldLinkNest RX8 60 (TX10 8).1 (TX10 8).2.1 (TX10 8).2.2.1 "BeaconWall") (by decide +kernel)⟩⟩
theorem fl_X8_77 : qFL RX8 77 6 2 := ⟨_, _, _, rfl, by decide, Or.inr ⟨_, qTn 102 (w := .fieldLinkNest RX8 77 (TX6 2).1 (TX6 2).2.1 (TX6 2).2.2.1 "BeaconWall") (by decide +kernel)⟩⟩
theorem fl_X8_95 : qFL RX8 95 10 10 := ⟨_, _, _, rfl, by decide, Or.inr ⟨_, qTn 140 (w := .fieldLinkNest RX8 95 (TX10 10).1 (TX10 10).2.1 (TX10 10).2.2.1 "BeaconWall") (by decide +kernel)⟩⟩
theorem fl_X9_12 : qFL RX9 12 9 0 := ⟨_, _, _, rfl, by decide, Or.inl (qT 330 (by decide +kernel) rfl)⟩
theorem fl_X9_18 : qFL RX9 18 9 1 := ⟨_, _, _, rfl, by decide, Or.inl (qT 332 (by decide +kernel) rfl)⟩
theorem fl_X9_24 : qFL RX9 24 9 2 := ⟨_, _, _, rfl, by decide, Or.inl (qT 333 (by decide +kernel) rfl)⟩
theorem fl_X9_28 : qFL RX9 28 9 3 := ⟨_, _, _, rfl, by decide, Or.inl (qT 334 (by decide +kernel) rfl)⟩
theorem fl_X9_32 : qFL RX9 32 9 4 := ⟨_, _, _, rfl, by decide, Or.inl (qT 335 (by decide +kernel) rfl)⟩
theorem fl_X9_36 : qFL RX9 36 9 5 := ⟨_, _, _, rfl, by decide, Or.inl (qT 337 (by decide +kernel) rfl)⟩
theorem fl_X9_39 : qFL RX9 39 9 6 := ⟨_, _, _, rfl, by decide, Or.inl (qT 339 (by decide +kernel) rfl)⟩
theorem fl_X9_67 : qFL RX9 67 7 7 := ⟨_, _, _, rfl, by decide, Or.inr ⟨_, qTn 295 (w := .fieldLinkNest RX9 67 (TX7 7).1 (TX7 7).2.1 (TX7 7).2.2.1 "BeaconWall") (by decide +kernel)⟩⟩
theorem fl_X9_70 : qFL RX9 70 7 9 := ⟨_, _, _, rfl, by decide, Or.inr ⟨_, qTn 300 (w := .fieldLinkNest RX9 70 (TX7 9).1 (TX7 9).2.1 (TX7 9).2.2.1 "BeaconWall") (by decide +kernel)⟩⟩
theorem fl_X9_79 : qFL RX9 79 7 10 := ⟨_, _, _, rfl, by decide, Or.inr ⟨_, qTn 303 (w := .fieldLinkNest RX9 79 (TX7 10).1 (TX7 10).2.1 (TX7 10).2.2.1 "BeaconWall") (by decide +kernel)⟩⟩
theorem fl_X9_82 : qFL RX9 82 0 2 := ⟨_, _, _, rfl, by decide, Or.inr ⟨_, qTn 78 (w := .fieldLinkNest RX9 82 (TX0 2).1 (TX0 2).2.1 (TX0 2).2.2.1 "BeaconWall") (by decide +kernel)⟩⟩
theorem fl_X9_97 : qFL RX9 97 0 0 := ⟨_, _, _, rfl, by decide, Or.inr ⟨_, qTn 71 (w := .fieldLinkNest RX9 97 (TX0 0).1 (TX0 0).2.1 (TX0 0).2.2.1 "BeaconWall") (by decide +kernel)⟩⟩
theorem fl_X9_110 : qFL RX9 110 0 1 := ⟨_, _, _, rfl, by decide, Or.inr ⟨_, qTn 74 (w := .fieldLinkNest RX9 110 (TX0 1).1 (TX0 1).2.1 (TX0 1).2.2.1 "BeaconWall") (by decide +kernel)⟩⟩
theorem fl_X9_117 : qFL RX9 117 2 3 := ⟨_, _, _, rfl, by decide, Or.inr ⟨_, qTn 53 (w := .fieldLinkNest RX9 117 (TX2 3).1 (TX2 3).2.1 (TX2 3).2.2.1 "BeaconWall") (by decide +kernel)⟩⟩
theorem fl_X9_140 : qFL RX9 140 7 0 := ⟨_, _, _, rfl, by decide, Or.inr ⟨_, qTn 285 (w := .fieldLinkNest RX9 140 (TX7 0).1 (TX7 0).2.1 (TX7 0).2.2.1 "BeaconWall") (by decide +kernel)⟩⟩
theorem fl_X10_9 : qFL RX10 9 10 0 := ⟨_, _, _, rfl, by decide, Or.inl (qT 118 (by decide +kernel) rfl)⟩
theorem fl_X10_15 : qFL RX10 15 10 1 := ⟨_, _, _, rfl, by decide, Or.inl (qT 121 (by decide +kernel) rfl)⟩
theorem fl_X10_19 : qFL RX10 19 10 2 := ⟨_, _, _, rfl, by decide, Or.inl (qT 123 (by decide +kernel) rfl)⟩
theorem fl_X10_23 : qFL RX10 23 10 3 := ⟨_, _, _, rfl, by decide, Or.inl (qT 126 (by decide +kernel) rfl)⟩
theorem fl_X10_26 : qFL RX10 26 10 4 := ⟨_, _, _, rfl, by decide, Or.inl (qT 129 (by decide +kernel) rfl)⟩
theorem fl_X10_29 : qFL RX10 29 10 5 := ⟨_, _, _, rfl, by decide, Or.inl (qT 131 (by decide +kernel) rfl)⟩
theorem fl_X10_32 : qFL RX10 32 10 6 := ⟨_, _, _, rfl, by decide, Or.inl (qT 132 (by decide +kernel) rfl)⟩
theorem fl_X10_35 : qFL RX10 35 10 7 := ⟨_, _, _, rfl, by decide, Or.inl (qT 133 (by decide +kernel) rfl)⟩
theorem fl_X10_38 : qFL RX10 38 10 8 := ⟨_, _, _, rfl, by decide, Or.inl (qT 134 (by decide +kernel) rfl)⟩
theorem fl_X10_41 : qFL RX10 41 10 9 := ⟨_, _, _, rfl, by decide, Or.inl (qT 137 (by decide +kernel) rfl)⟩
theorem fl_X10_44 : qFL RX10 44 10 10 := ⟨_, _, _, rfl, by decide, Or.inl (qT 139 (by decide +kernel) rfl)⟩
theorem fl_X10_47 : qFL RX10 47 10 11 := ⟨_, _, _, rfl, by decide, Or.inl (qT 142 (by decide +kernel) rfl)⟩
theorem fl_X10_98 : qFL RX10 98 0 2 := ⟨_, _, _, rfl, by decide, Or.inr ⟨_, qTn 79 (w := .fieldLinkNest RX10 98 (TX0 2).1 (TX0 2).2.1 (TX0 2).2.2.1 "BeaconWall") (by decide +kernel)⟩⟩
theorem fl_X10_103 : qFL RX10 103 0 1 := ⟨_, _, _, rfl, by decide, Or.inr ⟨_, qTn 75 (w := .fieldLinkNest RX10 103 (TX0 1).1 (TX0 1).2.1 (TX0 1).2.2.1 "BeaconWall") (by decide +kernel)⟩⟩
theorem fl_X12_9 : qFL RX12 9 12 7 := ⟨_, _, _, rfl, by decide, Or.inl (qT 1263 (by decide +kernel) rfl)⟩
theorem fl_X12_13 : qFL RX12 13 12 8 := ⟨_, _, _, rfl, by decide, Or.inl (qT 1264 (by decide +kernel) rfl)⟩
theorem fl_X12_17 : qFL RX12 17 12 9 := ⟨_, _, _, rfl, by decide, Or.inl (qT 1265 (by decide +kernel) rfl)⟩
theorem fl_X12_20 : qFL RX12 20 12 10 := ⟨_, _, _, rfl, by decide, Or.inl (qT 1266 (by decide +kernel) rfl)⟩
theorem fl_X12_23 : qFL RX12 23 12 11 := ⟨_, _, _, rfl, by decide, Or.inl (qT 1267 (by decide +kernel) rfl)⟩
theorem fl_X12_26 : qFL RX12 26 12 12 := ⟨_, _, _, rfl, by decide, Or.inl (qT 1268 (by decide +kernel) rfl)⟩
theorem fl_X12_29 : qFL RX12 29 12 13 := ⟨_, _, _, rfl, by decide, Or.inl (qT 1269 (by decide +kernel) rfl)⟩
theorem fl_X12_32 : qFL RX12 32 12 14 := ⟨_, _, _, rfl, by decide, Or.inl (qT 1270 (by decide +kernel) rfl)⟩
theorem fl_X12_35 : qFL RX12 35 12 15 := ⟨_, _, _, rfl, by decide, Or.inl (qT 1271 (by decide +kernel) rfl)⟩
theorem fl_X12_38 : qFL RX12 38 12 16 := ⟨_, _, _, rfl, by decide, Or.inl (qT 1272 (by decide +kernel) rfl)⟩
theorem fl_X12_41 : qFL RX12 41 12 17 := ⟨_, _, _, rfl, by decide, Or.inl (qT 1273 (by decide +kernel) rfl)⟩
theorem fl_X12_44 : qFL RX12 44 12 21 := ⟨_, _, _, rfl, by decide, Or.inl (qT 1277 (by decide +kernel) rfl)⟩
theorem fl_X12_47 : qFL RX12 47 12 22 := ⟨_, _, _, rfl, by decide, Or.inl (qT 1278 (by decide +kernel) rfl)⟩
theorem fl_X12_50 : qFL RX12 50 12 23 := ⟨_, _, _, rfl, by decide, Or.inl (qT 1279 (by decide +kernel) rfl)⟩
theorem fl_X12_53 : qFL RX12 53 12 24 := ⟨_, _, _, rfl, by decide, Or.inl (qT 1280 (by decide +kernel) rfl)⟩
theorem fl_X12_56 : qFL RX12 56 12 26 := ⟨_, _, _, rfl, by decide, Or.inl (qT 1282 (by decide +kernel) rfl)⟩
theorem fl_X12_59 : qFL RX12 59 12 28 := ⟨_, _, _, rfl, by decide, Or.inl (qT 1284 (by decide +kernel) rfl)⟩
theorem fl_X12_62 : qFL RX12 62 12 29 := ⟨_, _, _, rfl, by decide, Or.inl (qT 1285 (by decide +kernel) rfl)⟩
theorem fl_X12_65 : qFL RX12 65 12 30 := ⟨_, _, _, rfl, by decide, Or.inl (qT 1286 (by decide +kernel) rfl)⟩
theorem fl_X12_68 : qFL RX12 68 12 31 := ⟨_, _, _, rfl, by decide, Or.inl (qT 1287 (by decide +kernel) rfl)⟩
theorem fl_X12_71 : qFL RX12 71 12 32 := ⟨_, _, _, rfl, by decide, Or.inl (qT 1288 (by decide +kernel) rfl)⟩
theorem fl_X12_74 : qFL RX12 74 12 33 := ⟨_, _, _, rfl, by decide, Or.inl (qT 1289 (by decide +kernel) rfl)⟩
theorem fl_X12_77 : qFL RX12 77 12 34 := ⟨_, _, _, rfl, by decide, Or.inl (qT 1290 (by decide +kernel) rfl)⟩
theorem fl_X12_80 : qFL RX12 80 12 35 := ⟨_, _, _, rfl, by decide, Or.inl (qT 1291 (by decide +kernel) rfl)⟩
theorem fl_X12_83 : qFL RX12 83 12 36 := ⟨_, _, _, rfl, by decide, Or.inl (qT 1292 (by decide +kernel) rfl)⟩
theorem fl_X12_86 : qFL RX12 86 12 41 := ⟨_, _, _, rfl, by decide, Or.inl (qT 1297 (by decide +kernel) rfl)⟩
theorem fl_X12_89 : qFL RX12 89 12 42 := ⟨_, _, _, rfl, by decide, Or.inl (qT 1298 (by decide +kernel) rfl)⟩
theorem fl_X12_92 : qFL RX12 92 12 43 := ⟨_, _, _, rfl, by decide, Or.inl (qT 1299 (by decide +kernel) rfl)⟩
theorem fl_X12_95 : qFL RX12 95 12 44 := ⟨_, _, _, rfl, by decide, Or.inl (qT 1300 (by decide +kernel) rfl)⟩
theorem fl_X12_98 : qFL RX12 98 12 45 := ⟨_, _, _, rfl, by decide, Or.inl (qT 1301 (by decide +kernel) rfl)⟩
theorem fl_X12_101 : qFL RX12 101 12 46 := ⟨_, _, _, rfl, by decide, Or.inl (qT 1302 (by decide +kernel) rfl)⟩
theorem fl_X12_104 : qFL RX12 104 12 47 := ⟨_, _, _, rfl, by decide, Or.inl (qT 1303 (by decide +kernel) rfl)⟩
theorem fl_X12_108 : qFL RX12 108 12 49 := ⟨_, _, _, rfl, by decide, Or.inl (qT 1305 (by decide +kernel) rfl)⟩
theorem fl_X12_112 : qFL RX12 112 12 50 := ⟨_, _, _, rfl, by decide, Or.inl (qT 1306 (by decide +kernel) rfl)⟩
theorem fl_X12_115 : qFL RX12 115 12 51 := ⟨_, _, _, rfl, by decide, Or.inl (qT 1307 (by decide +kernel) rfl)⟩
theorem fl_X12_118 : qFL RX12 118 12 52 := ⟨_, _, _, rfl, by decide, Or.inl (qT 1308 (by decide +kernel) rfl)⟩
theorem fl_X12_121 : qFL RX12 121 12 53 := ⟨_, _, _, rfl, by decide, Or.inl (qT 1309 (by decide +kernel) rfl)⟩
theorem fl_X12_124 : qFL RX12 124 12 54 := ⟨_, _, _, rfl, by decide, Or.inl (qT 1310 (by decide +kernel) rfl)⟩
theorem fl_X12_130 : qFL RX12 130 12 1 := ⟨_, _, _, rfl, by decide, Or.inl (qT 1257 (by decide +kernel) rfl)⟩
theorem fl_X12_141 : qFL RX12 141 12 4 := ⟨_, _, _, rfl, by decide, Or.inl (qT 1260 (by decide +kernel) rfl)⟩
theorem fl_X12_144 : qFL RX12 144 12 5 := ⟨_, _, _, rfl, by decide, Or.inl (qT 1261 (by decide +kernel) rfl)⟩
theorem fl_X12_147 : qFL RX12 147 12 2 := ⟨_, _, _, rfl, by decide, Or.inl (qT 1258 (by decide +kernel) rfl)⟩
theorem fl_X12_150 : qFL RX12 150 12 3 := ⟨_, _, _, rfl, by decide, Or.inl (qT 1259 (by decide +kernel) rfl)⟩
theorem fl_X12_222 : qFL RX12 222 12 20 := ⟨_, _, _, rfl, by decide, Or.inl (qT 1276 (by decide +kernel) rfl)⟩
theorem fl_X12_234 : qFL RX12 234 12 6 := ⟨_, _, _, rfl, by decide, Or.inl (qT 1262 (by decide +kernel) rfl)⟩
theorem fl_X12_246 : qFL RX12 246 12 18 := ⟨_, _, _, rfl, by decide, Or.inl (qT 1274 (by decide +kernel) rfl)⟩
theorem fl_X12_253 : qFL RX12 253 12 19 := ⟨_, _, _, rfl, by decide, Or.inl (qT 1275 (by decide +kernel) rfl)⟩
theorem fl_X12_256 : qFL RX12 256 12 25 := ⟨_, _, _, rfl, by decide, Or.inl (qT 1281 (by decide +kernel) rfl)⟩
theorem fl_X12_313 : qFL RX12 313 12 40 := ⟨_, _, _, rfl, by decide, Or.inl (qT 1296 (by decide +kernel) rfl)⟩
theorem fl_X12_317 : qFL RX12 317 12 37 := ⟨_, _, _, rfl, by decide, Or.inl (qT 1293 (by decide +kernel) rfl)⟩
theorem fl_X12_320 : qFL RX12 320 12 38 := ⟨_, _, _, rfl, by decide, Or.inl (qT 1294 (by decide +kernel) rfl)⟩
theorem fl_X12_323 : qFL RX12 323 12 27 := ⟨_, _, _, rfl, by decide, Or.inl (qT 1283 (by decide +kernel) rfl)⟩
theorem fl_X12_326 : qFL RX12 326 12 39 := ⟨_, _, _, rfl, by decide, Or.inl (qT 1295 (by decide +kernel) rfl)⟩
theorem fl_X12_360 : qFL RX12 360 12 48 := ⟨_, _, _, rfl, by decide, Or.inl (qT 1304 (by decide +kernel) rfl)⟩
theorem fp_X11_12 : qFP RX11 12 11 0 (.object "BeaconWall$State") true := ⟨_, _, _, rfl, by decide, by decide +kernel, rfl, (fun _ => rfl), Or.inl (qT 402 (by decide +kernel) rfl)⟩
theorem fp_X11_16 : qFP RX11 16 11 1 (.object "BeaconWall$State") true := ⟨_, _, _, rfl, by decide, by decide +kernel, rfl, (fun _ => rfl), Or.inl (qT 403 (by decide +kernel) rfl)⟩
theorem fp_X11_19 : qFP RX11 19 11 2 .boolean false := ⟨_, _, _, rfl, by decide, by decide +kernel, rfl, (fun h => by cases h), Or.inl (qT 404 (by decide +kernel) rfl)⟩
theorem fp_X11_26 : qFP RX11 26 11 3 (.object "BeaconWall$Past") true := ⟨_, _, _, rfl, by decide, by decide +kernel, rfl, (fun _ => rfl), Or.inl (qT 405 (by decide +kernel) rfl)⟩
theorem fp_X11_33 : qFP RX11 33 11 4 (.object "BeaconWall$Reader") true := ⟨_, _, _, rfl, by decide, by decide +kernel, rfl, (fun _ => rfl), Or.inl (qT 406 (by decide +kernel) rfl)⟩
theorem fp_X11_40 : qFP RX11 40 11 5 (.object "BeaconWall$Trials") true := ⟨_, _, _, rfl, by decide, by decide +kernel, rfl, (fun _ => rfl), Or.inl (qT 407 (by decide +kernel) rfl)⟩
theorem fp_X11_47 : qFP RX11 47 11 6 (.object "BeaconWall$Rounds") true := ⟨_, _, _, rfl, by decide, by decide +kernel, rfl, (fun _ => rfl), Or.inl (qT 408 (by decide +kernel) rfl)⟩
theorem fp_X11_54 : qFP RX11 54 11 7 (.object "BeaconWall$Forebears") true := ⟨_, _, _, rfl, by decide, by decide +kernel, rfl, (fun _ => rfl), Or.inl (qT 409 (by decide +kernel) rfl)⟩
theorem fp_X11_58 : qFP RX11 58 11 8 (.array .int) true := ⟨_, _, _, rfl, by decide, by decide +kernel, rfl, (fun _ => rfl), Or.inl (qT 410 (by decide +kernel) rfl)⟩
theorem fp_X11_345 : qFP RX11 345 7 6 .int false := ⟨_, _, _, rfl, by decide, by decide +kernel, rfl, (fun h => by cases h), Or.inr ⟨rfl, _, qTn 293 (w := .fieldLinkNest RX11 345 (TX7 6).1 (TX7 6).2.1 (TX7 6).2.2.1 "BeaconWall") (by decide +kernel)⟩⟩
theorem fp_X0_11 : qFP RX0 11 0 0 (.array (.object "BeaconWall$Page")) true := ⟨_, _, _, rfl, by decide, by decide +kernel, rfl, (fun _ => rfl), Or.inl (qT 70 (by decide +kernel) rfl)⟩
theorem fp_X0_17 : qFP RX0 17 0 1 (.array .int) true := ⟨_, _, _, rfl, by decide, by decide +kernel, rfl, (fun _ => rfl), Or.inl (qT 73 (by decide +kernel) rfl)⟩
theorem fp_X0_21 : qFP RX0 21 0 2 (.array .int) true := ⟨_, _, _, rfl, by decide, by decide +kernel, rfl, (fun _ => rfl), Or.inl (qT 77 (by decide +kernel) rfl)⟩
theorem fp_X1_9 : qFP RX1 9 1 0 (.array .long) false := ⟨_, _, _, rfl, by decide, by decide +kernel, rfl, (fun h => by cases h), Or.inl (qT 395 (by decide +kernel) rfl)⟩
theorem fp_X1_15 : qFP RX1 15 1 1 (.array .long) false := ⟨_, _, _, rfl, by decide, by decide +kernel, rfl, (fun h => by cases h), Or.inl (qT 396 (by decide +kernel) rfl)⟩
theorem fp_X2_9 : qFP RX2 9 2 0 (.array .int) true := ⟨_, _, _, rfl, by decide, by decide +kernel, rfl, (fun _ => rfl), Or.inl (qT 49 (by decide +kernel) rfl)⟩
theorem fp_X2_15 : qFP RX2 15 2 1 (.array .int) true := ⟨_, _, _, rfl, by decide, by decide +kernel, rfl, (fun _ => rfl), Or.inl (qT 50 (by decide +kernel) rfl)⟩
theorem fp_X2_18 : qFP RX2 18 2 2 (.array .int) true := ⟨_, _, _, rfl, by decide, by decide +kernel, rfl, (fun _ => rfl), Or.inl (qT 51 (by decide +kernel) rfl)⟩
theorem fp_X2_21 : qFP RX2 21 2 3 (.array .int) true := ⟨_, _, _, rfl, by decide, by decide +kernel, rfl, (fun _ => rfl), Or.inl (qT 52 (by decide +kernel) rfl)⟩
theorem fp_X2_24 : qFP RX2 24 2 4 .int false := ⟨_, _, _, rfl, by decide, by decide +kernel, rfl, (fun h => by cases h), Or.inl (qT 54 (by decide +kernel) rfl)⟩
theorem fp_X3_11 : qFP RX3 11 3 0 (.array (.object "BeaconWall$Wall")) true := ⟨_, _, _, rfl, by decide, by decide +kernel, rfl, (fun _ => rfl), Or.inl (qT 210 (by decide +kernel) rfl)⟩
theorem fp_X3_15 : qFP RX3 15 3 1 (.array .int) true := ⟨_, _, _, rfl, by decide, by decide +kernel, rfl, (fun _ => rfl), Or.inl (qT 211 (by decide +kernel) rfl)⟩
theorem fp_X3_19 : qFP RX3 19 3 2 .int false := ⟨_, _, _, rfl, by decide, by decide +kernel, rfl, (fun h => by cases h), Or.inl (qT 212 (by decide +kernel) rfl)⟩
theorem fp_X3_23 : qFP RX3 23 3 3 .int false := ⟨_, _, _, rfl, by decide, by decide +kernel, rfl, (fun h => by cases h), Or.inl (qT 213 (by decide +kernel) rfl)⟩
theorem fp_X4_11 : qFP RX4 11 4 0 (.array .int) true := ⟨_, _, _, rfl, by decide, by decide +kernel, rfl, (fun _ => rfl), Or.inl (qT 234 (by decide +kernel) rfl)⟩
theorem fp_X4_15 : qFP RX4 15 4 1 .int false := ⟨_, _, _, rfl, by decide, by decide +kernel, rfl, (fun h => by cases h), Or.inl (qT 235 (by decide +kernel) rfl)⟩
theorem fp_X4_19 : qFP RX4 19 4 2 (.array .int) true := ⟨_, _, _, rfl, by decide, by decide +kernel, rfl, (fun _ => rfl), Or.inl (qT 236 (by decide +kernel) rfl)⟩
theorem fp_X4_22 : qFP RX4 22 4 3 (.array .int) true := ⟨_, _, _, rfl, by decide, by decide +kernel, rfl, (fun _ => rfl), Or.inl (qT 237 (by decide +kernel) rfl)⟩
theorem fp_X4_25 : qFP RX4 25 4 4 (.array .int) true := ⟨_, _, _, rfl, by decide, by decide +kernel, rfl, (fun _ => rfl), Or.inl (qT 238 (by decide +kernel) rfl)⟩
theorem fp_X4_28 : qFP RX4 28 4 5 .int false := ⟨_, _, _, rfl, by decide, by decide +kernel, rfl, (fun h => by cases h), Or.inl (qT 239 (by decide +kernel) rfl)⟩
theorem fp_X4_31 : qFP RX4 31 4 6 .int false := ⟨_, _, _, rfl, by decide, by decide +kernel, rfl, (fun h => by cases h), Or.inl (qT 240 (by decide +kernel) rfl)⟩
theorem fp_X4_34 : qFP RX4 34 4 7 .int false := ⟨_, _, _, rfl, by decide, by decide +kernel, rfl, (fun h => by cases h), Or.inl (qT 241 (by decide +kernel) rfl)⟩
theorem fp_X4_37 : qFP RX4 37 4 8 .int false := ⟨_, _, _, rfl, by decide, by decide +kernel, rfl, (fun h => by cases h), Or.inl (qT 243 (by decide +kernel) rfl)⟩
theorem fp_X4_43 : qFP RX4 43 4 9 (.object "BeaconWall$Page") true := ⟨_, _, _, rfl, by decide, by decide +kernel, rfl, (fun _ => rfl), Or.inl (qT 245 (by decide +kernel) rfl)⟩
theorem fp_X4_52 : qFP RX4 52 4 10 (.object "BeaconWall$Rows") true := ⟨_, _, _, rfl, by decide, by decide +kernel, rfl, (fun _ => rfl), Or.inl (qT 247 (by decide +kernel) rfl)⟩
theorem fp_X5_12 : qFP RX5 12 5 0 (.object "BeaconWall$Wall") true := ⟨_, _, _, rfl, by decide, by decide +kernel, rfl, (fun _ => rfl), Or.inl (qT 364 (by decide +kernel) rfl)⟩
theorem fp_X5_18 : qFP RX5 18 5 1 (.array .long) true := ⟨_, _, _, rfl, by decide, by decide +kernel, rfl, (fun _ => rfl), Or.inl (qT 365 (by decide +kernel) rfl)⟩
theorem fp_X5_22 : qFP RX5 22 5 2 (.array .long) true := ⟨_, _, _, rfl, by decide, by decide +kernel, rfl, (fun _ => rfl), Or.inl (qT 366 (by decide +kernel) rfl)⟩
theorem fp_X5_25 : qFP RX5 25 5 3 (.array .int) true := ⟨_, _, _, rfl, by decide, by decide +kernel, rfl, (fun _ => rfl), Or.inl (qT 367 (by decide +kernel) rfl)⟩
theorem fp_X5_29 : qFP RX5 29 5 4 (.array .int) true := ⟨_, _, _, rfl, by decide, by decide +kernel, rfl, (fun _ => rfl), Or.inl (qT 368 (by decide +kernel) rfl)⟩
theorem fp_X5_32 : qFP RX5 32 5 5 .int false := ⟨_, _, _, rfl, by decide, by decide +kernel, rfl, (fun h => by cases h), Or.inl (qT 369 (by decide +kernel) rfl)⟩
theorem fp_X5_36 : qFP RX5 36 5 6 .int false := ⟨_, _, _, rfl, by decide, by decide +kernel, rfl, (fun h => by cases h), Or.inl (qT 371 (by decide +kernel) rfl)⟩
theorem fp_X6_9 : qFP RX6 9 6 2 .int false := ⟨_, _, _, rfl, by decide, by decide +kernel, rfl, (fun h => by cases h), Or.inl (qT 99 (by decide +kernel) rfl)⟩
theorem fp_X6_21 : qFP RX6 21 6 1 .int true := ⟨_, _, _, rfl, by decide, by decide +kernel, rfl, (fun _ => rfl), Or.inl (qT 98 (by decide +kernel) rfl)⟩
theorem fp_X6_24 : qFP RX6 24 6 0 (.array .int) true := ⟨_, _, _, rfl, by decide, by decide +kernel, rfl, (fun _ => rfl), Or.inl (qT 97 (by decide +kernel) rfl)⟩
theorem fp_X7_9 : qFP RX7 9 7 0 (.array .int) true := ⟨_, _, _, rfl, by decide, by decide +kernel, rfl, (fun _ => rfl), Or.inl (qT 284 (by decide +kernel) rfl)⟩
theorem fp_X7_15 : qFP RX7 15 7 1 (.array .int) true := ⟨_, _, _, rfl, by decide, by decide +kernel, rfl, (fun _ => rfl), Or.inl (qT 287 (by decide +kernel) rfl)⟩
theorem fp_X7_18 : qFP RX7 18 7 2 (.array .int) true := ⟨_, _, _, rfl, by decide, by decide +kernel, rfl, (fun _ => rfl), Or.inl (qT 288 (by decide +kernel) rfl)⟩
theorem fp_X7_21 : qFP RX7 21 7 3 .int false := ⟨_, _, _, rfl, by decide, by decide +kernel, rfl, (fun h => by cases h), Or.inl (qT 289 (by decide +kernel) rfl)⟩
theorem fp_X7_25 : qFP RX7 25 7 4 .boolean false := ⟨_, _, _, rfl, by decide, by decide +kernel, rfl, (fun h => by cases h), Or.inl (qT 290 (by decide +kernel) rfl)⟩
theorem fp_X7_29 : qFP RX7 29 7 5 .boolean false := ⟨_, _, _, rfl, by decide, by decide +kernel, rfl, (fun h => by cases h), Or.inl (qT 291 (by decide +kernel) rfl)⟩
theorem fp_X7_32 : qFP RX7 32 7 6 .int false := ⟨_, _, _, rfl, by decide, by decide +kernel, rfl, (fun h => by cases h), Or.inl (qT 292 (by decide +kernel) rfl)⟩
theorem fp_X7_35 : qFP RX7 35 7 7 .int false := ⟨_, _, _, rfl, by decide, by decide +kernel, rfl, (fun h => by cases h), Or.inl (qT 294 (by decide +kernel) rfl)⟩
theorem fp_X7_38 : qFP RX7 38 7 8 .int false := ⟨_, _, _, rfl, by decide, by decide +kernel, rfl, (fun h => by cases h), Or.inl (qT 297 (by decide +kernel) rfl)⟩
theorem fp_X7_41 : qFP RX7 41 7 9 .int false := ⟨_, _, _, rfl, by decide, by decide +kernel, rfl, (fun h => by cases h), Or.inl (qT 299 (by decide +kernel) rfl)⟩
theorem fp_X7_44 : qFP RX7 44 7 10 .int false := ⟨_, _, _, rfl, by decide, by decide +kernel, rfl, (fun h => by cases h), Or.inl (qT 302 (by decide +kernel) rfl)⟩
theorem fp_X8_12 : qFP RX8 12 8 0 (.object "BeaconWall$Book") true := ⟨_, _, _, rfl, by decide, by decide +kernel, rfl, (fun _ => rfl), Or.inl (qT 170 (by decide +kernel) rfl)⟩
theorem fp_X8_18 : qFP RX8 18 8 1 (.object "BeaconWall$Book") true := ⟨_, _, _, rfl, by decide, by decide +kernel, rfl, (fun _ => rfl), Or.inl (qT 172 (by decide +kernel) rfl)⟩
theorem fp_X8_26 : qFP RX8 26 8 2 (.object "BeaconWall$Rows") true := ⟨_, _, _, rfl, by decide, by decide +kernel, rfl, (fun _ => rfl), Or.inl (qT 174 (by decide +kernel) rfl)⟩
theorem fp_X8_30 : qFP RX8 30 8 3 (.object "BeaconWall$Rows") true := ⟨_, _, _, rfl, by decide, by decide +kernel, rfl, (fun _ => rfl), Or.inl (qT 176 (by decide +kernel) rfl)⟩
theorem fp_X8_36 : qFP RX8 36 8 4 (.object "BeaconWall$Wall") true := ⟨_, _, _, rfl, by decide, by decide +kernel, rfl, (fun _ => rfl), Or.inl (qT 178 (by decide +kernel) rfl)⟩
theorem fp_X8_40 : qFP RX8 40 8 5 (.object "BeaconWall$Rows") true := ⟨_, _, _, rfl, by decide, by decide +kernel, rfl, (fun _ => rfl), Or.inl (qT 181 (by decide +kernel) rfl)⟩
theorem fp_X8_43 : qFP RX8 43 8 6 (.object "BeaconWall$Rows") true := ⟨_, _, _, rfl, by decide, by decide +kernel, rfl, (fun _ => rfl), Or.inl (qT 184 (by decide +kernel) rfl)⟩
theorem fp_X8_60 : qFP RX8 60 10 8 .int false := ⟨_, _, _, rfl, by decide, by decide +kernel, rfl, (fun h => by cases h), Or.inr ⟨rfl, _, qTn 135 (w := .fieldLinkNest RX8 60 (TX10 8).1 (TX10 8).2.1 (TX10 8).2.2.1 "BeaconWall") (by decide +kernel)⟩⟩
theorem fp_X8_95 : qFP RX8 95 10 10 .int false := ⟨_, _, _, rfl, by decide, by decide +kernel, rfl, (fun h => by cases h), Or.inr ⟨rfl, _, qTn 140 (w := .fieldLinkNest RX8 95 (TX10 10).1 (TX10 10).2.1 (TX10 10).2.2.1 "BeaconWall") (by decide +kernel)⟩⟩
theorem fp_X8_98 : qFP RX8 98 10 11 .int false := ⟨_, _, _, rfl, by decide, by decide +kernel, rfl, (fun h => by cases h), Or.inr ⟨rfl, _, qTn 143 (w := .fieldLinkNest RX8 98 (TX10 11).1 (TX10 11).2.1 (TX10 11).2.2.1 "BeaconWall") (by decide +kernel)⟩⟩
theorem fp_X9_12 : qFP RX9 12 9 0 (.object "BeaconWall$Run") true := ⟨_, _, _, rfl, by decide, by decide +kernel, rfl, (fun _ => rfl), Or.inl (qT 330 (by decide +kernel) rfl)⟩
theorem fp_X9_18 : qFP RX9 18 9 1 (.object "BeaconWall$Run") true := ⟨_, _, _, rfl, by decide, by decide +kernel, rfl, (fun _ => rfl), Or.inl (qT 332 (by decide +kernel) rfl)⟩
theorem fp_X9_24 : qFP RX9 24 9 2 (.object "BeaconWall$Book") true := ⟨_, _, _, rfl, by decide, by decide +kernel, rfl, (fun _ => rfl), Or.inl (qT 333 (by decide +kernel) rfl)⟩
theorem fp_X9_28 : qFP RX9 28 9 3 (.array .int) true := ⟨_, _, _, rfl, by decide, by decide +kernel, rfl, (fun _ => rfl), Or.inl (qT 334 (by decide +kernel) rfl)⟩
theorem fp_X9_32 : qFP RX9 32 9 4 .int false := ⟨_, _, _, rfl, by decide, by decide +kernel, rfl, (fun h => by cases h), Or.inl (qT 335 (by decide +kernel) rfl)⟩
theorem fp_X9_36 : qFP RX9 36 9 5 .int false := ⟨_, _, _, rfl, by decide, by decide +kernel, rfl, (fun h => by cases h), Or.inl (qT 337 (by decide +kernel) rfl)⟩
theorem fp_X9_39 : qFP RX9 39 9 6 .int false := ⟨_, _, _, rfl, by decide, by decide +kernel, rfl, (fun h => by cases h), Or.inl (qT 339 (by decide +kernel) rfl)⟩
theorem fp_X10_9 : qFP RX10 9 10 0 .int false := ⟨_, _, _, rfl, by decide, by decide +kernel, rfl, (fun h => by cases h), Or.inl (qT 118 (by decide +kernel) rfl)⟩
theorem fp_X10_15 : qFP RX10 15 10 1 .boolean false := ⟨_, _, _, rfl, by decide, by decide +kernel, rfl, (fun h => by cases h), Or.inl (qT 121 (by decide +kernel) rfl)⟩
theorem fp_X10_19 : qFP RX10 19 10 2 (.array .int) true := ⟨_, _, _, rfl, by decide, by decide +kernel, rfl, (fun _ => rfl), Or.inl (qT 123 (by decide +kernel) rfl)⟩
theorem fp_X10_23 : qFP RX10 23 10 3 (.array .int) true := ⟨_, _, _, rfl, by decide, by decide +kernel, rfl, (fun _ => rfl), Or.inl (qT 126 (by decide +kernel) rfl)⟩
theorem fp_X10_26 : qFP RX10 26 10 4 (.array .int) true := ⟨_, _, _, rfl, by decide, by decide +kernel, rfl, (fun _ => rfl), Or.inl (qT 129 (by decide +kernel) rfl)⟩
theorem fp_X10_29 : qFP RX10 29 10 5 (.array .int) true := ⟨_, _, _, rfl, by decide, by decide +kernel, rfl, (fun _ => rfl), Or.inl (qT 131 (by decide +kernel) rfl)⟩
theorem fp_X10_32 : qFP RX10 32 10 6 .int false := ⟨_, _, _, rfl, by decide, by decide +kernel, rfl, (fun h => by cases h), Or.inl (qT 132 (by decide +kernel) rfl)⟩
theorem fp_X10_35 : qFP RX10 35 10 7 .int false := ⟨_, _, _, rfl, by decide, by decide +kernel, rfl, (fun h => by cases h), Or.inl (qT 133 (by decide +kernel) rfl)⟩
theorem fp_X10_38 : qFP RX10 38 10 8 .int false := ⟨_, _, _, rfl, by decide, by decide +kernel, rfl, (fun h => by cases h), Or.inl (qT 134 (by decide +kernel) rfl)⟩
theorem fp_X10_41 : qFP RX10 41 10 9 .int false := ⟨_, _, _, rfl, by decide, by decide +kernel, rfl, (fun h => by cases h), Or.inl (qT 137 (by decide +kernel) rfl)⟩
theorem fp_X10_44 : qFP RX10 44 10 10 .int false := ⟨_, _, _, rfl, by decide, by decide +kernel, rfl, (fun h => by cases h), Or.inl (qT 139 (by decide +kernel) rfl)⟩
theorem fp_X10_47 : qFP RX10 47 10 11 .int false := ⟨_, _, _, rfl, by decide, by decide +kernel, rfl, (fun h => by cases h), Or.inl (qT 142 (by decide +kernel) rfl)⟩
theorem fp_X12_9 : qFP RX12 9 12 7 .int false := ⟨_, _, _, rfl, by decide, by decide +kernel, rfl, (fun h => by cases h), Or.inl (qT 1263 (by decide +kernel) rfl)⟩
theorem fp_X12_13 : qFP RX12 13 12 8 (.array .int) true := ⟨_, _, _, rfl, by decide, by decide +kernel, rfl, (fun _ => rfl), Or.inl (qT 1264 (by decide +kernel) rfl)⟩
theorem fp_X12_17 : qFP RX12 17 12 9 (.array .int) true := ⟨_, _, _, rfl, by decide, by decide +kernel, rfl, (fun _ => rfl), Or.inl (qT 1265 (by decide +kernel) rfl)⟩
theorem fp_X12_20 : qFP RX12 20 12 10 (.array .int) true := ⟨_, _, _, rfl, by decide, by decide +kernel, rfl, (fun _ => rfl), Or.inl (qT 1266 (by decide +kernel) rfl)⟩
theorem fp_X12_23 : qFP RX12 23 12 11 (.array .int) true := ⟨_, _, _, rfl, by decide, by decide +kernel, rfl, (fun _ => rfl), Or.inl (qT 1267 (by decide +kernel) rfl)⟩
theorem fp_X12_26 : qFP RX12 26 12 12 (.array .int) true := ⟨_, _, _, rfl, by decide, by decide +kernel, rfl, (fun _ => rfl), Or.inl (qT 1268 (by decide +kernel) rfl)⟩
theorem fp_X12_29 : qFP RX12 29 12 13 (.array .int) true := ⟨_, _, _, rfl, by decide, by decide +kernel, rfl, (fun _ => rfl), Or.inl (qT 1269 (by decide +kernel) rfl)⟩
theorem fp_X12_32 : qFP RX12 32 12 14 (.array .int) true := ⟨_, _, _, rfl, by decide, by decide +kernel, rfl, (fun _ => rfl), Or.inl (qT 1270 (by decide +kernel) rfl)⟩
theorem fp_X12_35 : qFP RX12 35 12 15 (.array .int) true := ⟨_, _, _, rfl, by decide, by decide +kernel, rfl, (fun _ => rfl), Or.inl (qT 1271 (by decide +kernel) rfl)⟩
theorem fp_X12_38 : qFP RX12 38 12 16 (.array .int) true := ⟨_, _, _, rfl, by decide, by decide +kernel, rfl, (fun _ => rfl), Or.inl (qT 1272 (by decide +kernel) rfl)⟩
theorem fp_X12_41 : qFP RX12 41 12 17 (.array .int) true := ⟨_, _, _, rfl, by decide, by decide +kernel, rfl, (fun _ => rfl), Or.inl (qT 1273 (by decide +kernel) rfl)⟩
theorem fp_X12_44 : qFP RX12 44 12 21 (.array .int) true := ⟨_, _, _, rfl, by decide, by decide +kernel, rfl, (fun _ => rfl), Or.inl (qT 1277 (by decide +kernel) rfl)⟩
theorem fp_X12_47 : qFP RX12 47 12 22 (.array .int) true := ⟨_, _, _, rfl, by decide, by decide +kernel, rfl, (fun _ => rfl), Or.inl (qT 1278 (by decide +kernel) rfl)⟩
theorem fp_X12_50 : qFP RX12 50 12 23 (.array .int) true := ⟨_, _, _, rfl, by decide, by decide +kernel, rfl, (fun _ => rfl), Or.inl (qT 1279 (by decide +kernel) rfl)⟩
theorem fp_X12_53 : qFP RX12 53 12 24 (.array .int) true := ⟨_, _, _, rfl, by decide, by decide +kernel, rfl, (fun _ => rfl), Or.inl (qT 1280 (by decide +kernel) rfl)⟩
theorem fp_X12_56 : qFP RX12 56 12 26 (.array .int) true := ⟨_, _, _, rfl, by decide, by decide +kernel, rfl, (fun _ => rfl), Or.inl (qT 1282 (by decide +kernel) rfl)⟩
theorem fp_X12_59 : qFP RX12 59 12 28 (.array .int) true := ⟨_, _, _, rfl, by decide, by decide +kernel, rfl, (fun _ => rfl), Or.inl (qT 1284 (by decide +kernel) rfl)⟩
theorem fp_X12_62 : qFP RX12 62 12 29 (.array .int) true := ⟨_, _, _, rfl, by decide, by decide +kernel, rfl, (fun _ => rfl), Or.inl (qT 1285 (by decide +kernel) rfl)⟩
theorem fp_X12_65 : qFP RX12 65 12 30 (.array .int) true := ⟨_, _, _, rfl, by decide, by decide +kernel, rfl, (fun _ => rfl), Or.inl (qT 1286 (by decide +kernel) rfl)⟩
theorem fp_X12_68 : qFP RX12 68 12 31 (.array .int) true := ⟨_, _, _, rfl, by decide, by decide +kernel, rfl, (fun _ => rfl), Or.inl (qT 1287 (by decide +kernel) rfl)⟩
theorem fp_X12_71 : qFP RX12 71 12 32 (.array .int) true := ⟨_, _, _, rfl, by decide, by decide +kernel, rfl, (fun _ => rfl), Or.inl (qT 1288 (by decide +kernel) rfl)⟩
theorem fp_X12_74 : qFP RX12 74 12 33 (.array .int) true := ⟨_, _, _, rfl, by decide, by decide +kernel, rfl, (fun _ => rfl), Or.inl (qT 1289 (by decide +kernel) rfl)⟩
theorem fp_X12_77 : qFP RX12 77 12 34 (.array .int) true := ⟨_, _, _, rfl, by decide, by decide +kernel, rfl, (fun _ => rfl), Or.inl (qT 1290 (by decide +kernel) rfl)⟩
theorem fp_X12_80 : qFP RX12 80 12 35 (.array .int) true := ⟨_, _, _, rfl, by decide, by decide +kernel, rfl, (fun _ => rfl), Or.inl (qT 1291 (by decide +kernel) rfl)⟩
theorem fp_X12_83 : qFP RX12 83 12 36 (.array .int) true := ⟨_, _, _, rfl, by decide, by decide +kernel, rfl, (fun _ => rfl), Or.inl (qT 1292 (by decide +kernel) rfl)⟩
theorem fp_X12_86 : qFP RX12 86 12 41 (.array .int) true := ⟨_, _, _, rfl, by decide, by decide +kernel, rfl, (fun _ => rfl), Or.inl (qT 1297 (by decide +kernel) rfl)⟩
theorem fp_X12_89 : qFP RX12 89 12 42 (.array .int) true := ⟨_, _, _, rfl, by decide, by decide +kernel, rfl, (fun _ => rfl), Or.inl (qT 1298 (by decide +kernel) rfl)⟩
theorem fp_X12_92 : qFP RX12 92 12 43 (.array .int) true := ⟨_, _, _, rfl, by decide, by decide +kernel, rfl, (fun _ => rfl), Or.inl (qT 1299 (by decide +kernel) rfl)⟩
theorem fp_X12_95 : qFP RX12 95 12 44 (.array .int) true := ⟨_, _, _, rfl, by decide, by decide +kernel, rfl, (fun _ => rfl), Or.inl (qT 1300 (by decide +kernel) rfl)⟩
theorem fp_X12_98 : qFP RX12 98 12 45 (.array .int) true := ⟨_, _, _, rfl, by decide, by decide +kernel, rfl, (fun _ => rfl), Or.inl (qT 1301 (by decide +kernel) rfl)⟩
theorem fp_X12_101 : qFP RX12 101 12 46 (.array .int) true := ⟨_, _, _, rfl, by decide, by decide +kernel, rfl, (fun _ => rfl), Or.inl (qT 1302 (by decide +kernel) rfl)⟩
theorem fp_X12_104 : qFP RX12 104 12 47 (.array .boolean) true := ⟨_, _, _, rfl, by decide, by decide +kernel, rfl, (fun _ => rfl), Or.inl (qT 1303 (by decide +kernel) rfl)⟩
theorem fp_X12_108 : qFP RX12 108 12 49 (.array .long) true := ⟨_, _, _, rfl, by decide, by decide +kernel, rfl, (fun _ => rfl), Or.inl (qT 1305 (by decide +kernel) rfl)⟩
theorem fp_X12_112 : qFP RX12 112 12 50 (.array .long) true := ⟨_, _, _, rfl, by decide, by decide +kernel, rfl, (fun _ => rfl), Or.inl (qT 1306 (by decide +kernel) rfl)⟩
theorem fp_X12_115 : qFP RX12 115 12 51 (.array .long) true := ⟨_, _, _, rfl, by decide, by decide +kernel, rfl, (fun _ => rfl), Or.inl (qT 1307 (by decide +kernel) rfl)⟩
theorem fp_X12_118 : qFP RX12 118 12 52 (.array .int) true := ⟨_, _, _, rfl, by decide, by decide +kernel, rfl, (fun _ => rfl), Or.inl (qT 1308 (by decide +kernel) rfl)⟩
theorem fp_X12_121 : qFP RX12 121 12 53 (.array .int) true := ⟨_, _, _, rfl, by decide, by decide +kernel, rfl, (fun _ => rfl), Or.inl (qT 1309 (by decide +kernel) rfl)⟩
theorem fp_X12_124 : qFP RX12 124 12 54 (.array .int) true := ⟨_, _, _, rfl, by decide, by decide +kernel, rfl, (fun _ => rfl), Or.inl (qT 1310 (by decide +kernel) rfl)⟩
theorem fp_X12_127 : qFP RX12 127 12 0 .int false := ⟨_, _, _, rfl, by decide, by decide +kernel, rfl, (fun h => by cases h), Or.inl (qT 1256 (by decide +kernel) rfl)⟩
theorem fp_X12_130 : qFP RX12 130 12 1 .int false := ⟨_, _, _, rfl, by decide, by decide +kernel, rfl, (fun h => by cases h), Or.inl (qT 1257 (by decide +kernel) rfl)⟩
theorem fp_X12_141 : qFP RX12 141 12 4 .int false := ⟨_, _, _, rfl, by decide, by decide +kernel, rfl, (fun h => by cases h), Or.inl (qT 1260 (by decide +kernel) rfl)⟩
theorem fp_X12_144 : qFP RX12 144 12 5 .int false := ⟨_, _, _, rfl, by decide, by decide +kernel, rfl, (fun h => by cases h), Or.inl (qT 1261 (by decide +kernel) rfl)⟩
theorem fp_X12_147 : qFP RX12 147 12 2 .int false := ⟨_, _, _, rfl, by decide, by decide +kernel, rfl, (fun h => by cases h), Or.inl (qT 1258 (by decide +kernel) rfl)⟩
theorem fp_X12_150 : qFP RX12 150 12 3 .int false := ⟨_, _, _, rfl, by decide, by decide +kernel, rfl, (fun h => by cases h), Or.inl (qT 1259 (by decide +kernel) rfl)⟩
theorem fp_X12_222 : qFP RX12 222 12 20 .int false := ⟨_, _, _, rfl, by decide, by decide +kernel, rfl, (fun h => by cases h), Or.inl (qT 1276 (by decide +kernel) rfl)⟩
theorem fp_X12_234 : qFP RX12 234 12 6 .int false := ⟨_, _, _, rfl, by decide, by decide +kernel, rfl, (fun h => by cases h), Or.inl (qT 1262 (by decide +kernel) rfl)⟩
theorem fp_X12_246 : qFP RX12 246 12 18 .int false := ⟨_, _, _, rfl, by decide, by decide +kernel, rfl, (fun h => by cases h), Or.inl (qT 1274 (by decide +kernel) rfl)⟩
theorem fp_X12_253 : qFP RX12 253 12 19 .int false := ⟨_, _, _, rfl, by decide, by decide +kernel, rfl, (fun h => by cases h), Or.inl (qT 1275 (by decide +kernel) rfl)⟩
theorem fp_X12_256 : qFP RX12 256 12 25 .int false := ⟨_, _, _, rfl, by decide, by decide +kernel, rfl, (fun h => by cases h), Or.inl (qT 1281 (by decide +kernel) rfl)⟩
theorem fp_X12_313 : qFP RX12 313 12 40 .boolean false := ⟨_, _, _, rfl, by decide, by decide +kernel, rfl, (fun h => by cases h), Or.inl (qT 1296 (by decide +kernel) rfl)⟩
theorem fp_X12_317 : qFP RX12 317 12 37 .int false := ⟨_, _, _, rfl, by decide, by decide +kernel, rfl, (fun h => by cases h), Or.inl (qT 1293 (by decide +kernel) rfl)⟩
theorem fp_X12_320 : qFP RX12 320 12 38 .int false := ⟨_, _, _, rfl, by decide, by decide +kernel, rfl, (fun h => by cases h), Or.inl (qT 1294 (by decide +kernel) rfl)⟩
theorem fp_X12_323 : qFP RX12 323 12 27 .int false := ⟨_, _, _, rfl, by decide, by decide +kernel, rfl, (fun h => by cases h), Or.inl (qT 1283 (by decide +kernel) rfl)⟩
theorem fp_X12_326 : qFP RX12 326 12 39 .int false := ⟨_, _, _, rfl, by decide, by decide +kernel, rfl, (fun h => by cases h), Or.inl (qT 1295 (by decide +kernel) rfl)⟩
theorem fp_X12_360 : qFP RX12 360 12 48 .int false := ⟨_, _, _, rfl, by decide, by decide +kernel, rfl, (fun h => by cases h), Or.inl (qT 1304 (by decide +kernel) rfl)⟩
theorem lo_X11_3 : Cond.methodLink RX11 3 objectInit ∈ qTbl := (qT 27 (by decide +kernel) rfl)
theorem li_X11_11 : qLi RX11 11 yX8_init := ⟨rfl, ki_X8_init, Or.inr ⟨_, qTn 32 (w := .methodLinkNest RX11 11 yX8_init "BeaconWall") (by decide +kernel)⟩⟩
theorem li_X11_25 : qLi RX11 25 yX3_init := ⟨rfl, ki_X3_init, Or.inl (qT 203 (by decide +kernel) rfl)⟩
theorem li_X11_32 : qLi RX11 32 yX4_init := ⟨rfl, ki_X4_init, Or.inr ⟨_, qTn 226 (w := .methodLinkNest RX11 32 yX4_init "BeaconWall") (by decide +kernel)⟩⟩
theorem li_X11_39 : qLi RX11 39 yX9_init := ⟨rfl, ki_X9_init, Or.inr ⟨_, qTn 274 (w := .methodLinkNest RX11 39 yX9_init "BeaconWall") (by decide +kernel)⟩⟩
theorem li_X11_46 : qLi RX11 46 yX5_init := ⟨rfl, ki_X5_init, Or.inr ⟨_, qTn 358 (w := .methodLinkNest RX11 46 yX5_init "BeaconWall") (by decide +kernel)⟩⟩
theorem li_X11_53 : qLi RX11 53 yX1_init := ⟨rfl, ki_X1_init, Or.inr ⟨_, qTn 391 (w := .methodLinkNest RX11 53 yX1_init "BeaconWall") (by decide +kernel)⟩⟩
theorem ls_X11_62 : qLs RX11 62 yX11_isWithin := ⟨ks_X11_isWithin, Or.inl (qT 434 (by decide +kernel) rfl)⟩
theorem lv_X11_70 : qLv RX11 70 yX10_build := ⟨ki_X10_build, kv_X10_build, Or.inl (qT 437 (by decide +kernel) rfl)⟩
theorem lv_X11_76 : qLv RX11 76 yX3_forget := ⟨ki_X3_forget, kv_X3_forget, Or.inl (qT 444 (by decide +kernel) rfl)⟩
theorem ls_X11_79 : qLs RX11 79 yX11_kindOfAct := ⟨ks_X11_kindOfAct, Or.inl (qT 452 (by decide +kernel) rfl)⟩
theorem lv_X11_83 : qLv RX11 83 yX10_has := ⟨ki_X10_has, kv_X10_has, Or.inl (qT 455 (by decide +kernel) rfl)⟩
theorem lv_X11_87 : qLv RX11 87 yX3_keep := ⟨ki_X3_keep, kv_X3_keep, Or.inl (qT 460 (by decide +kernel) rfl)⟩
theorem lv_X11_91 : qLv RX11 91 yX8_perform := ⟨ki_X8_perform, kv_X8_perform, Or.inl (qT 474 (by decide +kernel) rfl)⟩
theorem lv_X11_99 : qLv RX11 99 yX8_breathe := ⟨ki_X8_breathe, kv_X8_breathe, Or.inl (qT 494 (by decide +kernel) rfl)⟩
theorem lv_X11_102 : qLv RX11 102 yX10_litCount := ⟨ki_X10_litCount, kv_X10_litCount, Or.inl (qT 560 (by decide +kernel) rfl)⟩
theorem lv_X11_112 : qLv RX11 112 yX10_isDeaf := ⟨ki_X10_isDeaf, kv_X10_isDeaf, Or.inl (qT 565 (by decide +kernel) rfl)⟩
theorem lv_X11_115 : qLv RX11 115 yX10_isLate := ⟨ki_X10_isLate, kv_X10_isLate, Or.inl (qT 566 (by decide +kernel) rfl)⟩
theorem lv_X11_121 : qLv RX11 121 yX10_mindSeenLeft := ⟨ki_X10_mindSeenLeft, kv_X10_mindSeenLeft, Or.inl (qT 567 (by decide +kernel) rfl)⟩
theorem lv_X11_125 : qLv RX11 125 yX10_mindSeenRight := ⟨ki_X10_mindSeenRight, kv_X10_mindSeenRight, Or.inl (qT 568 (by decide +kernel) rfl)⟩
theorem lv_X11_132 : qLv RX11 132 yX6_cell := ⟨ki_X6_cell, kv_X6_cell, Or.inl (qT 573 (by decide +kernel) rfl)⟩
theorem lv_X11_137 : qLv RX11 137 yX3_goBack := ⟨ki_X3_goBack, kv_X3_goBack, Or.inl (qT 578 (by decide +kernel) rfl)⟩
theorem lv_X11_141 : qLv RX11 141 yX8_copyFrom := ⟨ki_X8_copyFrom, kv_X8_copyFrom, Or.inl (qT 590 (by decide +kernel) rfl)⟩
theorem lv_X11_184 : qLv RX11 184 yX0_ruleCount := ⟨ki_X0_ruleCount, kv_X0_ruleCount, Or.inl (qT 615 (by decide +kernel) rfl)⟩
theorem lv_X11_188 : qLv RX11 188 yX4_take := ⟨ki_X4_take, kv_X4_take, Or.inl (qT 623 (by decide +kernel) rfl)⟩
theorem lv_X11_192 : qLv RX11 192 yX4_cutTo := ⟨ki_X4_cutTo, kv_X4_cutTo, Or.inl (qT 635 (by decide +kernel) rfl)⟩
theorem lv_X11_195 : qLv RX11 195 yX4_open := ⟨ki_X4_open, kv_X4_open, Or.inl (qT 644 (by decide +kernel) rfl)⟩
theorem lv_X11_198 : qLv RX11 198 yX11_tellPage := ⟨ki_X11_tellPage, kv_X11_tellPage, Or.inl (qT 731 (by decide +kernel) rfl)⟩
theorem lv_X11_201 : qLv RX11 201 yX11_tellPlan := ⟨ki_X11_tellPlan, kv_X11_tellPlan, Or.inl (qT 805 (by decide +kernel) rfl)⟩
theorem lv_X11_204 : qLv RX11 204 yX11_tellTree := ⟨ki_X11_tellTree, kv_X11_tellTree, Or.inl (qT 828 (by decide +kernel) rfl)⟩
theorem lv_X11_207 : qLv RX11 207 yX4_readPage := ⟨ki_X4_readPage, kv_X4_readPage, Or.inl (qT 735 (by decide +kernel) rfl)⟩
theorem lv_X11_215 : qLv RX11 215 yX2_copyFrom := ⟨ki_X2_copyFrom, kv_X2_copyFrom, Or.inl (qT 775 (by decide +kernel) rfl)⟩
theorem lv_X11_218 : qLv RX11 218 yX0_settle := ⟨ki_X0_settle, kv_X0_settle, Or.inl (qT 776 (by decide +kernel) rfl)⟩
theorem lv_X11_221 : qLv RX11 221 yX4_readPlan := ⟨ki_X4_readPlan, kv_X4_readPlan, Or.inl (qT 809 (by decide +kernel) rfl)⟩
theorem lv_X11_227 : qLv RX11 227 yX6_copyFrom := ⟨ki_X6_copyFrom, kv_X6_copyFrom, Or.inl (qT 827 (by decide +kernel) rfl)⟩
theorem lv_X11_230 : qLv RX11 230 yX4_readTree := ⟨ki_X4_readTree, kv_X4_readTree, Or.inl (qT 832 (by decide +kernel) rfl)⟩
theorem ls_X11_239 : qLs RX11 239 yX11_caseOf := ⟨ks_X11_caseOf, Or.inl (qT 854 (by decide +kernel) rfl)⟩
theorem lv_X11_249 : qLv RX11 249 yX0_copyFrom := ⟨ki_X0_copyFrom, kv_X0_copyFrom, Or.inl (qT 859 (by decide +kernel) rfl)⟩
theorem lv_X11_252 : qLv RX11 252 yX0_clashes := ⟨ki_X0_clashes, kv_X0_clashes, Or.inl (qT 868 (by decide +kernel) rfl)⟩
theorem lv_X11_255 : qLv RX11 255 yX9_askAll := ⟨ki_X9_askAll, kv_X9_askAll, Or.inl (qT 894 (by decide +kernel) rfl)⟩
