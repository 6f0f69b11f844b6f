/-! ===== CONTRACTS: the reference: image, beside, sees, goesOn ===== -/
set_option maxRecDepth 20000 in
set_option maxHeartbeats 4000000 in
theorem c_image1 {h : qH} {m : Nat} {f : Nat → Int} {g : Nat → Nat → Int}  (hm : 2 ≤ m) (h0 : f 0 = 0) : qEx M_X12_image 0 [qR m, qI 1] [] (rput h m f g) (some (qI 1)) (rput h m (qup (qup (qup (qup f 40 1) 37 (f 18)) 38 (f 19)) 39 (f 27)) (gup (gup (gup (gup (gup (gup (gup (gup (gup g 16 (qmx 167 (g 11) (g 16))) 17 (qmx 4 (g 5) (g 17))) 18 (qmx 4 (g 6) (g 18))) 19 (qmx 16 (g 9) (g 19))) 20 (qmx 600 (g 13) (g 20))) 21 (qmx 384 (g 2) (g 21))) 22 (qmx 384 (g 3) (g 22))) 23 (qmx 64 (g 7) (g 23))) 24 (qmx 32 (g 15) (g 24)))) := by
  refine q_gen (fun r hr er eh => ?_)
  refine z_aload_n d_X12_image_0 rfl rfl ?_
  refine z_iconst d_X12_image_1 (by decide) ?_
  refine z_putf (fs' := [qI 0, qI (f 1), qI (f 2), qI (f 3), qI (f 4), qI (f 5), qI (f 6), qI (f 7), qR (m + 1), qR (m + 2), qR (m + 3), qR (m + 4), qR (m + 5), qR (m + 6), qR (m + 7), qR (m + 8), qR (m + 9), qR (m + 10), qI (f 18), qI (f 19), qI (f 20), qR (m + 11), qR (m + 12), qR (m + 13), qR (m + 14), qI (f 25), qR (m + 15), qI (f 27), qR (m + 16), qR (m + 17), qR (m + 18), qR (m + 19), qR (m + 20), qR (m + 21), qR (m + 22), qR (m + 23), qR (m + 24), qI (f 37), qI (f 38), qI (f 39), qI (f 40), qR (m + 25), qR (m + 26), qR (m + 27), qR (m + 28), qR (m + 29), qR (m + 30), qR (m + 31), qI (f 48), qR (m + 32), qR (m + 33), qR (m + 34), qR (m + 35), qR (m + 36), qR (m + 37)]) d_X12_image_2 fp_X12_127 rput_o (fun _ => rfl) (fun _ => rfl) (Nat.le_of_ble_eq_true rfl) rfl ?_
  refine z_eq rfl rfl ((rput_sf (f' := qup f 0 0) rfl).trans (rput_cg (qup_self h0) rfl)) ?_
  refine z_iload_n d_X12_image_5 rfl rfl ?_
  refine z_if_eq 139 d_X12_image_6 (by decide) (fun hc1 => absurd hc1 (by decide)) (fun hc1 => ?_)
  refine z_aload_n d_X12_image_9 rfl rfl ?_
  refine z_iconst d_X12_image_10 (by decide) ?_
  refine z_putf (fs' := [qI (f 0), qI (f 1), qI (f 2), qI (f 3), qI (f 4), qI (f 5), qI (f 6), qI (f 7), qR (m + 1), qR (m + 2), qR (m + 3), qR (m + 4), qR (m + 5), qR (m + 6), qR (m + 7), qR (m + 8), qR (m + 9), qR (m + 10), qI (f 18), qI (f 19), qI (f 20), qR (m + 11), qR (m + 12), qR (m + 13), qR (m + 14), qI (f 25), qR (m + 15), qI (f 27), qR (m + 16), qR (m + 17), qR (m + 18), qR (m + 19), qR (m + 20), qR (m + 21), qR (m + 22), qR (m + 23), qR (m + 24), qI (f 37), qI (f 38), qI (f 39), qI 1, qR (m + 25), qR (m + 26), qR (m + 27), qR (m + 28), qR (m + 29), qR (m + 30), qR (m + 31), qI (f 48), qR (m + 32), qR (m + 33), qR (m + 34), qR (m + 35), qR (m + 36), qR (m + 37)]) d_X12_image_11 fp_X12_313 rput_o (fun _ => rfl) (fun _ => rfl) (Nat.le_of_ble_eq_true rfl) rfl ?_
  refine z_eq rfl rfl (rput_sf (f' := (qup f 40 1)) rfl) ?_
  refine z_aload_n d_X12_image_14 rfl rfl ?_
  refine z_getf (v := qR (m + 11)) d_X12_image_15 fl_X12_44 rput_o rfl ?_
  refine z_aload_n d_X12_image_18 rfl rfl ?_
  refine z_getf (v := qR (m + 16)) d_X12_image_19 fl_X12_59 rput_o rfl ?_
  refine z_cs0 (M1 := M_X12_copies) d_X12_image_22 ls_X12_249 k_X12_copies [qR (m + 11), qR (m + 16)] rfl rfl (Nat.le_of_ble_eq_true rfl) (by decide) (by decide) (Nat.le_of_ble_eq_true rfl) (c_copies (rput_a2 11 (t := 0) (n := 167) (F := (g 11)) rfl rfl rfl (by decide) (by decide)) (rput_a2 16 (t := 0) (n := 167) (F := (g 16)) rfl rfl rfl (by decide) (by decide)) (by omega) (by omega) (by decide) (by decide)) ?_
  refine z_eq rfl rfl (rput_sa 16 rfl rfl (by decide) (by decide)) ?_
  refine z_aload_n d_X12_image_25 rfl rfl ?_
  refine z_getf (v := qR (m + 5)) d_X12_image_26 fl_X12_26 rput_o rfl ?_
  refine z_aload_n d_X12_image_29 rfl rfl ?_
  refine z_getf (v := qR (m + 17)) d_X12_image_30 fl_X12_62 rput_o rfl ?_
  refine z_cs0 (M1 := M_X12_copies) d_X12_image_33 ls_X12_249 k_X12_copies [qR (m + 5), qR (m + 17)] rfl rfl (Nat.le_of_ble_eq_true rfl) (by decide) (by decide) (Nat.le_of_ble_eq_true rfl) (c_copies (rput_a2 5 (t := 0) (n := 4) (F := (g 5)) rfl rfl rfl (by decide) (by decide)) (rput_a2 17 (t := 0) (n := 4) (F := (g 17)) rfl rfl rfl (by decide) (by decide)) (by omega) (by omega) (by decide) (by decide)) ?_
  refine z_eq rfl rfl (rput_sa 17 rfl rfl (by decide) (by decide)) ?_
  refine z_aload_n d_X12_image_36 rfl rfl ?_
  refine z_getf (v := qR (m + 6)) d_X12_image_37 fl_X12_29 rput_o rfl ?_
  refine z_aload_n d_X12_image_40 rfl rfl ?_
  refine z_getf (v := qR (m + 18)) d_X12_image_41 fl_X12_65 rput_o rfl ?_
  refine z_cs0 (M1 := M_X12_copies) d_X12_image_44 ls_X12_249 k_X12_copies [qR (m + 6), qR (m + 18)] rfl rfl (Nat.le_of_ble_eq_true rfl) (by decide) (by decide) (Nat.le_of_ble_eq_true rfl) (c_copies (rput_a2 6 (t := 0) (n := 4) (F := (g 6)) rfl rfl rfl (by decide) (by decide)) (rput_a2 18 (t := 0) (n := 4) (F := (g 18)) rfl rfl rfl (by decide) (by decide)) (by omega) (by omega) (by decide) (by decide)) ?_
  refine z_eq rfl rfl (rput_sa 18 rfl rfl (by decide) (by decide)) ?_
  refine z_aload_n d_X12_image_47 rfl rfl ?_
  refine z_getf (v := qR (m + 9)) d_X12_image_48 fl_X12_38 rput_o rfl ?_
  refine z_aload_n d_X12_image_51 rfl rfl ?_
  refine z_getf (v := qR (m + 19)) d_X12_image_52 fl_X12_68 rput_o rfl ?_
  refine z_cs0 (M1 := M_X12_copies) d_X12_image_55 ls_X12_249 k_X12_copies [qR (m + 9), qR (m + 19)] rfl rfl (Nat.le_of_ble_eq_true rfl) (by decide) (by decide) (Nat.le_of_ble_eq_true rfl) (c_copies (rput_a2 9 (t := 0) (n := 16) (F := (g 9)) rfl rfl rfl (by decide) (by decide)) (rput_a2 19 (t := 0) (n := 16) (F := (g 19)) rfl rfl rfl (by decide) (by decide)) (by omega) (by omega) (by decide) (by decide)) ?_
  refine z_eq rfl rfl (rput_sa 19 rfl rfl (by decide) (by decide)) ?_
  refine z_aload_n d_X12_image_58 rfl rfl ?_
  refine z_getf (v := qR (m + 13)) d_X12_image_59 fl_X12_50 rput_o rfl ?_
  refine z_aload_n d_X12_image_62 rfl rfl ?_
  refine z_getf (v := qR (m + 20)) d_X12_image_63 fl_X12_71 rput_o rfl ?_
  refine z_cs0 (M1 := M_X12_copies) d_X12_image_66 ls_X12_249 k_X12_copies [qR (m + 13), qR (m + 20)] rfl rfl (Nat.le_of_ble_eq_true rfl) (by decide) (by decide) (Nat.le_of_ble_eq_true rfl) (c_copies (rput_a2 13 (t := 0) (n := 600) (F := (g 13)) rfl rfl rfl (by decide) (by decide)) (rput_a2 20 (t := 0) (n := 600) (F := (g 20)) rfl rfl rfl (by decide) (by decide)) (by omega) (by omega) (by decide) (by decide)) ?_
  refine z_eq rfl rfl (rput_sa 20 rfl rfl (by decide) (by decide)) ?_
  refine z_aload_n d_X12_image_69 rfl rfl ?_
  refine z_getf (v := qR (m + 2)) d_X12_image_70 fl_X12_17 rput_o rfl ?_
  refine z_aload_n d_X12_image_73 rfl rfl ?_
  refine z_getf (v := qR (m + 21)) d_X12_image_74 fl_X12_74 rput_o rfl ?_
  refine z_cs0 (M1 := M_X12_copies) d_X12_image_77 ls_X12_249 k_X12_copies [qR (m + 2), qR (m + 21)] rfl rfl (Nat.le_of_ble_eq_true rfl) (by decide) (by decide) (Nat.le_of_ble_eq_true rfl) (c_copies (rput_a2 2 (t := 0) (n := 384) (F := (g 2)) rfl rfl rfl (by decide) (by decide)) (rput_a2 21 (t := 0) (n := 384) (F := (g 21)) rfl rfl rfl (by decide) (by decide)) (by omega) (by omega) (by decide) (by decide)) ?_
  refine z_eq rfl rfl (rput_sa 21 rfl rfl (by decide) (by decide)) ?_
  refine z_aload_n d_X12_image_80 rfl rfl ?_
  refine z_getf (v := qR (m + 3)) d_X12_image_81 fl_X12_20 rput_o rfl ?_
  refine z_aload_n d_X12_image_84 rfl rfl ?_
  refine z_getf (v := qR (m + 22)) d_X12_image_85 fl_X12_77 rput_o rfl ?_
  refine z_cs0 (M1 := M_X12_copies) d_X12_image_88 ls_X12_249 k_X12_copies [qR (m + 3), qR (m + 22)] rfl rfl (Nat.le_of_ble_eq_true rfl) (by decide) (by decide) (Nat.le_of_ble_eq_true rfl) (c_copies (rput_a2 3 (t := 0) (n := 384) (F := (g 3)) rfl rfl rfl (by decide) (by decide)) (rput_a2 22 (t := 0) (n := 384) (F := (g 22)) rfl rfl rfl (by decide) (by decide)) (by omega) (by omega) (by decide) (by decide)) ?_
  refine z_eq rfl rfl (rput_sa 22 rfl rfl (by decide) (by decide)) ?_
  refine z_aload_n d_X12_image_91 rfl rfl ?_
  refine z_getf (v := qR (m + 7)) d_X12_image_92 fl_X12_32 rput_o rfl ?_
  refine z_aload_n d_X12_image_95 rfl rfl ?_
  refine z_getf (v := qR (m + 23)) d_X12_image_96 fl_X12_80 rput_o rfl ?_
  refine z_cs0 (M1 := M_X12_copies) d_X12_image_99 ls_X12_249 k_X12_copies [qR (m + 7), qR (m + 23)] rfl rfl (Nat.le_of_ble_eq_true rfl) (by decide) (by decide) (Nat.le_of_ble_eq_true rfl) (c_copies (rput_a2 7 (t := 0) (n := 64) (F := (g 7)) rfl rfl rfl (by decide) (by decide)) (rput_a2 23 (t := 0) (n := 64) (F := (g 23)) rfl rfl rfl (by decide) (by decide)) (by omega) (by omega) (by decide) (by decide)) ?_
  refine z_eq rfl rfl (rput_sa 23 rfl rfl (by decide) (by decide)) ?_
  refine z_aload_n d_X12_image_102 rfl rfl ?_
  refine z_getf (v := qR (m + 15)) d_X12_image_103 fl_X12_56 rput_o rfl ?_
  refine z_aload_n d_X12_image_106 rfl rfl ?_
  refine z_getf (v := qR (m + 24)) d_X12_image_107 fl_X12_83 rput_o rfl ?_
  refine z_cs0 (M1 := M_X12_copies) d_X12_image_110 ls_X12_249 k_X12_copies [qR (m + 15), qR (m + 24)] rfl rfl (Nat.le_of_ble_eq_true rfl) (by decide) (by decide) (Nat.le_of_ble_eq_true rfl) (c_copies (rput_a2 15 (t := 0) (n := 32) (F := (g 15)) rfl rfl rfl (by decide) (by decide)) (rput_a2 24 (t := 0) (n := 32) (F := (g 24)) rfl rfl rfl (by decide) (by decide)) (by omega) (by omega) (by decide) (by decide)) ?_
  refine z_eq rfl rfl (rput_sa 24 rfl rfl (by decide) (by decide)) ?_
  refine z_aload_n d_X12_image_113 rfl rfl ?_
  refine z_aload_n d_X12_image_114 rfl rfl ?_
  refine z_getf (v := qI (f 18)) d_X12_image_115 fl_X12_246 rput_o rfl ?_
  refine z_putf (fs' := [qI (f 0), qI (f 1), qI (f 2), qI (f 3), qI (f 4), qI (f 5), qI (f 6), qI (f 7), qR (m + 1), qR (m + 2), qR (m + 3), qR (m + 4), qR (m + 5), qR (m + 6), qR (m + 7), qR (m + 8), qR (m + 9), qR (m + 10), qI (f 18), qI (f 19), qI (f 20), qR (m + 11), qR (m + 12), qR (m + 13), qR (m + 14), qI (f 25), qR (m + 15), qI (f 27), qR (m + 16), qR (m + 17), qR (m + 18), qR (m + 19), qR (m + 20), qR (m + 21), qR (m + 22), qR (m + 23), qR (m + 24), qI (f 18), qI (f 38), qI (f 39), qI 1, qR (m + 25), qR (m + 26), qR (m + 27), qR (m + 28), qR (m + 29), qR (m + 30), qR (m + 31), qI (f 48), qR (m + 32), qR (m + 33), qR (m + 34), qR (m + 35), qR (m + 36), qR (m + 37)]) d_X12_image_118 fp_X12_317 rput_o (fun _ => rfl) (fun _ => rfl) (Nat.le_of_ble_eq_true rfl) rfl ?_
  refine z_eq rfl rfl (rput_sf (f' := (qup (qup f 40 1) 37 (f 18))) rfl) ?_
  refine z_aload_n d_X12_image_121 rfl rfl ?_
  refine z_aload_n d_X12_image_122 rfl rfl ?_
  refine z_getf (v := qI (f 19)) d_X12_image_123 fl_X12_253 rput_o rfl ?_
  refine z_putf (fs' := [qI (f 0), qI (f 1), qI (f 2), qI (f 3), qI (f 4), qI (f 5), qI (f 6), qI (f 7), qR (m + 1), qR (m + 2), qR (m + 3), qR (m + 4), qR (m + 5), qR (m + 6), qR (m + 7), qR (m + 8), qR (m + 9), qR (m + 10), qI (f 18), qI (f 19), qI (f 20), qR (m + 11), qR (m + 12), qR (m + 13), qR (m + 14), qI (f 25), qR (m + 15), qI (f 27), qR (m + 16), qR (m + 17), qR (m + 18), qR (m + 19), qR (m + 20), qR (m + 21), qR (m + 22), qR (m + 23), qR (m + 24), qI (f 18), qI (f 19), qI (f 39), qI 1, qR (m + 25), qR (m + 26), qR (m + 27), qR (m + 28), qR (m + 29), qR (m + 30), qR (m + 31), qI (f 48), qR (m + 32), qR (m + 33), qR (m + 34), qR (m + 35), qR (m + 36), qR (m + 37)]) d_X12_image_126 fp_X12_320 rput_o (fun _ => rfl) (fun _ => rfl) (Nat.le_of_ble_eq_true rfl) rfl ?_
  refine z_eq rfl rfl (rput_sf (f' := (qup (qup (qup f 40 1) 37 (f 18)) 38 (f 19))) rfl) ?_
  refine z_aload_n d_X12_image_129 rfl rfl ?_
  refine z_aload_n d_X12_image_130 rfl rfl ?_
  refine z_getf (v := qI (f 27)) d_X12_image_131 fl_X12_323 rput_o rfl ?_
  refine z_putf (fs' := [qI (f 0), qI (f 1), qI (f 2), qI (f 3), qI (f 4), qI (f 5), qI (f 6), qI (f 7), qR (m + 1), qR (m + 2), qR (m + 3), qR (m + 4), qR (m + 5), qR (m + 6), qR (m + 7), qR (m + 8), qR (m + 9), qR (m + 10), qI (f 18), qI (f 19), qI (f 20), qR (m + 11), qR (m + 12), qR (m + 13), qR (m + 14), qI (f 25), qR (m + 15), qI (f 27), qR (m + 16), qR (m + 17), qR (m + 18), qR (m + 19), qR (m + 20), qR (m + 21), qR (m + 22), qR (m + 23), qR (m + 24), qI (f 18), qI (f 19), qI (f 27), qI 1, qR (m + 25), qR (m + 26), qR (m + 27), qR (m + 28), qR (m + 29), qR (m + 30), qR (m + 31), qI (f 48), qR (m + 32), qR (m + 33), qR (m + 34), qR (m + 35), qR (m + 36), qR (m + 37)]) d_X12_image_134 fp_X12_326 rput_o (fun _ => rfl) (fun _ => rfl) (Nat.le_of_ble_eq_true rfl) rfl ?_
  refine z_eq rfl rfl (rput_sf (f' := (qup (qup (qup (qup f 40 1) 37 (f 18)) 38 (f 19)) 39 (f 27))) rfl) ?_
  refine z_iconst d_X12_image_137 (by decide) ?_
  exact z_zret d_X12_image_138 rfl (by first | exact qb_01 _ | decide | omega) er eh
set_option maxRecDepth 20000 in
set_option maxHeartbeats 4000000 in
theorem c_image0no {h : qH} {m : Nat} {f : Nat → Int} {g : Nat → Nat → Int}  (hm : 2 ≤ m) (h0 : f 0 = 0) (hi : f 40 = 0) : qEx M_X12_image 0 [qR m, qI 0] [] (rput h m f g) (some (qI 0)) (rput h m f g) := by
  refine q_gen (fun r hr er eh => ?_)
  refine z_aload_n d_X12_image_0 rfl rfl ?_
  refine z_iconst d_X12_image_1 (by decide) ?_
  refine z_putf (fs' := [qI 0, qI (f 1), qI (f 2), qI (f 3), qI (f 4), qI (f 5), qI (f 6), qI (f 7), qR (m + 1), qR (m + 2), qR (m + 3), qR (m + 4), qR (m + 5), qR (m + 6), qR (m + 7), qR (m + 8), qR (m + 9), qR (m + 10), qI (f 18), qI (f 19), qI (f 20), qR (m + 11), qR (m + 12), qR (m + 13), qR (m + 14), qI (f 25), qR (m + 15), qI (f 27), qR (m + 16), qR (m + 17), qR (m + 18), qR (m + 19), qR (m + 20), qR (m + 21), qR (m + 22), qR (m + 23), qR (m + 24), qI (f 37), qI (f 38), qI (f 39), qI (f 40), qR (m + 25), qR (m + 26), qR (m + 27), qR (m + 28), qR (m + 29), qR (m + 30), qR (m + 31), qI (f 48), qR (m + 32), qR (m + 33), qR (m + 34), qR (m + 35), qR (m + 36), qR (m + 37)]) d_X12_image_2 fp_X12_127 rput_o (fun _ => rfl) (fun _ => rfl) (Nat.le_of_ble_eq_true rfl) rfl ?_
  refine z_eq rfl rfl ((rput_sf (f' := qup f 0 0) rfl).trans (rput_cg (qup_self h0) rfl)) ?_
  refine z_iload_n d_X12_image_5 rfl rfl ?_
  refine z_if_eq 139 d_X12_image_6 (by decide) (fun hc1 => ?_) (fun hc1 => absurd (by decide) hc1)
  refine z_aload_n d_X12_image_139 rfl rfl ?_
  refine z_getf (v := qI (f 40)) d_X12_image_140 fl_X12_313 rput_o rfl ?_
  refine z_eq rfl (qc (qi hi) rfl) rfl ?_
  refine z_if_ne 148 d_X12_image_143 (by decide) (fun hc2 => absurd hc2 (by decide)) (fun hc2 => ?_)
  refine z_iconst d_X12_image_146 (by decide) ?_
  exact z_zret d_X12_image_147 rfl (by first | exact qb_01 _ | decide | omega) er eh
set_option maxRecDepth 20000 in
set_option maxHeartbeats 4000000 in
theorem c_image0 {h : qH} {m : Nat} {f : Nat → Int} {g : Nat → Nat → Int}  (hm : 2 ≤ m) (h0 : f 0 = 0) (hi : f 40 = 1) : qEx M_X12_image 0 [qR m, qI 0] [] (rput h m f g) (some (qI 1)) (rput h m (qup (qup (qup (qup f 18 (f 37)) 19 (f 38)) 27 (f 39)) 25 0) (gup (gup (gup (gup (gup (gup (gup (gup (gup g 11 (qmx 167 (g 16) (g 11))) 5 (qmx 4 (g 17) (g 5))) 6 (qmx 4 (g 18) (g 6))) 9 (qmx 16 (g 19) (g 9))) 13 (qmx 600 (g 20) (g 13))) 2 (qmx 384 (g 21) (g 2))) 3 (qmx 384 (g 22) (g 3))) 7 (qmx 64 (g 23) (g 7))) 15 (qmx 32 (g 24) (g 15)))) := by
  refine q_gen (fun r hr er eh => ?_)
  refine z_aload_n d_X12_image_0 rfl rfl ?_
  refine z_iconst d_X12_image_1 (by decide) ?_
  refine z_putf (fs' := [qI 0, qI (f 1), qI (f 2), qI (f 3), qI (f 4), qI (f 5), qI (f 6), qI (f 7), qR (m + 1), qR (m + 2), qR (m + 3), qR (m + 4), qR (m + 5), qR (m + 6), qR (m + 7), qR (m + 8), qR (m + 9), qR (m + 10), qI (f 18), qI (f 19), qI (f 20), qR (m + 11), qR (m + 12), qR (m + 13), qR (m + 14), qI (f 25), qR (m + 15), qI (f 27), qR (m + 16), qR (m + 17), qR (m + 18), qR (m + 19), qR (m + 20), qR (m + 21), qR (m + 22), qR (m + 23), qR (m + 24), qI (f 37), qI (f 38), qI (f 39), qI (f 40), qR (m + 25), qR (m + 26), qR (m + 27), qR (m + 28), qR (m + 29), qR (m + 30), qR (m + 31), qI (f 48), qR (m + 32), qR (m + 33), qR (m + 34), qR (m + 35), qR (m + 36), qR (m + 37)]) d_X12_image_2 fp_X12_127 rput_o (fun _ => rfl) (fun _ => rfl) (Nat.le_of_ble_eq_true rfl) rfl ?_
  refine z_eq rfl rfl ((rput_sf (f' := qup f 0 0) rfl).trans (rput_cg (qup_self h0) rfl)) ?_
  refine z_iload_n d_X12_image_5 rfl rfl ?_
  refine z_if_eq 139 d_X12_image_6 (by decide) (fun hc1 => ?_) (fun hc1 => absurd (by decide) hc1)
  refine z_aload_n d_X12_image_139 rfl rfl ?_
  refine z_getf (v := qI (f 40)) d_X12_image_140 fl_X12_313 rput_o rfl ?_
  refine z_eq rfl (qc (qi hi) rfl) rfl ?_
  refine z_if_ne 148 d_X12_image_143 (by decide) (fun hc2 => ?_) (fun hc2 => absurd (by decide) hc2)
  refine z_aload_n d_X12_image_148 rfl rfl ?_
  refine z_getf (v := qR (m + 16)) d_X12_image_149 fl_X12_59 rput_o rfl ?_
  refine z_aload_n d_X12_image_152 rfl rfl ?_
  refine z_getf (v := qR (m + 11)) d_X12_image_153 fl_X12_44 rput_o rfl ?_
  refine z_cs0 (M1 := M_X12_copies) d_X12_image_156 ls_X12_249 k_X12_copies [qR (m + 16), qR (m + 11)] rfl rfl (Nat.le_of_ble_eq_true rfl) (by decide) (by decide) (Nat.le_of_ble_eq_true rfl) (c_copies (rput_a2 16 (t := 0) (n := 167) (F := (g 16)) rfl rfl rfl (by decide) (by decide)) (rput_a2 11 (t := 0) (n := 167) (F := (g 11)) rfl rfl rfl (by decide) (by decide)) (by omega) (by omega) (by decide) (by decide)) ?_
  refine z_eq rfl rfl (rput_sa 11 rfl rfl (by decide) (by decide)) ?_
  refine z_aload_n d_X12_image_159 rfl rfl ?_
  refine z_getf (v := qR (m + 17)) d_X12_image_160 fl_X12_62 rput_o rfl ?_
  refine z_aload_n d_X12_image_163 rfl rfl ?_
  refine z_getf (v := qR (m + 5)) d_X12_image_164 fl_X12_26 rput_o rfl ?_
  refine z_cs0 (M1 := M_X12_copies) d_X12_image_167 ls_X12_249 k_X12_copies [qR (m + 17), qR (m + 5)] rfl rfl (Nat.le_of_ble_eq_true rfl) (by decide) (by decide) (Nat.le_of_ble_eq_true rfl) (c_copies (rput_a2 17 (t := 0) (n := 4) (F := (g 17)) rfl rfl rfl (by decide) (by decide)) (rput_a2 5 (t := 0) (n := 4) (F := (g 5)) rfl rfl rfl (by decide) (by decide)) (by omega) (by omega) (by decide) (by decide)) ?_
  refine z_eq rfl rfl (rput_sa 5 rfl rfl (by decide) (by decide)) ?_
  refine z_aload_n d_X12_image_170 rfl rfl ?_
  refine z_getf (v := qR (m + 18)) d_X12_image_171 fl_X12_65 rput_o rfl ?_
  refine z_aload_n d_X12_image_174 rfl rfl ?_
  refine z_getf (v := qR (m + 6)) d_X12_image_175 fl_X12_29 rput_o rfl ?_
  refine z_cs0 (M1 := M_X12_copies) d_X12_image_178 ls_X12_249 k_X12_copies [qR (m + 18), qR (m + 6)] rfl rfl (Nat.le_of_ble_eq_true rfl) (by decide) (by decide) (Nat.le_of_ble_eq_true rfl) (c_copies (rput_a2 18 (t := 0) (n := 4) (F := (g 18)) rfl rfl rfl (by decide) (by decide)) (rput_a2 6 (t := 0) (n := 4) (F := (g 6)) rfl rfl rfl (by decide) (by decide)) (by omega) (by omega) (by decide) (by decide)) ?_
  refine z_eq rfl rfl (rput_sa 6 rfl rfl (by decide) (by decide)) ?_
  refine z_aload_n d_X12_image_181 rfl rfl ?_
  refine z_getf (v := qR (m + 19)) d_X12_image_182 fl_X12_68 rput_o rfl ?_
  refine z_aload_n d_X12_image_185 rfl rfl ?_
  refine z_getf (v := qR (m + 9)) d_X12_image_186 fl_X12_38 rput_o rfl ?_
  refine z_cs0 (M1 := M_X12_copies) d_X12_image_189 ls_X12_249 k_X12_copies [qR (m + 19), qR (m + 9)] rfl rfl (Nat.le_of_ble_eq_true rfl) (by decide) (by decide) (Nat.le_of_ble_eq_true rfl) (c_copies (rput_a2 19 (t := 0) (n := 16) (F := (g 19)) rfl rfl rfl (by decide) (by decide)) (rput_a2 9 (t := 0) (n := 16) (F := (g 9)) rfl rfl rfl (by decide) (by decide)) (by omega) (by omega) (by decide) (by decide)) ?_
  refine z_eq rfl rfl (rput_sa 9 rfl rfl (by decide) (by decide)) ?_
  refine z_aload_n d_X12_image_192 rfl rfl ?_
  refine z_getf (v := qR (m + 20)) d_X12_image_193 fl_X12_71 rput_o rfl ?_
  refine z_aload_n d_X12_image_196 rfl rfl ?_
  refine z_getf (v := qR (m + 13)) d_X12_image_197 fl_X12_50 rput_o rfl ?_
  refine z_cs0 (M1 := M_X12_copies) d_X12_image_200 ls_X12_249 k_X12_copies [qR (m + 20), qR (m + 13)] rfl rfl (Nat.le_of_ble_eq_true rfl) (by decide) (by decide) (Nat.le_of_ble_eq_true rfl) (c_copies (rput_a2 20 (t := 0) (n := 600) (F := (g 20)) rfl rfl rfl (by decide) (by decide)) (rput_a2 13 (t := 0) (n := 600) (F := (g 13)) rfl rfl rfl (by decide) (by decide)) (by omega) (by omega) (by decide) (by decide)) ?_
  refine z_eq rfl rfl (rput_sa 13 rfl rfl (by decide) (by decide)) ?_
  refine z_aload_n d_X12_image_203 rfl rfl ?_
  refine z_getf (v := qR (m + 21)) d_X12_image_204 fl_X12_74 rput_o rfl ?_
  refine z_aload_n d_X12_image_207 rfl rfl ?_
  refine z_getf (v := qR (m + 2)) d_X12_image_208 fl_X12_17 rput_o rfl ?_
  refine z_cs0 (M1 := M_X12_copies) d_X12_image_211 ls_X12_249 k_X12_copies [qR (m + 21), qR (m + 2)] rfl rfl (Nat.le_of_ble_eq_true rfl) (by decide) (by decide) (Nat.le_of_ble_eq_true rfl) (c_copies (rput_a2 21 (t := 0) (n := 384) (F := (g 21)) rfl rfl rfl (by decide) (by decide)) (rput_a2 2 (t := 0) (n := 384) (F := (g 2)) rfl rfl rfl (by decide) (by decide)) (by omega) (by omega) (by decide) (by decide)) ?_
  refine z_eq rfl rfl (rput_sa 2 rfl rfl (by decide) (by decide)) ?_
  refine z_aload_n d_X12_image_214 rfl rfl ?_
  refine z_getf (v := qR (m + 22)) d_X12_image_215 fl_X12_77 rput_o rfl ?_
  refine z_aload_n d_X12_image_218 rfl rfl ?_
  refine z_getf (v := qR (m + 3)) d_X12_image_219 fl_X12_20 rput_o rfl ?_
  refine z_cs0 (M1 := M_X12_copies) d_X12_image_222 ls_X12_249 k_X12_copies [qR (m + 22), qR (m + 3)] rfl rfl (Nat.le_of_ble_eq_true rfl) (by decide) (by decide) (Nat.le_of_ble_eq_true rfl) (c_copies (rput_a2 22 (t := 0) (n := 384) (F := (g 22)) rfl rfl rfl (by decide) (by decide)) (rput_a2 3 (t := 0) (n := 384) (F := (g 3)) rfl rfl rfl (by decide) (by decide)) (by omega) (by omega) (by decide) (by decide)) ?_
  refine z_eq rfl rfl (rput_sa 3 rfl rfl (by decide) (by decide)) ?_
  refine z_aload_n d_X12_image_225 rfl rfl ?_
  refine z_getf (v := qR (m + 23)) d_X12_image_226 fl_X12_80 rput_o rfl ?_
  refine z_aload_n d_X12_image_229 rfl rfl ?_
  refine z_getf (v := qR (m + 7)) d_X12_image_230 fl_X12_32 rput_o rfl ?_
  refine z_cs0 (M1 := M_X12_copies) d_X12_image_233 ls_X12_249 k_X12_copies [qR (m + 23), qR (m + 7)] rfl rfl (Nat.le_of_ble_eq_true rfl) (by decide) (by decide) (Nat.le_of_ble_eq_true rfl) (c_copies (rput_a2 23 (t := 0) (n := 64) (F := (g 23)) rfl rfl rfl (by decide) (by decide)) (rput_a2 7 (t := 0) (n := 64) (F := (g 7)) rfl rfl rfl (by decide) (by decide)) (by omega) (by omega) (by decide) (by decide)) ?_
  refine z_eq rfl rfl (rput_sa 7 rfl rfl (by decide) (by decide)) ?_
  refine z_aload_n d_X12_image_236 rfl rfl ?_
  refine z_getf (v := qR (m + 24)) d_X12_image_237 fl_X12_83 rput_o rfl ?_
  refine z_aload_n d_X12_image_240 rfl rfl ?_
  refine z_getf (v := qR (m + 15)) d_X12_image_241 fl_X12_56 rput_o rfl ?_
  refine z_cs0 (M1 := M_X12_copies) d_X12_image_244 ls_X12_249 k_X12_copies [qR (m + 24), qR (m + 15)] rfl rfl (Nat.le_of_ble_eq_true rfl) (by decide) (by decide) (Nat.le_of_ble_eq_true rfl) (c_copies (rput_a2 24 (t := 0) (n := 32) (F := (g 24)) rfl rfl rfl (by decide) (by decide)) (rput_a2 15 (t := 0) (n := 32) (F := (g 15)) rfl rfl rfl (by decide) (by decide)) (by omega) (by omega) (by decide) (by decide)) ?_
  refine z_eq rfl rfl (rput_sa 15 rfl rfl (by decide) (by decide)) ?_
  refine z_aload_n d_X12_image_247 rfl rfl ?_
  refine z_aload_n d_X12_image_248 rfl rfl ?_
  refine z_getf (v := qI (f 37)) d_X12_image_249 fl_X12_317 rput_o rfl ?_
  refine z_putf (fs' := [qI (f 0), qI (f 1), qI (f 2), qI (f 3), qI (f 4), qI (f 5), qI (f 6), qI (f 7), qR (m + 1), qR (m + 2), qR (m + 3), qR (m + 4), qR (m + 5), qR (m + 6), qR (m + 7), qR (m + 8), qR (m + 9), qR (m + 10), qI (f 37), qI (f 19), qI (f 20), qR (m + 11), qR (m + 12), qR (m + 13), qR (m + 14), qI (f 25), qR (m + 15), qI (f 27), qR (m + 16), qR (m + 17), qR (m + 18), qR (m + 19), qR (m + 20), qR (m + 21), qR (m + 22), qR (m + 23), qR (m + 24), qI (f 37), qI (f 38), qI (f 39), qI (f 40), qR (m + 25), qR (m + 26), qR (m + 27), qR (m + 28), qR (m + 29), qR (m + 30), qR (m + 31), qI (f 48), qR (m + 32), qR (m + 33), qR (m + 34), qR (m + 35), qR (m + 36), qR (m + 37)]) d_X12_image_252 fp_X12_246 rput_o (fun _ => rfl) (fun _ => rfl) (Nat.le_of_ble_eq_true rfl) rfl ?_
  refine z_eq rfl rfl (rput_sf (f' := (qup f 18 (f 37))) rfl) ?_
  refine z_aload_n d_X12_image_255 rfl rfl ?_
  refine z_aload_n d_X12_image_256 rfl rfl ?_
  refine z_getf (v := qI (f 38)) d_X12_image_257 fl_X12_320 rput_o rfl ?_
  refine z_putf (fs' := [qI (f 0), qI (f 1), qI (f 2), qI (f 3), qI (f 4), qI (f 5), qI (f 6), qI (f 7), qR (m + 1), qR (m + 2), qR (m + 3), qR (m + 4), qR (m + 5), qR (m + 6), qR (m + 7), qR (m + 8), qR (m + 9), qR (m + 10), qI (f 37), qI (f 38), qI (f 20), qR (m + 11), qR (m + 12), qR (m + 13), qR (m + 14), qI (f 25), qR (m + 15), qI (f 27), qR (m + 16), qR (m + 17), qR (m + 18), qR (m + 19), qR (m + 20), qR (m + 21), qR (m + 22), qR (m + 23), qR (m + 24), qI (f 37), qI (f 38), qI (f 39), qI (f 40), qR (m + 25), qR (m + 26), qR (m + 27), qR (m + 28), qR (m + 29), qR (m + 30), qR (m + 31), qI (f 48), qR (m + 32), qR (m + 33), qR (m + 34), qR (m + 35), qR (m + 36), qR (m + 37)]) d_X12_image_260 fp_X12_253 rput_o (fun _ => rfl) (fun _ => rfl) (Nat.le_of_ble_eq_true rfl) rfl ?_
  refine z_eq rfl rfl (rput_sf (f' := (qup (qup f 18 (f 37)) 19 (f 38))) rfl) ?_
  refine z_aload_n d_X12_image_263 rfl rfl ?_
  refine z_aload_n d_X12_image_264 rfl rfl ?_
  refine z_getf (v := qI (f 39)) d_X12_image_265 fl_X12_326 rput_o rfl ?_
  refine z_putf (fs' := [qI (f 0), qI (f 1), qI (f 2), qI (f 3), qI (f 4), qI (f 5), qI (f 6), qI (f 7), qR (m + 1), qR (m + 2), qR (m + 3), qR (m + 4), qR (m + 5), qR (m + 6), qR (m + 7), qR (m + 8), qR (m + 9), qR (m + 10), qI (f 37), qI (f 38), qI (f 20), qR (m + 11), qR (m + 12), qR (m + 13), qR (m + 14), qI (f 25), qR (m + 15), qI (f 39), qR (m + 16), qR (m + 17), qR (m + 18), qR (m + 19), qR (m + 20), qR (m + 21), qR (m + 22), qR (m + 23), qR (m + 24), qI (f 37), qI (f 38), qI (f 39), qI (f 40), qR (m + 25), qR (m + 26), qR (m + 27), qR (m + 28), qR (m + 29), qR (m + 30), qR (m + 31), qI (f 48), qR (m + 32), qR (m + 33), qR (m + 34), qR (m + 35), qR (m + 36), qR (m + 37)]) d_X12_image_268 fp_X12_323 rput_o (fun _ => rfl) (fun _ => rfl) (Nat.le_of_ble_eq_true rfl) rfl ?_
  refine z_eq rfl rfl (rput_sf (f' := (qup (qup (qup f 18 (f 37)) 19 (f 38)) 27 (f 39))) rfl) ?_
  refine z_aload_n d_X12_image_271 rfl rfl ?_
  refine z_iconst d_X12_image_272 (by decide) ?_
  refine z_putf (fs' := [qI (f 0), qI (f 1), qI (f 2), qI (f 3), qI (f 4), qI (f 5), qI (f 6), qI (f 7), qR (m + 1), qR (m + 2), qR (m + 3), qR (m + 4), qR (m + 5), qR (m + 6), qR (m + 7), qR (m + 8), qR (m + 9), qR (m + 10), qI (f 37), qI (f 38), qI (f 20), qR (m + 11), qR (m + 12), qR (m + 13), qR (m + 14), qI 0, qR (m + 15), qI (f 39), qR (m + 16), qR (m + 17), qR (m + 18), qR (m + 19), qR (m + 20), qR (m + 21), qR (m + 22), qR (m + 23), qR (m + 24), qI (f 37), qI (f 38), qI (f 39), qI (f 40), qR (m + 25), qR (m + 26), qR (m + 27), qR (m + 28), qR (m + 29), qR (m + 30), qR (m + 31), qI (f 48), qR (m + 32), qR (m + 33), qR (m + 34), qR (m + 35), qR (m + 36), qR (m + 37)]) d_X12_image_273 fp_X12_256 rput_o (fun _ => rfl) (fun _ => rfl) (Nat.le_of_ble_eq_true rfl) rfl ?_
  refine z_eq rfl rfl (rput_sf (f' := (qup (qup (qup (qup f 18 (f 37)) 19 (f 38)) 27 (f 39)) 25 0)) rfl) ?_
  refine z_iconst d_X12_image_276 (by decide) ?_
  exact z_zret d_X12_image_277 rfl (by first | exact qb_01 _ | decide | omega) er eh
set_option maxRecDepth 20000 in
set_option maxHeartbeats 4000000 in
theorem c_bes0s {h : qH} {a n : Nat} {F : Nat → Int} (k : Nat) (e0 : h.2.2 a = qAr 0 167 F) (hN : F 160 = (n : Int)) (hn : n ≤ 32) (hk : k + 1 < n) : qEx M_X12_beside 0 [qR a, qI (((k + 1) : Nat) : Int), qI 0, qU, qU, qU] [] h (some (qI (snL n (F 161 ≠ 0) (fun j => F (128 + j)) (k + 1)))) h := by
  refine q_gen (fun r hr er eh => ?_)
  refine z_aload_n d_X12_beside_0 rfl rfl ?_
  refine z_sipush d_X12_beside_1 (by decide) ?_
  refine z_ild 160 d_X12_beside_4 e0 rfl (by omega) ?_
  refine z_eq rfl (qc (qi hN) rfl) rfl ?_
  refine z_istore_n (ls' := [qR a, qI (((k + 1) : Nat) : Int), qI 0, qI (n : Int), qU, qU]) d_X12_beside_5 rfl (by decide) rfl ?_
  refine z_iload_n d_X12_beside_6 rfl rfl ?_
  refine z_if_ne 16 d_X12_beside_7 (by decide) (fun hc1 => absurd hc1 (by decide)) (fun hc1 => ?_)
  refine z_iload_n d_X12_beside_10 rfl rfl ?_
  refine z_iconst d_X12_beside_11 (by decide) ?_
  refine z_isub d_X12_beside_12 (by omega) ?_
  refine z_goto 19 d_X12_beside_13 (by decide) ?_
  refine z_istore (ls' := [qR a, qI (((k + 1) : Nat) : Int), qI 0, qI (n : Int), qI ((((k + 1) : Nat) : Int) - 1), qU]) d_X12_beside_19 (by decide) rfl ?_
  refine z_iload d_X12_beside_21 rfl ?_
  refine z_iconst d_X12_beside_23 (by decide) ?_
  refine z_iload_n d_X12_beside_24 rfl rfl ?_
  refine z_iconst d_X12_beside_25 (by decide) ?_
  refine z_isub d_X12_beside_26 (by omega) ?_
  refine z_cs (M1 := M_X12_in) d_X12_beside_27 ls_X12_137 k_X12_in [qI ((((k + 1) : Nat) : Int) - 1), qI 0, qI ((n : Int) - 1)] rfl rfl (Nat.le_of_ble_eq_true rfl) (by decide) (by decide) (Nat.le_of_ble_eq_true rfl) (c_in ((((k + 1) : Nat) : Int) - 1) 0 ((n : Int) - 1)) ?_
  refine z_ifneB 57 d_X12_beside_30 (by decide) (fun hc2 => ?_) (fun hc2 => absurd hc2 (by omega))
  refine z_aload_n d_X12_beside_57 rfl rfl ?_
  refine z_sipush d_X12_beside_58 (by decide) ?_
  refine z_iload_n d_X12_beside_61 rfl rfl ?_
  refine z_if_ne 70 d_X12_beside_62 (by decide) (fun hc3 => absurd hc3 (by decide)) (fun hc3 => ?_)
  refine z_iload d_X12_beside_65 rfl ?_
  refine z_goto 71 d_X12_beside_67 (by decide) ?_
  refine z_iadd d_X12_beside_71 (by omega) ?_
  refine z_ild (128 + k) d_X12_beside_72 e0 (by omega) (by omega) ?_
  refine z_istore (ls' := [qR a, qI (((k + 1) : Nat) : Int), qI 0, qI (n : Int), qI ((((k + 1) : Nat) : Int) - 1), qI (F (128 + k))]) d_X12_beside_73 (by decide) rfl ?_
  refine z_iload d_X12_beside_75 rfl ?_
  refine z_iconst d_X12_beside_77 (by decide) ?_
  refine z_iload_n d_X12_beside_78 rfl rfl ?_
  refine z_isub d_X12_beside_79 (by decide) ?_
  show qEx _ _ _ (qI 1 :: _) _ _ _
  refine z_cs (M1 := M_X12_has) d_X12_beside_80 ls_X12_259 k_X12_has [qI (F (128 + k)), qI 1] rfl rfl (Nat.le_of_ble_eq_true rfl) (by decide) (by decide) (Nat.le_of_ble_eq_true rfl) (c_has (F (128 + k)) 1 (by omega)) ?_
  suffices kJ83 : qEx M_X12_beside 92 [qR a, qI (((k + 1) : Nat) : Int), qI 0, qI (n : Int), qI ((((k + 1) : Nat) : Int) - 1), qI (F (128 + k))] [qI (qif (¬ (tb (F (128 + k)) 1 = true)) ((((k + 1) : Nat) : Int) - 1) (-1))] h r hr by
    refine z_ifeqB 90 d_X12_beside_83 (by decide) (fun hc4 => ?_) (fun hc4 => ?_)
    · refine z_iload d_X12_beside_90 rfl ?_
      exact z_eq rfl (qc (qi (qif_t hc4).symm) rfl) rfl kJ83
    · refine z_iconst d_X12_beside_86 (by decide) ?_
      refine z_goto 92 d_X12_beside_87 (by decide) ?_
      exact z_eq rfl (qc (qi (qif_f (fun z => z hc4)).symm) rfl) rfl kJ83
  exact z_iret d_X12_beside_92 rfl (qer er (by rw [snL_s, qif_not, show (((k + 1 : Nat) : Int) - 1) = (k : Int) by omega])) eh
set_option maxRecDepth 20000 in
set_option maxHeartbeats 4000000 in
theorem c_bes00 {h : qH} {a n : Nat} {F : Nat → Int} (e0 : h.2.2 a = qAr 0 167 F) (hN : F 160 = (n : Int)) (hn : n ≤ 32) (hk : 0 < n) : qEx M_X12_beside 0 [qR a, qI 0, qI 0, qU, qU, qU] [] h (some (qI (snL n (F 161 ≠ 0) (fun j => F (128 + j)) 0))) h := by
  refine q_gen (fun r hr er eh => ?_)
  refine z_aload_n d_X12_beside_0 rfl rfl ?_
  refine z_sipush d_X12_beside_1 (by decide) ?_
  refine z_ild 160 d_X12_beside_4 e0 rfl (by omega) ?_
  refine z_eq rfl (qc (qi hN) rfl) rfl ?_
  refine z_istore_n (ls' := [qR a, qI 0, qI 0, qI (n : Int), qU, qU]) d_X12_beside_5 rfl (by decide) rfl ?_
  refine z_iload_n d_X12_beside_6 rfl rfl ?_
  refine z_if_ne 16 d_X12_beside_7 (by decide) (fun hc1 => absurd hc1 (by decide)) (fun hc1 => ?_)
  refine z_iload_n d_X12_beside_10 rfl rfl ?_
  refine z_iconst d_X12_beside_11 (by decide) ?_
  refine z_isub d_X12_beside_12 (by decide) ?_
  show qEx _ _ _ (qI (-1) :: _) _ _ _
  refine z_goto 19 d_X12_beside_13 (by decide) ?_
  refine z_istore (ls' := [qR a, qI 0, qI 0, qI (n : Int), qI (-1), qU]) d_X12_beside_19 (by decide) rfl ?_
  refine z_iload d_X12_beside_21 rfl ?_
  refine z_iconst d_X12_beside_23 (by decide) ?_
  refine z_iload_n d_X12_beside_24 rfl rfl ?_
  refine z_iconst d_X12_beside_25 (by decide) ?_
  refine z_isub d_X12_beside_26 (by omega) ?_
  refine z_cs (M1 := M_X12_in) d_X12_beside_27 ls_X12_137 k_X12_in [qI (-1), qI 0, qI ((n : Int) - 1)] rfl rfl (Nat.le_of_ble_eq_true rfl) (by decide) (by decide) (Nat.le_of_ble_eq_true rfl) (c_in (-1) 0 ((n : Int) - 1)) ?_
  refine z_ifneB 57 d_X12_beside_30 (by decide) (fun hc2 => absurd hc2 (by omega)) (fun hc2 => ?_)
  refine z_aload_n d_X12_beside_33 rfl rfl ?_
  refine z_sipush d_X12_beside_34 (by decide) ?_
  refine z_ild 161 d_X12_beside_37 e0 rfl (by omega) ?_
  refine z_if_ne 43 d_X12_beside_38 (by decide) (fun hg => ?_) (fun hg => ?_)
  · refine z_iload d_X12_beside_43 rfl ?_
    refine z_if_ge 54 d_X12_beside_45 (by decide) (fun hc3 => absurd hc3 (by decide)) (fun hc3 => ?_)
    refine z_iload_n d_X12_beside_48 rfl rfl ?_
    refine z_iconst d_X12_beside_49 (by decide) ?_
    refine z_isub d_X12_beside_50 (by omega) ?_
    refine z_goto 55 d_X12_beside_51 (by decide) ?_
    refine z_istore (ls' := [qR a, qI 0, qI 0, qI (n : Int), qI ((n : Int) - 1), qU]) d_X12_beside_55 (by decide) rfl ?_
    refine z_aload_n d_X12_beside_57 rfl rfl ?_
    refine z_sipush d_X12_beside_58 (by decide) ?_
    refine z_iload_n d_X12_beside_61 rfl rfl ?_
    refine z_if_ne 70 d_X12_beside_62 (by decide) (fun hc4 => absurd hc4 (by decide)) (fun hc4 => ?_)
    refine z_iload d_X12_beside_65 rfl ?_
    refine z_goto 71 d_X12_beside_67 (by decide) ?_
    refine z_iadd d_X12_beside_71 (by omega) ?_
    refine z_ild (128 + (n - 1)) d_X12_beside_72 e0 (by omega) (by omega) ?_
    refine z_istore (ls' := [qR a, qI 0, qI 0, qI (n : Int), qI ((n : Int) - 1), qI (F (128 + (n - 1)))]) d_X12_beside_73 (by decide) rfl ?_
    refine z_iload d_X12_beside_75 rfl ?_
    refine z_iconst d_X12_beside_77 (by decide) ?_
    refine z_iload_n d_X12_beside_78 rfl rfl ?_
    refine z_isub d_X12_beside_79 (by decide) ?_
    show qEx _ _ _ (qI 1 :: _) _ _ _
    refine z_cs (M1 := M_X12_has) d_X12_beside_80 ls_X12_259 k_X12_has [qI (F (128 + (n - 1))), qI 1] rfl rfl (Nat.le_of_ble_eq_true rfl) (by decide) (by decide) (Nat.le_of_ble_eq_true rfl) (c_has (F (128 + (n - 1))) 1 (by omega)) ?_
    suffices kJ83 : qEx M_X12_beside 92 [qR a, qI 0, qI 0, qI (n : Int), qI ((n : Int) - 1), qI (F (128 + (n - 1)))] [qI (qif (¬ (tb (F (128 + (n - 1))) 1 = true)) ((n : Int) - 1) (-1))] h r hr by
      refine z_ifeqB 90 d_X12_beside_83 (by decide) (fun hc5 => ?_) (fun hc5 => ?_)
      · refine z_iload d_X12_beside_90 rfl ?_
        exact z_eq rfl (qc (qi (qif_t hc5).symm) rfl) rfl kJ83
      · refine z_iconst d_X12_beside_86 (by decide) ?_
        refine z_goto 92 d_X12_beside_87 (by decide) ?_
        exact z_eq rfl (qc (qi (qif_f (fun z => z hc5)).symm) rfl) rfl kJ83
    exact z_iret d_X12_beside_92 rfl (qer er (by rw [snL_0r _ hg hk, qif_not])) eh
  · refine z_iconst d_X12_beside_41 (by decide) ?_
    exact z_iret d_X12_beside_42 rfl (qer er (snL_0n _ (by omega))) eh
set_option maxRecDepth 20000 in
set_option maxHeartbeats 4000000 in
theorem c_bes1i {h : qH} {a n : Nat} {F : Nat → Int} (k : Nat) (e0 : h.2.2 a = qAr 0 167 F) (hN : F 160 = (n : Int)) (hn : n ≤ 32) (hk : k + 1 < n) : qEx M_X12_beside 0 [qR a, qI (k : Int), qI 1, qU, qU, qU] [] h (some (qI (snR n (F 161 ≠ 0) (fun j => F (128 + j)) k))) h := by
  refine q_gen (fun r hr er eh => ?_)
  refine z_aload_n d_X12_beside_0 rfl rfl ?_
  refine z_sipush d_X12_beside_1 (by decide) ?_
  refine z_ild 160 d_X12_beside_4 e0 rfl (by omega) ?_
  refine z_eq rfl (qc (qi hN) rfl) rfl ?_
  refine z_istore_n (ls' := [qR a, qI (k : Int), qI 1, qI (n : Int), qU, qU]) d_X12_beside_5 rfl (by decide) rfl ?_
  refine z_iload_n d_X12_beside_6 rfl rfl ?_
  refine z_if_ne 16 d_X12_beside_7 (by decide) (fun hc1 => ?_) (fun hc1 => absurd (by decide) hc1)
  refine z_iload_n d_X12_beside_16 rfl rfl ?_
  refine z_iconst d_X12_beside_17 (by decide) ?_
  refine z_iadd d_X12_beside_18 (by omega) ?_
  refine z_istore (ls' := [qR a, qI (k : Int), qI 1, qI (n : Int), qI ((k : Int) + 1), qU]) d_X12_beside_19 (by decide) rfl ?_
  refine z_iload d_X12_beside_21 rfl ?_
  refine z_iconst d_X12_beside_23 (by decide) ?_
  refine z_iload_n d_X12_beside_24 rfl rfl ?_
  refine z_iconst d_X12_beside_25 (by decide) ?_
  refine z_isub d_X12_beside_26 (by omega) ?_
  refine z_cs (M1 := M_X12_in) d_X12_beside_27 ls_X12_137 k_X12_in [qI ((k : Int) + 1), qI 0, qI ((n : Int) - 1)] rfl rfl (Nat.le_of_ble_eq_true rfl) (by decide) (by decide) (Nat.le_of_ble_eq_true rfl) (c_in ((k : Int) + 1) 0 ((n : Int) - 1)) ?_
  refine z_ifneB 57 d_X12_beside_30 (by decide) (fun hc2 => ?_) (fun hc2 => absurd hc2 (by omega))
  refine z_aload_n d_X12_beside_57 rfl rfl ?_
  refine z_sipush d_X12_beside_58 (by decide) ?_
  refine z_iload_n d_X12_beside_61 rfl rfl ?_
  refine z_if_ne 70 d_X12_beside_62 (by decide) (fun hc3 => ?_) (fun hc3 => absurd (by decide) hc3)
  refine z_iload_n d_X12_beside_70 rfl rfl ?_
  refine z_iadd d_X12_beside_71 (by omega) ?_
  refine z_ild (128 + k) d_X12_beside_72 e0 rfl (by omega) ?_
  refine z_istore (ls' := [qR a, qI (k : Int), qI 1, qI (n : Int), qI ((k : Int) + 1), qI (F (128 + k))]) d_X12_beside_73 (by decide) rfl ?_
  refine z_iload d_X12_beside_75 rfl ?_
  refine z_iconst d_X12_beside_77 (by decide) ?_
  refine z_iload_n d_X12_beside_78 rfl rfl ?_
  refine z_isub d_X12_beside_79 (by decide) ?_
  show qEx _ _ _ (qI 0 :: _) _ _ _
  refine z_cs (M1 := M_X12_has) d_X12_beside_80 ls_X12_259 k_X12_has [qI (F (128 + k)), qI 0] rfl rfl (Nat.le_of_ble_eq_true rfl) (by decide) (by decide) (Nat.le_of_ble_eq_true rfl) (c_has (F (128 + k)) 0 (by omega)) ?_
  suffices kJ83 : qEx M_X12_beside 92 [qR a, qI (k : Int), qI 1, qI (n : Int), qI ((k : Int) + 1), qI (F (128 + k))] [qI (qif (¬ (tb (F (128 + k)) 0 = true)) ((k : Int) + 1) (-1))] h r hr by
    refine z_ifeqB 90 d_X12_beside_83 (by decide) (fun hc4 => ?_) (fun hc4 => ?_)
    · refine z_iload d_X12_beside_90 rfl ?_
      exact z_eq rfl (qc (qi (qif_t hc4).symm) rfl) rfl kJ83
    · refine z_iconst d_X12_beside_86 (by decide) ?_
      refine z_goto 92 d_X12_beside_87 (by decide) ?_
      exact z_eq rfl (qc (qi (qif_f (fun z => z hc4)).symm) rfl) rfl kJ83
  exact z_iret d_X12_beside_92 rfl (qer er (by rw [snR_i _ hk, qif_not])) eh
set_option maxRecDepth 20000 in
set_option maxHeartbeats 4000000 in
theorem c_bes1o {h : qH} {a n : Nat} {F : Nat → Int} (k : Nat) (e0 : h.2.2 a = qAr 0 167 F) (hN : F 160 = (n : Int)) (hn : n ≤ 32) (hk : k < n) (hk2 : ¬ k + 1 < n) : qEx M_X12_beside 0 [qR a, qI (k : Int), qI 1, qU, qU, qU] [] h (some (qI (snR n (F 161 ≠ 0) (fun j => F (128 + j)) k))) h := by
  refine q_gen (fun r hr er eh => ?_)
  refine z_aload_n d_X12_beside_0 rfl rfl ?_
  refine z_sipush d_X12_beside_1 (by decide) ?_
  refine z_ild 160 d_X12_beside_4 e0 rfl (by omega) ?_
  refine z_eq rfl (qc (qi hN) rfl) rfl ?_
  refine z_istore_n (ls' := [qR a, qI (k : Int), qI 1, qI (n : Int), qU, qU]) d_X12_beside_5 rfl (by decide) rfl ?_
  refine z_iload_n d_X12_beside_6 rfl rfl ?_
  refine z_if_ne 16 d_X12_beside_7 (by decide) (fun hc1 => ?_) (fun hc1 => absurd (by decide) hc1)
  refine z_iload_n d_X12_beside_16 rfl rfl ?_
  refine z_iconst d_X12_beside_17 (by decide) ?_
  refine z_iadd d_X12_beside_18 (by omega) ?_
  refine z_istore (ls' := [qR a, qI (k : Int), qI 1, qI (n : Int), qI ((k : Int) + 1), qU]) d_X12_beside_19 (by decide) rfl ?_
  refine z_iload d_X12_beside_21 rfl ?_
  refine z_iconst d_X12_beside_23 (by decide) ?_
  refine z_iload_n d_X12_beside_24 rfl rfl ?_
  refine z_iconst d_X12_beside_25 (by decide) ?_
  refine z_isub d_X12_beside_26 (by omega) ?_
  refine z_cs (M1 := M_X12_in) d_X12_beside_27 ls_X12_137 k_X12_in [qI ((k : Int) + 1), qI 0, qI ((n : Int) - 1)] rfl rfl (Nat.le_of_ble_eq_true rfl) (by decide) (by decide) (Nat.le_of_ble_eq_true rfl) (c_in ((k : Int) + 1) 0 ((n : Int) - 1)) ?_
  refine z_ifneB 57 d_X12_beside_30 (by decide) (fun hc2 => absurd hc2 (by omega)) (fun hc2 => ?_)
  refine z_aload_n d_X12_beside_33 rfl rfl ?_
  refine z_sipush d_X12_beside_34 (by decide) ?_
  refine z_ild 161 d_X12_beside_37 e0 rfl (by omega) ?_
  refine z_if_ne 43 d_X12_beside_38 (by decide) (fun hg => ?_) (fun hg => ?_)
  · refine z_iload d_X12_beside_43 rfl ?_
    refine z_if_ge 54 d_X12_beside_45 (by decide) (fun hc3 => ?_) (fun hc3 => absurd hc3 (by omega))
    refine z_iconst d_X12_beside_54 (by decide) ?_
    refine z_istore (ls' := [qR a, qI (k : Int), qI 1, qI (n : Int), qI 0, qU]) d_X12_beside_55 (by decide) rfl ?_
    refine z_aload_n d_X12_beside_57 rfl rfl ?_
    refine z_sipush d_X12_beside_58 (by decide) ?_
    refine z_iload_n d_X12_beside_61 rfl rfl ?_
    refine z_if_ne 70 d_X12_beside_62 (by decide) (fun hc4 => ?_) (fun hc4 => absurd (by decide) hc4)
    refine z_iload_n d_X12_beside_70 rfl rfl ?_
    refine z_iadd d_X12_beside_71 (by omega) ?_
    refine z_ild (128 + k) d_X12_beside_72 e0 rfl (by omega) ?_
    refine z_istore (ls' := [qR a, qI (k : Int), qI 1, qI (n : Int), qI 0, qI (F (128 + k))]) d_X12_beside_73 (by decide) rfl ?_
    refine z_iload d_X12_beside_75 rfl ?_
    refine z_iconst d_X12_beside_77 (by decide) ?_
    refine z_iload_n d_X12_beside_78 rfl rfl ?_
    refine z_isub d_X12_beside_79 (by decide) ?_
    show qEx _ _ _ (qI 0 :: _) _ _ _
    refine z_cs (M1 := M_X12_has) d_X12_beside_80 ls_X12_259 k_X12_has [qI (F (128 + k)), qI 0] rfl rfl (Nat.le_of_ble_eq_true rfl) (by decide) (by decide) (Nat.le_of_ble_eq_true rfl) (c_has (F (128 + k)) 0 (by omega)) ?_
    suffices kJ83 : qEx M_X12_beside 92 [qR a, qI (k : Int), qI 1, qI (n : Int), qI 0, qI (F (128 + k))] [qI (qif (¬ (tb (F (128 + k)) 0 = true)) 0 (-1))] h r hr by
      refine z_ifeqB 90 d_X12_beside_83 (by decide) (fun hc5 => ?_) (fun hc5 => ?_)
      · refine z_iload d_X12_beside_90 rfl ?_
        exact z_eq rfl (qc (qi (qif_t hc5).symm) rfl) rfl kJ83
      · refine z_iconst d_X12_beside_86 (by decide) ?_
        refine z_goto 92 d_X12_beside_87 (by decide) ?_
        exact z_eq rfl (qc (qi (qif_f (fun z => z hc5)).symm) rfl) rfl kJ83
    exact z_iret d_X12_beside_92 rfl (qer er (by rw [snR_r _ hk2 hg, qif_not])) eh
  · refine z_iconst d_X12_beside_41 (by decide) ?_
    exact z_iret d_X12_beside_42 rfl (qer er (snR_n _ hk2 (by omega))) eh
theorem c_beside0 {h : qH} {a n : Nat} {F : Nat → Int} (k : Nat) (e0 : h.2.2 a = qAr 0 167 F) (hN : F 160 = (n : Int)) (hn : n ≤ 32) (hk : k < n) : qEx M_X12_beside 0 [qR a, qI (k : Int), qI 0, qU, qU, qU] [] h (some (qI (snL n (F 161 ≠ 0) (fun j => F (128 + j)) k))) h := by
  cases k with
  | zero => exact c_bes00 e0 hN hn hk
  | succ k => exact c_bes0s k e0 hN hn hk
theorem c_beside1 {h : qH} {a n : Nat} {F : Nat → Int} (k : Nat) (e0 : h.2.2 a = qAr 0 167 F) (hN : F 160 = (n : Int)) (hn : n ≤ 32) (hk : k < n) : qEx M_X12_beside 0 [qR a, qI (k : Int), qI 1, qU, qU, qU] [] h (some (qI (snR n (F 161 ≠ 0) (fun j => F (128 + j)) k))) h := by
  by_cases h1 : k + 1 < n
  · exact c_bes1i k e0 hN hn h1
  · exact c_bes1o k e0 hN hn hk h1
set_option maxRecDepth 20000 in
set_option maxHeartbeats 4000000 in
theorem c_sees0 {h : qH} {a n : Nat} {F : Nat → Int} (k : Nat) (e0 : h.2.2 a = qAr 0 167 F) (hN : F 160 = (n : Int)) (hn : n ≤ 32) (hk : k < n) : qEx M_X12_sees 0 [qR a, qI (k : Int), qI 0, qU] [] h (some (qI (saw (snL n (F 161 ≠ 0) (fun j => F (128 + j)) k) (F (96 + k) = 1) F (fun j => F (32 + j))))) h := by
  refine q_gen (fun r hr er eh => ?_)
  have hb := snL_bd (ring := (F 161 ≠ 0)) (fun j => F (128 + j)) hk
  refine z_aload_n d_X12_sees_0 rfl rfl ?_
  refine z_iload_n d_X12_sees_1 rfl rfl ?_
  refine z_iload_n d_X12_sees_2 rfl rfl ?_
  refine z_cs (M1 := M_X12_beside) d_X12_sees_3 ls_X12_292 k_X12_beside [qR a, qI (k : Int), qI 0] rfl rfl (Nat.le_of_ble_eq_true rfl) (by decide) (by decide) (Nat.le_of_ble_eq_true rfl) (c_beside0 k e0 hN hn (by omega)) ?_
  refine z_istore_n (ls' := [qR a, qI (k : Int), qI 0, qI (snL n (F 161 ≠ 0) (fun j => F (128 + j)) k)]) d_X12_sees_6 rfl (by decide) rfl ?_
  refine z_iload_n d_X12_sees_7 rfl rfl ?_
  refine z_iconst d_X12_sees_8 (by decide) ?_
  refine z_icmp_ne 17 d_X12_sees_9 (by decide) (fun hq => ?_) (fun hq => ?_)
  · refine z_aload_n d_X12_sees_17 rfl rfl ?_
    refine z_aload_n d_X12_sees_18 rfl rfl ?_
    refine z_bipush d_X12_sees_19 (by decide) ?_
    refine z_iload_n d_X12_sees_21 rfl rfl ?_
    refine z_iadd d_X12_sees_22 (by omega) ?_
    refine z_ild (96 + k) d_X12_sees_23 e0 rfl (by omega) ?_
    refine z_iconst d_X12_sees_24 (by decide) ?_
    refine z_icmp_ne 33 d_X12_sees_25 (by decide) (fun hl => ?_) (fun hl => ?_)
    · refine z_iconst d_X12_sees_33 (by decide) ?_
      refine z_iload_n d_X12_sees_34 rfl rfl ?_
      refine z_iadd d_X12_sees_35 (by omega) ?_
      refine z_ild ((snL n (F 161 ≠ 0) (fun j => F (128 + j)) k).toNat) d_X12_sees_36 e0 (by omega) (by omega) ?_
      exact z_iret d_X12_sees_37 rfl (qer er ((qif_f hq).trans (qif_f hl))) eh
    · refine z_bipush d_X12_sees_28 (by decide) ?_
      refine z_goto 34 d_X12_sees_30 (by decide) ?_
      refine z_iload_n d_X12_sees_34 rfl rfl ?_
      refine z_iadd d_X12_sees_35 (by omega) ?_
      refine z_ild (32 + (snL n (F 161 ≠ 0) (fun j => F (128 + j)) k).toNat) d_X12_sees_36 e0 (by omega) (by omega) ?_
      exact z_iret d_X12_sees_37 rfl (qer er ((qif_f hq).trans (qif_t (by omega)))) eh
  · refine z_bipush d_X12_sees_12 (by decide) ?_
    refine z_goto 37 d_X12_sees_14 (by decide) ?_
    exact z_iret d_X12_sees_37 rfl (qer er (qif_t (by omega))) eh
set_option maxRecDepth 20000 in
set_option maxHeartbeats 4000000 in
theorem c_sees1 {h : qH} {a n : Nat} {F : Nat → Int} (k : Nat) (e0 : h.2.2 a = qAr 0 167 F) (hN : F 160 = (n : Int)) (hn : n ≤ 32) (hk : k < n) : qEx M_X12_sees 0 [qR a, qI (k : Int), qI 1, qU] [] h (some (qI (saw (snR n (F 161 ≠ 0) (fun j => F (128 + j)) k) (F (96 + k) = 1) F (fun j => F (32 + j))))) h := by
  refine q_gen (fun r hr er eh => ?_)
  have hb := snR_bd (ring := (F 161 ≠ 0)) (fun j => F (128 + j)) hk
  refine z_aload_n d_X12_sees_0 rfl rfl ?_
  refine z_iload_n d_X12_sees_1 rfl rfl ?_
  refine z_iload_n d_X12_sees_2 rfl rfl ?_
  refine z_cs (M1 := M_X12_beside) d_X12_sees_3 ls_X12_292 k_X12_beside [qR a, qI (k : Int), qI 1] rfl rfl (Nat.le_of_ble_eq_true rfl) (by decide) (by decide) (Nat.le_of_ble_eq_true rfl) (c_beside1 k e0 hN hn (by omega)) ?_
  refine z_istore_n (ls' := [qR a, qI (k : Int), qI 1, qI (snR n (F 161 ≠ 0) (fun j => F (128 + j)) k)]) d_X12_sees_6 rfl (by decide) rfl ?_
  refine z_iload_n d_X12_sees_7 rfl rfl ?_
  refine z_iconst d_X12_sees_8 (by decide) ?_
  refine z_icmp_ne 17 d_X12_sees_9 (by decide) (fun hq => ?_) (fun hq => ?_)
  · refine z_aload_n d_X12_sees_17 rfl rfl ?_
    refine z_aload_n d_X12_sees_18 rfl rfl ?_
    refine z_bipush d_X12_sees_19 (by decide) ?_
    refine z_iload_n d_X12_sees_21 rfl rfl ?_
    refine z_iadd d_X12_sees_22 (by omega) ?_
    refine z_ild (96 + k) d_X12_sees_23 e0 rfl (by omega) ?_
    refine z_iconst d_X12_sees_24 (by decide) ?_
    refine z_icmp_ne 33 d_X12_sees_25 (by decide) (fun hl => ?_) (fun hl => ?_)
    · refine z_iconst d_X12_sees_33 (by decide) ?_
      refine z_iload_n d_X12_sees_34 rfl rfl ?_
      refine z_iadd d_X12_sees_35 (by omega) ?_
      refine z_ild ((snR n (F 161 ≠ 0) (fun j => F (128 + j)) k).toNat) d_X12_sees_36 e0 (by omega) (by omega) ?_
      exact z_iret d_X12_sees_37 rfl (qer er ((qif_f hq).trans (qif_f hl))) eh
    · refine z_bipush d_X12_sees_28 (by decide) ?_
      refine z_goto 34 d_X12_sees_30 (by decide) ?_
      refine z_iload_n d_X12_sees_34 rfl rfl ?_
      refine z_iadd d_X12_sees_35 (by omega) ?_
      refine z_ild (32 + (snR n (F 161 ≠ 0) (fun j => F (128 + j)) k).toNat) d_X12_sees_36 e0 (by omega) (by omega) ?_
      exact z_iret d_X12_sees_37 rfl (qer er ((qif_f hq).trans (qif_t (by omega)))) eh
  · refine z_bipush d_X12_sees_12 (by decide) ?_
    refine z_goto 37 d_X12_sees_14 (by decide) ?_
    exact z_iret d_X12_sees_37 rfl (qer er (qif_t (by omega))) eh
/-- over a row N of the reference: the case of keeper k, whether he asks, what he then has in mind, whether a rule decided -/
noncomputable def rcs (N : Nat → Int) (n k : Nat) : Int := qcs n (N 161 ≠ 0) (fun j => N (128 + j)) (fun j => N (96 + j) = 1) N (fun j => N (32 + j)) k
def rak (N : Nat → Int) (k : Nat) : Prop := N (64 + k) = 0 ∧ N k ≠ 7
noncomputable def rnx (T N : Nat → Int) (n k : Nat) : Int := qif (rak N k) (T (rcs N n k).toNat) (N k)
def rdc (D N : Nat → Int) (n k : Nat) : Prop := rak N k ∧ D (rcs N n k).toNat ≠ -1
/-- the row behind i keepers' move -/
noncomputable def rmv (T N : Nat → Int) (n i : Nat) : Nat → Int := fun j => if j < i then rnx T N n j else if 32 ≤ j ∧ j < 32 + i then N (j - 32) else N j
theorem rmv_s (T N : Nat → Int) (n i : Nat) (hi : i < 32) : qup (qup (rmv T N n i) (32 + i) (N i)) i (rnx T N n i) = rmv T N n (i + 1) := by
  funext j
  unfold qup rmv
  by_cases h1 : j = i
  · rw [if_pos h1, if_pos (show j < i + 1 by omega), h1]
  · rw [if_neg h1]
    by_cases h2 : j = 32 + i
    · rw [if_pos h2, if_neg (show ¬ j < i + 1 by omega), if_pos (show 32 ≤ j ∧ j < 32 + (i + 1) by omega), show j - 32 = i by omega]
    · rw [if_neg h2]
      by_cases h3 : j < i
      · rw [if_pos h3, if_pos (show j < i + 1 by omega)]
      · rw [if_neg h3, if_neg (show ¬ j < i + 1 by omega)]
        by_cases h4 : 32 ≤ j ∧ j < 32 + i
        · rw [if_pos h4, if_pos (show 32 ≤ j ∧ j < 32 + (i + 1) by omega)]
        · rw [if_neg h4, if_neg (show ¬ (32 ≤ j ∧ j < 32 + (i + 1)) by omega)]
theorem rmv_at (T N : Nat → Int) (n : Nat) {i : Nat} (hi : i < 32) : rmv T N n i i = N i := by
  unfold rmv
  rw [if_neg (by omega), if_neg (by omega)]
theorem rmv_0 (T N : Nat → Int) (n : Nat) : rmv T N n 0 = N := by
  funext j
  unfold rmv
  rw [if_neg (by omega), if_neg (by omega)]
set_option maxRecDepth 20000 in
set_option maxHeartbeats 4000000 in
theorem c_goesOn11 {h : qH} {m : Nat} {f : Nat → Int} {g : Nat → Nat → Int} {n : Nat} (hm : 2 ≤ m) (hN : g 11 160 = (n : Int)) (hn : n ≤ 32) (hm7 : ∀ k, k < n → 0 ≤ g 11 k ∧ g 11 k ≤ 7) (hw7 : ∀ k, k < n → 0 ≤ g 11 (32 + k) ∧ g 11 (32 + k) ≤ 7) : qEx M_X12_goesOn 0 [qR m, qR (m + 11), qU, qU, qU, qU] [] (rput h m f g) (some (qI (cnt (rdc (g 26) (g 11) n) n))) (rput h m f (gup (gup g 29 (qmx n (rnx (g 25) (g 11) n) (g 29))) 11 (rmv (g 25) (g 11) n n))) := by
  refine q_gen (fun r hr er eh => ?_)
  refine z_iconst d_X12_goesOn_0 (by decide) ?_
  refine z_istore_n (ls' := [qR m, qR (m + 11), qI 0, qU, qU, qU]) d_X12_goesOn_1 rfl (by decide) rfl ?_
  refine z_iconst d_X12_goesOn_2 (by decide) ?_
  refine z_istore_n (ls' := [qR m, qR (m + 11), qI 0, qI 0, qU, qU]) d_X12_goesOn_3 rfl (by decide) rfl ?_
  refine z_eq (qc rfl (qc rfl (qc (qi (rfl)) (qc (qi (by omega)) (qc rfl (qc rfl rfl)))))) rfl (rput_cg rfl (gup_self (qmx_0 _ _).symm).symm) (z_for n (fun i => [qR m, qR (m + 11), qI (cnt (rdc (g 26) (g 11) n) i), qI (i : Int), qU, qU]) (fun i => (rput h m f (gup g 29 (qmx i (rnx (g 25) (g 11) n) (g 29))))) (fun i => True) trivial (fun i hii hp kki => ?_) (fun hp => ?_))
  · show qEx M_X12_goesOn 4 [qR m, qR (m + 11), qI (cnt (rdc (g 26) (g 11) n) i), qI (i : Int), qU, qU] [] (rput h m f (gup g 29 (qmx i (rnx (g 25) (g 11) n) (g 29)))) r hr
    have hb := qcs_bd (ring := g 11 161 ≠ 0) (ga := fun j => g 11 (128 + j)) (late := fun j => g 11 (96 + j) = 1) hii hm7 hw7
    have e1 := saw_bd (late := g 11 (96 + i) = 1) (snL_bd (ring := g 11 161 ≠ 0) (fun j => g 11 (128 + j)) hii) hm7 hw7
    have e2 := saw_bd (late := g 11 (96 + i) = 1) (snR_bd (ring := g 11 161 ≠ 0) (fun j => g 11 (128 + j)) hii) hm7 hw7
    have e3 := hm7 i hii
    have b1 := cnt_bd (rdc (g 26) (g 11) n) i
    have b2 := qb_bd (rdc (g 26) (g 11) n i)
    have hcs : 81 * g 11 i + 9 * saw (snL n (g 11 161 ≠ 0) (fun j => g 11 (128 + j)) i) (g 11 (96 + i) = 1) (g 11) (fun j => g 11 (32 + j)) + saw (snR n (g 11 161 ≠ 0) (fun j => g 11 (128 + j)) i) (g 11 (96 + i) = 1) (g 11) (fun j => g 11 (32 + j)) = rcs (g 11) n i := rfl
    have hcb : 0 ≤ rcs (g 11) n i ∧ rcs (g 11) n i < 648 := hb
    refine z_iload_n d_X12_goesOn_4 rfl rfl ?_
    refine z_aload_n d_X12_goesOn_5 rfl rfl ?_
    refine z_sipush d_X12_goesOn_6 (by decide) ?_
    refine z_ild 160 d_X12_goesOn_9 (rput_a2 11 (t := 0) (n := 167) (F := (g 11)) rfl rfl rfl (by decide) (by decide)) rfl (by omega) ?_
    refine z_eq rfl (qc (qi hN) rfl) rfl ?_
    refine z_icmp_ge 117 d_X12_goesOn_10 (by decide) (fun hc1 => absurd hc1 (by omega)) (fun hc1 => ?_)
    refine z_aload_n d_X12_goesOn_13 rfl rfl ?_
    refine z_bipush d_X12_goesOn_14 (by decide) ?_
    refine z_iload_n d_X12_goesOn_16 rfl rfl ?_
    refine z_iadd d_X12_goesOn_17 (by omega) ?_
    refine z_ild (64 + i) d_X12_goesOn_18 (rput_a2 11 (t := 0) (n := 167) (F := (g 11)) rfl rfl rfl (by decide) (by decide)) rfl (by omega) ?_
    suffices kJ19 : qEx M_X12_goesOn 37 [qR m, qR (m + 11), qI (cnt (rdc (g 26) (g 11) n) i), qI (i : Int), qU, qU] [qI (qb ((((g 11) (64 + i)) = 0) ∧ (((g 11) i) ≠ 7)))] (rput h m f (gup g 29 (qmx i (rnx (g 25) (g 11) n) (g 29)))) r hr by
      refine z_if_ne 36 d_X12_goesOn_19 (by decide) (fun hc2 => ?_) (fun hc2 => ?_)
      · refine z_iconst d_X12_goesOn_36 (by decide) ?_
        exact z_eq rfl (qc (qi (qb_f (by omega)).symm) rfl) rfl kJ19
      · refine z_aload_n d_X12_goesOn_22 rfl rfl ?_
        refine z_iconst d_X12_goesOn_23 (by decide) ?_
        refine z_iload_n d_X12_goesOn_24 rfl rfl ?_
        refine z_iadd d_X12_goesOn_25 (by omega) ?_
        refine z_ild i d_X12_goesOn_26 (rput_a2 11 (t := 0) (n := 167) (F := (g 11)) rfl rfl rfl (by decide) (by decide)) (by omega) (by omega) ?_
        refine z_bipush d_X12_goesOn_27 (by decide) ?_
        suffices kJ29 : qEx M_X12_goesOn 37 [qR m, qR (m + 11), qI (cnt (rdc (g 26) (g 11) n) i), qI (i : Int), qU, qU] [qI (qb (((g 11) i) ≠ 7))] (rput h m f (gup g 29 (qmx i (rnx (g 25) (g 11) n) (g 29)))) r hr by
          refine z_icmp_eq 36 d_X12_goesOn_29 (by decide) (fun hc3 => ?_) (fun hc3 => ?_)
          · refine z_iconst d_X12_goesOn_36 (by decide) ?_
            exact z_eq rfl (qc (qi (qb_f (by omega)).symm) rfl) rfl kJ29
          · refine z_iconst d_X12_goesOn_32 (by decide) ?_
            refine z_goto 37 d_X12_goesOn_33 (by decide) ?_
            exact z_eq rfl (qc (qi (qb_t (by omega)).symm) rfl) rfl kJ29
        exact z_eq rfl (qc (qi (qb_congr (by omega))) rfl) rfl kJ19
    refine z_istore (ls' := [qR m, qR (m + 11), qI (cnt (rdc (g 26) (g 11) n) i), qI (i : Int), qI (qb ((((g 11) (64 + i)) = 0) ∧ (((g 11) i) ≠ 7))), qU]) d_X12_goesOn_37 (by decide) rfl ?_
    refine z_aload_n d_X12_goesOn_39 rfl rfl ?_
    refine z_iconst d_X12_goesOn_40 (by decide) ?_
    refine z_iload_n d_X12_goesOn_41 rfl rfl ?_
    refine z_iadd d_X12_goesOn_42 (by omega) ?_
    refine z_ild i d_X12_goesOn_43 (rput_a2 11 (t := 0) (n := 167) (F := (g 11)) rfl rfl rfl (by decide) (by decide)) (by omega) (by omega) ?_
    refine z_aload_n d_X12_goesOn_44 rfl rfl ?_
    refine z_iload_n d_X12_goesOn_45 rfl rfl ?_
    refine z_iconst d_X12_goesOn_46 (by decide) ?_
    refine z_cs (M1 := M_X12_sees) d_X12_goesOn_47 ls_X12_296 k_X12_sees [qR (m + 11), qI (i : Int), qI 0] rfl rfl (Nat.le_of_ble_eq_true rfl) (by decide) (by decide) (Nat.le_of_ble_eq_true rfl) (c_sees0 i (rput_a2 11 (t := 0) (n := 167) (F := (g 11)) rfl rfl rfl (by decide) (by decide)) hN hn (by omega)) ?_
    refine z_aload_n d_X12_goesOn_50 rfl rfl ?_
    refine z_iload_n d_X12_goesOn_51 rfl rfl ?_
    refine z_iconst d_X12_goesOn_52 (by decide) ?_
    refine z_cs (M1 := M_X12_sees) d_X12_goesOn_53 ls_X12_296 k_X12_sees [qR (m + 11), qI (i : Int), qI 1] rfl rfl (Nat.le_of_ble_eq_true rfl) (by decide) (by decide) (Nat.le_of_ble_eq_true rfl) (c_sees1 i (rput_a2 11 (t := 0) (n := 167) (F := (g 11)) rfl rfl rfl (by decide) (by decide)) hN hn (by omega)) ?_
    refine z_cs (M1 := M_X12_caseOf) d_X12_goesOn_56 ls_X12_263 k_X12_caseOf [qI ((g 11) i), qI (saw (snL n ((g 11) 161 ≠ 0) (fun j => (g 11) (128 + j)) i) ((g 11) (96 + i) = 1) (g 11) (fun j => (g 11) (32 + j))), qI (saw (snR n ((g 11) 161 ≠ 0) (fun j => (g 11) (128 + j)) i) ((g 11) (96 + i) = 1) (g 11) (fun j => (g 11) (32 + j)))] rfl rfl (Nat.le_of_ble_eq_true rfl) (by decide) (by decide) (Nat.le_of_ble_eq_true rfl) (c_caseOf2 ((g 11) i) (saw (snL n ((g 11) 161 ≠ 0) (fun j => (g 11) (128 + j)) i) ((g 11) (96 + i) = 1) (g 11) (fun j => (g 11) (32 + j))) (saw (snR n ((g 11) 161 ≠ 0) (fun j => (g 11) (128 + j)) i) ((g 11) (96 + i) = 1) (g 11) (fun j => (g 11) (32 + j))) (by omega) (by omega) (by omega)) ?_
    refine z_eq rfl (qc (qi hcs) rfl) rfl ?_
    refine z_istore (ls' := [qR m, qR (m + 11), qI (cnt (rdc (g 26) (g 11) n) i), qI (i : Int), qI (qb ((((g 11) (64 + i)) = 0) ∧ (((g 11) i) ≠ 7))), qI (rcs (g 11) n i)]) d_X12_goesOn_59 (by decide) rfl ?_
    refine z_aload_n d_X12_goesOn_61 rfl rfl ?_
    refine z_getf (v := qR (m + 29)) d_X12_goesOn_62 fl_X12_98 rput_o rfl ?_
    refine z_iload_n d_X12_goesOn_65 rfl rfl ?_
    refine z_iload d_X12_goesOn_66 rfl ?_
    suffices kJ68 : qEx M_X12_goesOn 86 [qR m, qR (m + 11), qI (cnt (rdc (g 26) (g 11) n) i), qI (i : Int), qI (qb ((((g 11) (64 + i)) = 0) ∧ (((g 11) i) ≠ 7))), qI (rcs (g 11) n i)] [qI (qif (¬ ((((g 11) (64 + i)) = 0) ∧ (((g 11) i) ≠ 7))) ((g 11) i) ((g 25) ((rcs (g 11) n i).toNat))), qI (i : Int), qR (m + 29)] (rput h m f (gup g 29 (qmx i (rnx (g 25) (g 11) n) (g 29)))) r hr by
      refine z_ifeqB 81 d_X12_goesOn_68 (by decide) (fun hc4 => ?_) (fun hc4 => ?_)
      · refine z_aload_n d_X12_goesOn_81 rfl rfl ?_
        refine z_iconst d_X12_goesOn_82 (by decide) ?_
        refine z_iload_n d_X12_goesOn_83 rfl rfl ?_
        refine z_iadd d_X12_goesOn_84 (by omega) ?_
        refine z_ild i d_X12_goesOn_85 (rput_a2 11 (t := 0) (n := 167) (F := (g 11)) rfl rfl rfl (by decide) (by decide)) (by omega) (by omega) ?_
        exact z_eq rfl (qc (qi (qif_t hc4).symm) (qc rfl (qc rfl rfl))) rfl kJ68
      · refine z_aload_n d_X12_goesOn_71 rfl rfl ?_
        refine z_getf (v := qR (m + 25)) d_X12_goesOn_72 fl_X12_86 rput_o rfl ?_
        refine z_iload d_X12_goesOn_75 rfl ?_
        refine z_ild ((rcs (g 11) n i).toNat) d_X12_goesOn_77 (rput_a2 25 (t := 0) (n := 648) (F := (g 25)) rfl rfl rfl (by decide) (by decide)) (by omega) (by omega) ?_
        refine z_goto 86 d_X12_goesOn_78 (by decide) ?_
        exact z_eq rfl (qc (qi (qif_f (fun z => z hc4)).symm) (qc rfl (qc rfl rfl))) rfl kJ68
    refine z_ist i d_X12_goesOn_86 (rput_a2 29 (t := 0) (n := 32) (F := (qmx i (rnx (g 25) (g 11) n) (g 29))) rfl rfl rfl (by decide) (by decide)) (by omega) rfl (by omega) ?_
    refine z_eq rfl rfl ((rput_sa 29 rfl rfl (by decide) (by decide)).trans (rput_cg rfl (gup_gup _ _ _))) ?_
    refine z_iload_n d_X12_goesOn_87 rfl rfl ?_
    refine z_iload d_X12_goesOn_88 rfl ?_
    suffices kJ90 : qEx M_X12_goesOn 109 [qR m, qR (m + 11), qI (cnt (rdc (g 26) (g 11) n) i), qI (i : Int), qI (qb ((((g 11) (64 + i)) = 0) ∧ (((g 11) i) ≠ 7))), qI (rcs (g 11) n i)] [qI (qb (((((g 11) (64 + i)) = 0) ∧ (((g 11) i) ≠ 7)) ∧ (((g 26) ((rcs (g 11) n i).toNat)) ≠ (-1)))), qI (cnt (rdc (g 26) (g 11) n) i)] (rput h m f (gup g 29 (qup (qmx i (rnx (g 25) (g 11) n) (g 29)) i (qif (¬ ((((g 11) (64 + i)) = 0) ∧ (((g 11) i) ≠ 7))) ((g 11) i) ((g 25) ((rcs (g 11) n i).toNat)))))) r hr by
      refine z_ifeqB 108 d_X12_goesOn_90 (by decide) (fun hc5 => ?_) (fun hc5 => ?_)
      · refine z_iconst d_X12_goesOn_108 (by decide) ?_
        exact z_eq rfl (qc (qi (qb_f (by omega)).symm) (qc rfl rfl)) rfl kJ90
      · refine z_aload_n d_X12_goesOn_93 rfl rfl ?_
        refine z_getf (v := qR (m + 26)) d_X12_goesOn_94 fl_X12_89 rput_o rfl ?_
        refine z_iload d_X12_goesOn_97 rfl ?_
        refine z_ild ((rcs (g 11) n i).toNat) d_X12_goesOn_99 (rput_a2 26 (t := 0) (n := 648) (F := (g 26)) rfl rfl rfl (by decide) (by decide)) (by omega) (by omega) ?_
        refine z_iconst d_X12_goesOn_100 (by decide) ?_
        suffices kJ101 : qEx M_X12_goesOn 109 [qR m, qR (m + 11), qI (cnt (rdc (g 26) (g 11) n) i), qI (i : Int), qI (qb ((((g 11) (64 + i)) = 0) ∧ (((g 11) i) ≠ 7))), qI (rcs (g 11) n i)] [qI (qb (((g 26) ((rcs (g 11) n i).toNat)) ≠ (-1))), qI (cnt (rdc (g 26) (g 11) n) i)] (rput h m f (gup g 29 (qup (qmx i (rnx (g 25) (g 11) n) (g 29)) i (qif (¬ ((((g 11) (64 + i)) = 0) ∧ (((g 11) i) ≠ 7))) ((g 11) i) ((g 25) ((rcs (g 11) n i).toNat)))))) r hr by
          refine z_icmp_eq 108 d_X12_goesOn_101 (by decide) (fun hc6 => ?_) (fun hc6 => ?_)
          · refine z_iconst d_X12_goesOn_108 (by decide) ?_
            exact z_eq rfl (qc (qi (qb_f (by omega)).symm) (qc rfl rfl)) rfl kJ101
          · refine z_iconst d_X12_goesOn_104 (by decide) ?_
            refine z_goto 109 d_X12_goesOn_105 (by decide) ?_
            exact z_eq rfl (qc (qi (qb_t (by omega)).symm) (qc rfl rfl)) rfl kJ101
        exact z_eq rfl (qc (qi (qb_congr (by omega))) (qc rfl rfl)) rfl kJ90
    refine z_iadd d_X12_goesOn_109 (by have b9 := qb_bd ((g 11 (64 + i) = 0 ∧ g 11 i ≠ 7) ∧ g 26 (rcs (g 11) n i).toNat ≠ -1); omega) ?_
    refine z_istore_n (ls' := [qR m, qR (m + 11), qI ((cnt (rdc (g 26) (g 11) n) i) + (qb (((((g 11) (64 + i)) = 0) ∧ (((g 11) i) ≠ 7)) ∧ (((g 26) ((rcs (g 11) n i).toNat)) ≠ (-1))))), qI (i : Int), qI (qb ((((g 11) (64 + i)) = 0) ∧ (((g 11) i) ≠ 7))), qI (rcs (g 11) n i)]) d_X12_goesOn_110 rfl (by decide) rfl ?_
    refine z_iinc (ls' := [qR m, qR (m + 11), qI ((cnt (rdc (g 26) (g 11) n) i) + (qb (((((g 11) (64 + i)) = 0) ∧ (((g 11) i) ≠ 7)) ∧ (((g 26) ((rcs (g 11) n i).toNat)) ≠ (-1))))), qI ((i : Int) + 1), qI (qb ((((g 11) (64 + i)) = 0) ∧ (((g 11) i) ≠ 7))), qI (rcs (g 11) n i)]) d_X12_goesOn_111 rfl (by decide) (by omega) rfl ?_
    refine z_goto 4 d_X12_goesOn_114 (by decide) ?_
    exact z_dr (qle_k rfl (qle_k rfl (qle_k (qi (rfl)) (qle_k (qi (by omega)) (qle_d (qle_d qle_n)))))) rfl (rput_cg rfl (gup_cg (F' := (qmx (i + 1) (rnx (g 25) (g 11) n) (g 29))) rfl (by rw [qif_not]; exact qmx_s i (rnx (g 25) (g 11) n) (g 29)))) (kki trivial)
  · show qEx M_X12_goesOn 4 [qR m, qR (m + 11), qI (cnt (rdc (g 26) (g 11) n) n), qI (n : Int), qU, qU] [] (rput h m f (gup g 29 (qmx n (rnx (g 25) (g 11) n) (g 29)))) r hr
    refine z_iload_n d_X12_goesOn_4 rfl rfl ?_
    refine z_aload_n d_X12_goesOn_5 rfl rfl ?_
    refine z_sipush d_X12_goesOn_6 (by decide) ?_
    refine z_ild 160 d_X12_goesOn_9 (rput_a2 11 (t := 0) (n := 167) (F := (g 11)) rfl rfl rfl (by decide) (by decide)) rfl (by omega) ?_
    refine z_eq rfl (qc (qi hN) rfl) rfl ?_
    refine z_icmp_ge 117 d_X12_goesOn_10 (by decide) (fun hc7 => ?_) (fun hc7 => absurd hc7 (by omega))
    refine z_iconst d_X12_goesOn_117 (by decide) ?_
    refine z_istore_n (ls' := [qR m, qR (m + 11), qI (cnt (rdc (g 26) (g 11) n) n), qI 0, qU, qU]) d_X12_goesOn_118 rfl (by decide) rfl ?_
    refine z_eq (qc rfl (qc rfl (qc rfl (qc (qi (by omega)) (qc rfl (qc rfl rfl)))))) rfl (rput_cg rfl (gup_self (rmv_0 _ _ _).symm).symm) (z_for n (fun i => [qR m, qR (m + 11), qI (cnt (rdc (g 26) (g 11) n) n), qI (i : Int), qU, qU]) (fun i => (rput h m f (gup (gup g 29 (qmx n (rnx (g 25) (g 11) n) (g 29))) 11 (rmv (g 25) (g 11) n i)))) (fun i => True) trivial (fun i hii hp kki => ?_) (fun hp => ?_))
    · show qEx M_X12_goesOn 119 [qR m, qR (m + 11), qI (cnt (rdc (g 26) (g 11) n) n), qI (i : Int), qU, qU] [] (rput h m f (gup (gup g 29 (qmx n (rnx (g 25) (g 11) n) (g 29))) 11 (rmv (g 25) (g 11) n i))) r hr
      refine z_iload_n d_X12_goesOn_119 rfl rfl ?_
      refine z_aload_n d_X12_goesOn_120 rfl rfl ?_
      refine z_sipush d_X12_goesOn_121 (by decide) ?_
      refine z_ild 160 d_X12_goesOn_124 (rput_a2 11 (t := 0) (n := 167) (F := (rmv (g 25) (g 11) n i)) rfl rfl rfl (by decide) (by decide)) rfl (by omega) ?_
      refine z_eq rfl (qc (qi (show rmv (g 25) (g 11) n i 160 = (n : Int) by unfold rmv; rw [if_neg (by omega), if_neg (by omega)]; exact hN)) rfl) rfl ?_
      refine z_icmp_ge 156 d_X12_goesOn_125 (by decide) (fun hc8 => absurd hc8 (by omega)) (fun hc8 => ?_)
      refine z_aload_n d_X12_goesOn_128 rfl rfl ?_
      refine z_bipush d_X12_goesOn_129 (by decide) ?_
      refine z_iload_n d_X12_goesOn_131 rfl rfl ?_
      refine z_iadd d_X12_goesOn_132 (by omega) ?_
      refine z_aload_n d_X12_goesOn_133 rfl rfl ?_
      refine z_iconst d_X12_goesOn_134 (by decide) ?_
      refine z_iload_n d_X12_goesOn_135 rfl rfl ?_
      refine z_iadd d_X12_goesOn_136 (by omega) ?_
      refine z_ild i d_X12_goesOn_137 (rput_a2 11 (t := 0) (n := 167) (F := (rmv (g 25) (g 11) n i)) rfl rfl rfl (by decide) (by decide)) (by omega) (by omega) ?_
      refine z_ist (32 + i) d_X12_goesOn_138 (rput_a2 11 (t := 0) (n := 167) (F := (rmv (g 25) (g 11) n i)) rfl rfl rfl (by decide) (by decide)) (by omega) rfl (by omega) ?_
      refine z_eq rfl rfl ((rput_sa 11 rfl rfl (by decide) (by decide)).trans (rput_cg rfl (gup_gup _ _ _))) ?_
      refine z_aload_n d_X12_goesOn_139 rfl rfl ?_
      refine z_iconst d_X12_goesOn_140 (by decide) ?_
      refine z_iload_n d_X12_goesOn_141 rfl rfl ?_
      refine z_iadd d_X12_goesOn_142 (by omega) ?_
      refine z_aload_n d_X12_goesOn_143 rfl rfl ?_
      refine z_getf (v := qR (m + 29)) d_X12_goesOn_144 fl_X12_98 rput_o rfl ?_
      refine z_iload_n d_X12_goesOn_147 rfl rfl ?_
      refine z_ild i d_X12_goesOn_148 (rput_a2 29 (t := 0) (n := 32) (F := (qmx n (rnx (g 25) (g 11) n) (g 29))) rfl rfl rfl (by decide) (by decide)) rfl (by omega) ?_
      refine z_ist i d_X12_goesOn_149 (rput_a2 11 (t := 0) (n := 167) (F := (qup (rmv (g 25) (g 11) n i) (32 + i) ((rmv (g 25) (g 11) n i) i))) rfl rfl rfl (by decide) (by decide)) (by omega) (by omega) (by omega) ?_
      refine z_eq rfl rfl ((rput_sa 11 rfl rfl (by decide) (by decide)).trans (rput_cg rfl (gup_gup _ _ _))) ?_
      refine z_iinc (ls' := [qR m, qR (m + 11), qI (cnt (rdc (g 26) (g 11) n) n), qI ((i : Int) + 1), qU, qU]) d_X12_goesOn_150 rfl (by decide) (by omega) rfl ?_
      refine z_goto 119 d_X12_goesOn_153 (by decide) ?_
      exact z_eq (qc rfl (qc rfl (qc rfl (qc (qi (by omega)) (qc rfl (qc rfl rfl)))))) rfl (rput_cg rfl (gup_cg (F' := (rmv (g 25) (g 11) n (i + 1))) rfl (by rw [rmv_at _ _ _ (show i < 32 by omega), qmx_lt hii]; exact rmv_s (g 25) (g 11) n i (by omega)))) (kki trivial)
    · show qEx M_X12_goesOn 119 [qR m, qR (m + 11), qI (cnt (rdc (g 26) (g 11) n) n), qI (n : Int), qU, qU] [] (rput h m f (gup (gup g 29 (qmx n (rnx (g 25) (g 11) n) (g 29))) 11 (rmv (g 25) (g 11) n n))) r hr
      refine z_iload_n d_X12_goesOn_119 rfl rfl ?_
      refine z_aload_n d_X12_goesOn_120 rfl rfl ?_
      refine z_sipush d_X12_goesOn_121 (by decide) ?_
      refine z_ild 160 d_X12_goesOn_124 (rput_a2 11 (t := 0) (n := 167) (F := (rmv (g 25) (g 11) n n)) rfl rfl rfl (by decide) (by decide)) rfl (by omega) ?_
      refine z_eq rfl (qc (qi (show rmv (g 25) (g 11) n n 160 = (n : Int) by unfold rmv; rw [if_neg (by omega), if_neg (by omega)]; exact hN)) rfl) rfl ?_
      refine z_icmp_ge 156 d_X12_goesOn_125 (by decide) (fun hc9 => ?_) (fun hc9 => absurd hc9 (by omega))
      refine z_iload_n d_X12_goesOn_156 rfl rfl ?_
      exact z_iret d_X12_goesOn_157 rfl er eh
set_option maxRecDepth 20000 in
set_option maxHeartbeats 4000000 in
theorem c_goesOn12 {h : qH} {m : Nat} {f : Nat → Int} {g : Nat → Nat → Int} {n : Nat} (hm : 2 ≤ m) (hN : g 12 160 = (n : Int)) (hn : n ≤ 32) (hm7 : ∀ k, k < n → 0 ≤ g 12 k ∧ g 12 k ≤ 7) (hw7 : ∀ k, k < n → 0 ≤ g 12 (32 + k) ∧ g 12 (32 + k) ≤ 7) : qEx M_X12_goesOn 0 [qR m, qR (m + 12), qU, qU, qU, qU] [] (rput h m f g) (some (qI (cnt (rdc (g 26) (g 12) n) n))) (rput h m f (gup (gup g 29 (qmx n (rnx (g 25) (g 12) n) (g 29))) 12 (rmv (g 25) (g 12) n n))) := by
  refine q_gen (fun r hr er eh => ?_)
  refine z_iconst d_X12_goesOn_0 (by decide) ?_
  refine z_istore_n (ls' := [qR m, qR (m + 12), qI 0, qU, qU, qU]) d_X12_goesOn_1 rfl (by decide) rfl ?_
  refine z_iconst d_X12_goesOn_2 (by decide) ?_
  refine z_istore_n (ls' := [qR m, qR (m + 12), qI 0, qI 0, qU, qU]) d_X12_goesOn_3 rfl (by decide) rfl ?_
  refine z_eq (qc rfl (qc rfl (qc (qi (rfl)) (qc (qi (by omega)) (qc rfl (qc rfl rfl)))))) rfl (rput_cg rfl (gup_self (qmx_0 _ _).symm).symm) (z_for n (fun i => [qR m, qR (m + 12), qI (cnt (rdc (g 26) (g 12) n) i), qI (i : Int), qU, qU]) (fun i => (rput h m f (gup g 29 (qmx i (rnx (g 25) (g 12) n) (g 29))))) (fun i => True) trivial (fun i hii hp kki => ?_) (fun hp => ?_))
  · show qEx M_X12_goesOn 4 [qR m, qR (m + 12), qI (cnt (rdc (g 26) (g 12) n) i), qI (i : Int), qU, qU] [] (rput h m f (gup g 29 (qmx i (rnx (g 25) (g 12) n) (g 29)))) r hr
    have hb := qcs_bd (ring := g 12 161 ≠ 0) (ga := fun j => g 12 (128 + j)) (late := fun j => g 12 (96 + j) = 1) hii hm7 hw7
    have e1 := saw_bd (late := g 12 (96 + i) = 1) (snL_bd (ring := g 12 161 ≠ 0) (fun j => g 12 (128 + j)) hii) hm7 hw7
    have e2 := saw_bd (late := g 12 (96 + i) = 1) (snR_bd (ring := g 12 161 ≠ 0) (fun j => g 12 (128 + j)) hii) hm7 hw7
    have e3 := hm7 i hii
    have b1 := cnt_bd (rdc (g 26) (g 12) n) i
    have b2 := qb_bd (rdc (g 26) (g 12) n i)
    have hcs : 81 * g 12 i + 9 * saw (snL n (g 12 161 ≠ 0) (fun j => g 12 (128 + j)) i) (g 12 (96 + i) = 1) (g 12) (fun j => g 12 (32 + j)) + saw (snR n (g 12 161 ≠ 0) (fun j => g 12 (128 + j)) i) (g 12 (96 + i) = 1) (g 12) (fun j => g 12 (32 + j)) = rcs (g 12) n i := rfl
    have hcb : 0 ≤ rcs (g 12) n i ∧ rcs (g 12) n i < 648 := hb
    refine z_iload_n d_X12_goesOn_4 rfl rfl ?_
    refine z_aload_n d_X12_goesOn_5 rfl rfl ?_
    refine z_sipush d_X12_goesOn_6 (by decide) ?_
    refine z_ild 160 d_X12_goesOn_9 (rput_a2 12 (t := 0) (n := 167) (F := (g 12)) rfl rfl rfl (by decide) (by decide)) rfl (by omega) ?_
    refine z_eq rfl (qc (qi hN) rfl) rfl ?_
    refine z_icmp_ge 117 d_X12_goesOn_10 (by decide) (fun hc1 => absurd hc1 (by omega)) (fun hc1 => ?_)
    refine z_aload_n d_X12_goesOn_13 rfl rfl ?_
    refine z_bipush d_X12_goesOn_14 (by decide) ?_
    refine z_iload_n d_X12_goesOn_16 rfl rfl ?_
    refine z_iadd d_X12_goesOn_17 (by omega) ?_
    refine z_ild (64 + i) d_X12_goesOn_18 (rput_a2 12 (t := 0) (n := 167) (F := (g 12)) rfl rfl rfl (by decide) (by decide)) rfl (by omega) ?_
    suffices kJ19 : qEx M_X12_goesOn 37 [qR m, qR (m + 12), qI (cnt (rdc (g 26) (g 12) n) i), qI (i : Int), qU, qU] [qI (qb ((((g 12) (64 + i)) = 0) ∧ (((g 12) i) ≠ 7)))] (rput h m f (gup g 29 (qmx i (rnx (g 25) (g 12) n) (g 29)))) r hr by
      refine z_if_ne 36 d_X12_goesOn_19 (by decide) (fun hc2 => ?_) (fun hc2 => ?_)
      · refine z_iconst d_X12_goesOn_36 (by decide) ?_
        exact z_eq rfl (qc (qi (qb_f (by omega)).symm) rfl) rfl kJ19
      · refine z_aload_n d_X12_goesOn_22 rfl rfl ?_
        refine z_iconst d_X12_goesOn_23 (by decide) ?_
        refine z_iload_n d_X12_goesOn_24 rfl rfl ?_
        refine z_iadd d_X12_goesOn_25 (by omega) ?_
        refine z_ild i d_X12_goesOn_26 (rput_a2 12 (t := 0) (n := 167) (F := (g 12)) rfl rfl rfl (by decide) (by decide)) (by omega) (by omega) ?_
        refine z_bipush d_X12_goesOn_27 (by decide) ?_
        suffices kJ29 : qEx M_X12_goesOn 37 [qR m, qR (m + 12), qI (cnt (rdc (g 26) (g 12) n) i), qI (i : Int), qU, qU] [qI (qb (((g 12) i) ≠ 7))] (rput h m f (gup g 29 (qmx i (rnx (g 25) (g 12) n) (g 29)))) r hr by
          refine z_icmp_eq 36 d_X12_goesOn_29 (by decide) (fun hc3 => ?_) (fun hc3 => ?_)
          · refine z_iconst d_X12_goesOn_36 (by decide) ?_
            exact z_eq rfl (qc (qi (qb_f (by omega)).symm) rfl) rfl kJ29
          · refine z_iconst d_X12_goesOn_32 (by decide) ?_
            refine z_goto 37 d_X12_goesOn_33 (by decide) ?_
            exact z_eq rfl (qc (qi (qb_t (by omega)).symm) rfl) rfl kJ29
        exact z_eq rfl (qc (qi (qb_congr (by omega))) rfl) rfl kJ19
    refine z_istore (ls' := [qR m, qR (m + 12), qI (cnt (rdc (g 26) (g 12) n) i), qI (i : Int), qI (qb ((((g 12) (64 + i)) = 0) ∧ (((g 12) i) ≠ 7))), qU]) d_X12_goesOn_37 (by decide) rfl ?_
    refine z_aload_n d_X12_goesOn_39 rfl rfl ?_
    refine z_iconst d_X12_goesOn_40 (by decide) ?_
    refine z_iload_n d_X12_goesOn_41 rfl rfl ?_
    refine z_iadd d_X12_goesOn_42 (by omega) ?_
    refine z_ild i d_X12_goesOn_43 (rput_a2 12 (t := 0) (n := 167) (F := (g 12)) rfl rfl rfl (by decide) (by decide)) (by omega) (by omega) ?_
    refine z_aload_n d_X12_goesOn_44 rfl rfl ?_
    refine z_iload_n d_X12_goesOn_45 rfl rfl ?_
    refine z_iconst d_X12_goesOn_46 (by decide) ?_
    refine z_cs (M1 := M_X12_sees) d_X12_goesOn_47 ls_X12_296 k_X12_sees [qR (m + 12), qI (i : Int), qI 0] rfl rfl (Nat.le_of_ble_eq_true rfl) (by decide) (by decide) (Nat.le_of_ble_eq_true rfl) (c_sees0 i (rput_a2 12 (t := 0) (n := 167) (F := (g 12)) rfl rfl rfl (by decide) (by decide)) hN hn (by omega)) ?_
    refine z_aload_n d_X12_goesOn_50 rfl rfl ?_
    refine z_iload_n d_X12_goesOn_51 rfl rfl ?_
    refine z_iconst d_X12_goesOn_52 (by decide) ?_
    refine z_cs (M1 := M_X12_sees) d_X12_goesOn_53 ls_X12_296 k_X12_sees [qR (m + 12), qI (i : Int), qI 1] rfl rfl (Nat.le_of_ble_eq_true rfl) (by decide) (by decide) (Nat.le_of_ble_eq_true rfl) (c_sees1 i (rput_a2 12 (t := 0) (n := 167) (F := (g 12)) rfl rfl rfl (by decide) (by decide)) hN hn (by omega)) ?_
    refine z_cs (M1 := M_X12_caseOf) d_X12_goesOn_56 ls_X12_263 k_X12_caseOf [qI ((g 12) i), qI (saw (snL n ((g 12) 161 ≠ 0) (fun j => (g 12) (128 + j)) i) ((g 12) (96 + i) = 1) (g 12) (fun j => (g 12) (32 + j))), qI (saw (snR n ((g 12) 161 ≠ 0) (fun j => (g 12) (128 + j)) i) ((g 12) (96 + i) = 1) (g 12) (fun j => (g 12) (32 + j)))] rfl rfl (Nat.le_of_ble_eq_true rfl) (by decide) (by decide) (Nat.le_of_ble_eq_true rfl) (c_caseOf2 ((g 12) i) (saw (snL n ((g 12) 161 ≠ 0) (fun j => (g 12) (128 + j)) i) ((g 12) (96 + i) = 1) (g 12) (fun j => (g 12) (32 + j))) (saw (snR n ((g 12) 161 ≠ 0) (fun j => (g 12) (128 + j)) i) ((g 12) (96 + i) = 1) (g 12) (fun j => (g 12) (32 + j))) (by omega) (by omega) (by omega)) ?_
    refine z_eq rfl (qc (qi hcs) rfl) rfl ?_
    refine z_istore (ls' := [qR m, qR (m + 12), qI (cnt (rdc (g 26) (g 12) n) i), qI (i : Int), qI (qb ((((g 12) (64 + i)) = 0) ∧ (((g 12) i) ≠ 7))), qI (rcs (g 12) n i)]) d_X12_goesOn_59 (by decide) rfl ?_
    refine z_aload_n d_X12_goesOn_61 rfl rfl ?_
    refine z_getf (v := qR (m + 29)) d_X12_goesOn_62 fl_X12_98 rput_o rfl ?_
    refine z_iload_n d_X12_goesOn_65 rfl rfl ?_
    refine z_iload d_X12_goesOn_66 rfl ?_
    suffices kJ68 : qEx M_X12_goesOn 86 [qR m, qR (m + 12), qI (cnt (rdc (g 26) (g 12) n) i), qI (i : Int), qI (qb ((((g 12) (64 + i)) = 0) ∧ (((g 12) i) ≠ 7))), qI (rcs (g 12) n i)] [qI (qif (¬ ((((g 12) (64 + i)) = 0) ∧ (((g 12) i) ≠ 7))) ((g 12) i) ((g 25) ((rcs (g 12) n i).toNat))), qI (i : Int), qR (m + 29)] (rput h m f (gup g 29 (qmx i (rnx (g 25) (g 12) n) (g 29)))) r hr by
      refine z_ifeqB 81 d_X12_goesOn_68 (by decide) (fun hc4 => ?_) (fun hc4 => ?_)
      · refine z_aload_n d_X12_goesOn_81 rfl rfl ?_
        refine z_iconst d_X12_goesOn_82 (by decide) ?_
        refine z_iload_n d_X12_goesOn_83 rfl rfl ?_
        refine z_iadd d_X12_goesOn_84 (by omega) ?_
        refine z_ild i d_X12_goesOn_85 (rput_a2 12 (t := 0) (n := 167) (F := (g 12)) rfl rfl rfl (by decide) (by decide)) (by omega) (by omega) ?_
        exact z_eq rfl (qc (qi (qif_t hc4).symm) (qc rfl (qc rfl rfl))) rfl kJ68
      · refine z_aload_n d_X12_goesOn_71 rfl rfl ?_
        refine z_getf (v := qR (m + 25)) d_X12_goesOn_72 fl_X12_86 rput_o rfl ?_
        refine z_iload d_X12_goesOn_75 rfl ?_
        refine z_ild ((rcs (g 12) n i).toNat) d_X12_goesOn_77 (rput_a2 25 (t := 0) (n := 648) (F := (g 25)) rfl rfl rfl (by decide) (by decide)) (by omega) (by omega) ?_
        refine z_goto 86 d_X12_goesOn_78 (by decide) ?_
        exact z_eq rfl (qc (qi (qif_f (fun z => z hc4)).symm) (qc rfl (qc rfl rfl))) rfl kJ68
    refine z_ist i d_X12_goesOn_86 (rput_a2 29 (t := 0) (n := 32) (F := (qmx i (rnx (g 25) (g 12) n) (g 29))) rfl rfl rfl (by decide) (by decide)) (by omega) rfl (by omega) ?_
    refine z_eq rfl rfl ((rput_sa 29 rfl rfl (by decide) (by decide)).trans (rput_cg rfl (gup_gup _ _ _))) ?_
    refine z_iload_n d_X12_goesOn_87 rfl rfl ?_
    refine z_iload d_X12_goesOn_88 rfl ?_
    suffices kJ90 : qEx M_X12_goesOn 109 [qR m, qR (m + 12), qI (cnt (rdc (g 26) (g 12) n) i), qI (i : Int), qI (qb ((((g 12) (64 + i)) = 0) ∧ (((g 12) i) ≠ 7))), qI (rcs (g 12) n i)] [qI (qb (((((g 12) (64 + i)) = 0) ∧ (((g 12) i) ≠ 7)) ∧ (((g 26) ((rcs (g 12) n i).toNat)) ≠ (-1)))), qI (cnt (rdc (g 26) (g 12) n) i)] (rput h m f (gup g 29 (qup (qmx i (rnx (g 25) (g 12) n) (g 29)) i (qif (¬ ((((g 12) (64 + i)) = 0) ∧ (((g 12) i) ≠ 7))) ((g 12) i) ((g 25) ((rcs (g 12) n i).toNat)))))) r hr by
      refine z_ifeqB 108 d_X12_goesOn_90 (by decide) (fun hc5 => ?_) (fun hc5 => ?_)
      · refine z_iconst d_X12_goesOn_108 (by decide) ?_
        exact z_eq rfl (qc (qi (qb_f (by omega)).symm) (qc rfl rfl)) rfl kJ90
      · refine z_aload_n d_X12_goesOn_93 rfl rfl ?_
        refine z_getf (v := qR (m + 26)) d_X12_goesOn_94 fl_X12_89 rput_o rfl ?_
        refine z_iload d_X12_goesOn_97 rfl ?_
        refine z_ild ((rcs (g 12) n i).toNat) d_X12_goesOn_99 (rput_a2 26 (t := 0) (n := 648) (F := (g 26)) rfl rfl rfl (by decide) (by decide)) (by omega) (by omega) ?_
        refine z_iconst d_X12_goesOn_100 (by decide) ?_
        suffices kJ101 : qEx M_X12_goesOn 109 [qR m, qR (m + 12), qI (cnt (rdc (g 26) (g 12) n) i), qI (i : Int), qI (qb ((((g 12) (64 + i)) = 0) ∧ (((g 12) i) ≠ 7))), qI (rcs (g 12) n i)] [qI (qb (((g 26) ((rcs (g 12) n i).toNat)) ≠ (-1))), qI (cnt (rdc (g 26) (g 12) n) i)] (rput h m f (gup g 29 (qup (qmx i (rnx (g 25) (g 12) n) (g 29)) i (qif (¬ ((((g 12) (64 + i)) = 0) ∧ (((g 12) i) ≠ 7))) ((g 12) i) ((g 25) ((rcs (g 12) n i).toNat)))))) r hr by
          refine z_icmp_eq 108 d_X12_goesOn_101 (by decide) (fun hc6 => ?_) (fun hc6 => ?_)
          · refine z_iconst d_X12_goesOn_108 (by decide) ?_
            exact z_eq rfl (qc (qi (qb_f (by omega)).symm) (qc rfl rfl)) rfl kJ101
          · refine z_iconst d_X12_goesOn_104 (by decide) ?_
            refine z_goto 109 d_X12_goesOn_105 (by decide) ?_
            exact z_eq rfl (qc (qi (qb_t (by omega)).symm) (qc rfl rfl)) rfl kJ101
        exact z_eq rfl (qc (qi (qb_congr (by omega))) (qc rfl rfl)) rfl kJ90
    refine z_iadd d_X12_goesOn_109 (by have b9 := qb_bd ((g 12 (64 + i) = 0 ∧ g 12 i ≠ 7) ∧ g 26 (rcs (g 12) n i).toNat ≠ -1); omega) ?_
    refine z_istore_n (ls' := [qR m, qR (m + 12), qI ((cnt (rdc (g 26) (g 12) n) i) + (qb (((((g 12) (64 + i)) = 0) ∧ (((g 12) i) ≠ 7)) ∧ (((g 26) ((rcs (g 12) n i).toNat)) ≠ (-1))))), qI (i : Int), qI (qb ((((g 12) (64 + i)) = 0) ∧ (((g 12) i) ≠ 7))), qI (rcs (g 12) n i)]) d_X12_goesOn_110 rfl (by decide) rfl ?_
    refine z_iinc (ls' := [qR m, qR (m + 12), qI ((cnt (rdc (g 26) (g 12) n) i) + (qb (((((g 12) (64 + i)) = 0) ∧ (((g 12) i) ≠ 7)) ∧ (((g 26) ((rcs (g 12) n i).toNat)) ≠ (-1))))), qI ((i : Int) + 1), qI (qb ((((g 12) (64 + i)) = 0) ∧ (((g 12) i) ≠ 7))), qI (rcs (g 12) n i)]) d_X12_goesOn_111 rfl (by decide) (by omega) rfl ?_
    refine z_goto 4 d_X12_goesOn_114 (by decide) ?_
    exact z_dr (qle_k rfl (qle_k rfl (qle_k (qi (rfl)) (qle_k (qi (by omega)) (qle_d (qle_d qle_n)))))) rfl (rput_cg rfl (gup_cg (F' := (qmx (i + 1) (rnx (g 25) (g 12) n) (g 29))) rfl (by rw [qif_not]; exact qmx_s i (rnx (g 25) (g 12) n) (g 29)))) (kki trivial)
  · show qEx M_X12_goesOn 4 [qR m, qR (m + 12), qI (cnt (rdc (g 26) (g 12) n) n), qI (n : Int), qU, qU] [] (rput h m f (gup g 29 (qmx n (rnx (g 25) (g 12) n) (g 29)))) r hr
    refine z_iload_n d_X12_goesOn_4 rfl rfl ?_
    refine z_aload_n d_X12_goesOn_5 rfl rfl ?_
    refine z_sipush d_X12_goesOn_6 (by decide) ?_
    refine z_ild 160 d_X12_goesOn_9 (rput_a2 12 (t := 0) (n := 167) (F := (g 12)) rfl rfl rfl (by decide) (by decide)) rfl (by omega) ?_
    refine z_eq rfl (qc (qi hN) rfl) rfl ?_
    refine z_icmp_ge 117 d_X12_goesOn_10 (by decide) (fun hc7 => ?_) (fun hc7 => absurd hc7 (by omega))
    refine z_iconst d_X12_goesOn_117 (by decide) ?_
    refine z_istore_n (ls' := [qR m, qR (m + 12), qI (cnt (rdc (g 26) (g 12) n) n), qI 0, qU, qU]) d_X12_goesOn_118 rfl (by decide) rfl ?_
    refine z_eq (qc rfl (qc rfl (qc rfl (qc (qi (by omega)) (qc rfl (qc rfl rfl)))))) rfl (rput_cg rfl (gup_self (rmv_0 _ _ _).symm).symm) (z_for n (fun i => [qR m, qR (m + 12), qI (cnt (rdc (g 26) (g 12) n) n), qI (i : Int), qU, qU]) (fun i => (rput h m f (gup (gup g 29 (qmx n (rnx (g 25) (g 12) n) (g 29))) 12 (rmv (g 25) (g 12) n i)))) (fun i => True) trivial (fun i hii hp kki => ?_) (fun hp => ?_))
    · show qEx M_X12_goesOn 119 [qR m, qR (m + 12), qI (cnt (rdc (g 26) (g 12) n) n), qI (i : Int), qU, qU] [] (rput h m f (gup (gup g 29 (qmx n (rnx (g 25) (g 12) n) (g 29))) 12 (rmv (g 25) (g 12) n i))) r hr
      refine z_iload_n d_X12_goesOn_119 rfl rfl ?_
      refine z_aload_n d_X12_goesOn_120 rfl rfl ?_
      refine z_sipush d_X12_goesOn_121 (by decide) ?_
      refine z_ild 160 d_X12_goesOn_124 (rput_a2 12 (t := 0) (n := 167) (F := (rmv (g 25) (g 12) n i)) rfl rfl rfl (by decide) (by decide)) rfl (by omega) ?_
      refine z_eq rfl (qc (qi (show rmv (g 25) (g 12) n i 160 = (n : Int) by unfold rmv; rw [if_neg (by omega), if_neg (by omega)]; exact hN)) rfl) rfl ?_
      refine z_icmp_ge 156 d_X12_goesOn_125 (by decide) (fun hc8 => absurd hc8 (by omega)) (fun hc8 => ?_)
      refine z_aload_n d_X12_goesOn_128 rfl rfl ?_
      refine z_bipush d_X12_goesOn_129 (by decide) ?_
      refine z_iload_n d_X12_goesOn_131 rfl rfl ?_
      refine z_iadd d_X12_goesOn_132 (by omega) ?_
      refine z_aload_n d_X12_goesOn_133 rfl rfl ?_
      refine z_iconst d_X12_goesOn_134 (by decide) ?_
      refine z_iload_n d_X12_goesOn_135 rfl rfl ?_
      refine z_iadd d_X12_goesOn_136 (by omega) ?_
      refine z_ild i d_X12_goesOn_137 (rput_a2 12 (t := 0) (n := 167) (F := (rmv (g 25) (g 12) n i)) rfl rfl rfl (by decide) (by decide)) (by omega) (by omega) ?_
      refine z_ist (32 + i) d_X12_goesOn_138 (rput_a2 12 (t := 0) (n := 167) (F := (rmv (g 25) (g 12) n i)) rfl rfl rfl (by decide) (by decide)) (by omega) rfl (by omega) ?_
      refine z_eq rfl rfl ((rput_sa 12 rfl rfl (by decide) (by decide)).trans (rput_cg rfl (gup_gup _ _ _))) ?_
      refine z_aload_n d_X12_goesOn_139 rfl rfl ?_
      refine z_iconst d_X12_goesOn_140 (by decide) ?_
      refine z_iload_n d_X12_goesOn_141 rfl rfl ?_
      refine z_iadd d_X12_goesOn_142 (by omega) ?_
      refine z_aload_n d_X12_goesOn_143 rfl rfl ?_
      refine z_getf (v := qR (m + 29)) d_X12_goesOn_144 fl_X12_98 rput_o rfl ?_
      refine z_iload_n d_X12_goesOn_147 rfl rfl ?_
      refine z_ild i d_X12_goesOn_148 (rput_a2 29 (t := 0) (n := 32) (F := (qmx n (rnx (g 25) (g 12) n) (g 29))) rfl rfl rfl (by decide) (by decide)) rfl (by omega) ?_
      refine z_ist i d_X12_goesOn_149 (rput_a2 12 (t := 0) (n := 167) (F := (qup (rmv (g 25) (g 12) n i) (32 + i) ((rmv (g 25) (g 12) n i) i))) rfl rfl rfl (by decide) (by decide)) (by omega) (by omega) (by omega) ?_
      refine z_eq rfl rfl ((rput_sa 12 rfl rfl (by decide) (by decide)).trans (rput_cg rfl (gup_gup _ _ _))) ?_
      refine z_iinc (ls' := [qR m, qR (m + 12), qI (cnt (rdc (g 26) (g 12) n) n), qI ((i : Int) + 1), qU, qU]) d_X12_goesOn_150 rfl (by decide) (by omega) rfl ?_
      refine z_goto 119 d_X12_goesOn_153 (by decide) ?_
      exact z_eq (qc rfl (qc rfl (qc rfl (qc (qi (by omega)) (qc rfl (qc rfl rfl)))))) rfl (rput_cg rfl (gup_cg (F' := (rmv (g 25) (g 12) n (i + 1))) rfl (by rw [rmv_at _ _ _ (show i < 32 by omega), qmx_lt hii]; exact rmv_s (g 25) (g 12) n i (by omega)))) (kki trivial)
    · show qEx M_X12_goesOn 119 [qR m, qR (m + 12), qI (cnt (rdc (g 26) (g 12) n) n), qI (n : Int), qU, qU] [] (rput h m f (gup (gup g 29 (qmx n (rnx (g 25) (g 12) n) (g 29))) 12 (rmv (g 25) (g 12) n n))) r hr
      refine z_iload_n d_X12_goesOn_119 rfl rfl ?_
      refine z_aload_n d_X12_goesOn_120 rfl rfl ?_
      refine z_sipush d_X12_goesOn_121 (by decide) ?_
      refine z_ild 160 d_X12_goesOn_124 (rput_a2 12 (t := 0) (n := 167) (F := (rmv (g 25) (g 12) n n)) rfl rfl rfl (by decide) (by decide)) rfl (by omega) ?_
      refine z_eq rfl (qc (qi (show rmv (g 25) (g 12) n n 160 = (n : Int) by unfold rmv; rw [if_neg (by omega), if_neg (by omega)]; exact hN)) rfl) rfl ?_
      refine z_icmp_ge 156 d_X12_goesOn_125 (by decide) (fun hc9 => ?_) (fun hc9 => absurd hc9 (by omega))
      refine z_iload_n d_X12_goesOn_156 rfl rfl ?_
      exact z_iret d_X12_goesOn_157 rfl er eh
