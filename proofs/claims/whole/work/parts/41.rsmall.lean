/-! ===== CONTRACTS: the reference, small methods ===== -/
set_option maxRecDepth 20000 in
set_option maxHeartbeats 4000000 in
theorem c_wrong {h : qH} {m : Nat} {f : Nat → Int} {g : Nat → Nat → Int} (k p : Int) (hm : 2 ≤ m)  : qEx M_X12_wrong 0 [qR m, qI k, qI p] [] (rput h m f g) none (rput h m (qif (f 4 = 0) (qup (qup f 4 k) 5 p) f) g) := by
  refine q_gen (fun r hr er eh => ?_)
  refine z_aload_n d_X12_wrong_0 rfl rfl ?_
  refine z_getf (v := qI (f 4)) d_X12_wrong_1 fl_X12_141 rput_o rfl ?_
  refine z_if_eq 8 d_X12_wrong_4 (by decide) (fun hq => ?_) (fun hq => ?_)
  · refine z_aload_n d_X12_wrong_8 rfl rfl ?_
    refine z_iload_n d_X12_wrong_9 rfl rfl ?_
    refine z_putf (fs' := [qI (f 0), qI (f 1), qI (f 2), qI (f 3), qI k, qI (f 5), qI (f 6), qI (f 7), qR (m + 1), qR (m + 2), qR (m + 3), qR (m + 4), qR (m + 5), qR (m + 6), qR (m + 7), qR (m + 8), qR (m + 9), qR (m + 10), qI (f 18), qI (f 19), qI (f 20), qR (m + 11), qR (m + 12), qR (m + 13), qR (m + 14), qI (f 25), qR (m + 15), qI (f 27), qR (m + 16), qR (m + 17), qR (m + 18), qR (m + 19), qR (m + 20), qR (m + 21), qR (m + 22), qR (m + 23), qR (m + 24), qI (f 37), qI (f 38), qI (f 39), qI (f 40), qR (m + 25), qR (m + 26), qR (m + 27), qR (m + 28), qR (m + 29), qR (m + 30), qR (m + 31), qI (f 48), qR (m + 32), qR (m + 33), qR (m + 34), qR (m + 35), qR (m + 36), qR (m + 37)]) d_X12_wrong_10 fp_X12_141 rput_o (fun _ => rfl) (fun _ => rfl) (Nat.le_of_ble_eq_true rfl) rfl ?_
    refine z_eq rfl rfl (rput_sf (f' := (qup f 4 k)) rfl) ?_
    refine z_aload_n d_X12_wrong_13 rfl rfl ?_
    refine z_iload_n d_X12_wrong_14 rfl rfl ?_
    refine z_putf (fs' := [qI (f 0), qI (f 1), qI (f 2), qI (f 3), qI k, qI p, qI (f 6), qI (f 7), qR (m + 1), qR (m + 2), qR (m + 3), qR (m + 4), qR (m + 5), qR (m + 6), qR (m + 7), qR (m + 8), qR (m + 9), qR (m + 10), qI (f 18), qI (f 19), qI (f 20), qR (m + 11), qR (m + 12), qR (m + 13), qR (m + 14), qI (f 25), qR (m + 15), qI (f 27), qR (m + 16), qR (m + 17), qR (m + 18), qR (m + 19), qR (m + 20), qR (m + 21), qR (m + 22), qR (m + 23), qR (m + 24), qI (f 37), qI (f 38), qI (f 39), qI (f 40), qR (m + 25), qR (m + 26), qR (m + 27), qR (m + 28), qR (m + 29), qR (m + 30), qR (m + 31), qI (f 48), qR (m + 32), qR (m + 33), qR (m + 34), qR (m + 35), qR (m + 36), qR (m + 37)]) d_X12_wrong_15 fp_X12_144 rput_o (fun _ => rfl) (fun _ => rfl) (Nat.le_of_ble_eq_true rfl) rfl ?_
    refine z_eq rfl rfl (rput_sf (f' := (qup (qup f 4 k) 5 p)) rfl) ?_
    exact z_vret d_X12_wrong_18 rfl er (by rw [eh, qif_t (by omega)])
  · exact z_vret d_X12_wrong_7 rfl er (by rw [eh, qif_f hq])
set_option maxRecDepth 20000 in
set_option maxHeartbeats 4000000 in
theorem c_byteAt {h : qH} {m : Nat} {f : Nat → Int} {g : Nat → Nat → Int} (k : Nat) (hm : 2 ≤ m) (hk : f 2 ≤ 400) : qEx M_X12_byteAt 0 [qR m, qI (k : Int)] [] (rput h m f g) (some (qI (qif ((k : Int) < f 2) (g 1 k) (-1)))) (rput h m f g) := by
  refine q_gen (fun r hr er eh => ?_)
  refine z_iload_n d_X12_byteAt_0 rfl rfl ?_
  refine z_aload_n d_X12_byteAt_1 rfl rfl ?_
  refine z_getf (v := qI (f 2)) d_X12_byteAt_2 fl_X12_147 rput_o rfl ?_
  refine z_icmp_ge 17 d_X12_byteAt_5 (by decide) (fun hq => ?_) (fun hq => ?_)
  · refine z_iconst d_X12_byteAt_17 (by decide) ?_
    exact z_iret d_X12_byteAt_18 rfl (qer er (qif_f (by omega))) eh
  · refine z_aload_n d_X12_byteAt_8 rfl rfl ?_
    refine z_getf (v := qR (m + 1)) d_X12_byteAt_9 fl_X12_13 rput_o rfl ?_
    refine z_iload_n d_X12_byteAt_12 rfl rfl ?_
    refine z_ild k d_X12_byteAt_13 (rput_a2 1 (t := 0) (n := 400) (F := (g 1)) rfl rfl rfl (by decide) (by decide)) rfl (by omega) ?_
    refine z_goto 18 d_X12_byteAt_14 (by decide) ?_
    exact z_iret d_X12_byteAt_18 rfl (qer er (qif_t (by omega))) eh
/-- four bytes of v at place t and behind -/
def by4 (F : Nat → Int) (t : Nat) (v : Int) : Nat → Int := qup (qup (qup (qup F t (qAnd (qShr v 24) 255)) (t + 1) (qAnd (qShr v 16) 255)) (t + 1 + 1) (qAnd (qShr v 8) 255)) (t + 1 + 1 + 1) (qAnd (qShr v 0) 255)
set_option maxRecDepth 20000 in
set_option maxHeartbeats 4000000 in
theorem c_four {h : qH} {m : Nat} {f : Nat → Int} {g : Nat → Nat → Int} {t : Nat} (v : Int) (hm : 2 ≤ m) (ht : f 1 = (t : Int)) (h4 : t + 4 ≤ 400) : qEx M_X12_four 0 [qR m, qI v, qU] [] (rput h m f g) none (rput h m (qup f 1 ((t : Int) + 1 + 1 + 1 + 1)) (gup g 1 (by4 (g 1) t v))) := by
  refine q_gen (fun r hr er eh => ?_)
  refine z_bipush d_X12_four_0 (by decide) ?_
  refine z_istore_n (ls' := [qR m, qI v, qI 24]) d_X12_four_2 rfl (by decide) rfl ?_
  refine z_iload_n d_X12_four_3 rfl rfl ?_
  refine z_if_lt 39 d_X12_four_4 (by decide) (fun hc1 => absurd hc1 (by decide)) (fun hc1 => ?_)
  refine z_aload_n d_X12_four_7 rfl rfl ?_
  refine z_getf (v := qR (m + 1)) d_X12_four_8 fl_X12_13 rput_o rfl ?_
  refine z_aload_n d_X12_four_11 rfl rfl ?_
  refine z_getf (v := qI (f 1)) d_X12_four_12 fl_X12_130 rput_o rfl ?_
  refine z_eq rfl (qc (qi ht) rfl) rfl ?_
  refine z_iload_n d_X12_four_15 rfl rfl ?_
  refine z_iload_n d_X12_four_16 rfl rfl ?_
  refine z_ishr d_X12_four_17 ?_
  refine z_sipush d_X12_four_18 (by decide) ?_
  refine z_iand d_X12_four_21 ?_
  refine z_ist t d_X12_four_22 (rput_a2 1 (t := 0) (n := 400) (F := (g 1)) rfl rfl rfl (by decide) (by decide)) (by omega) rfl (by omega) ?_
  refine z_eq rfl rfl (rput_sa 1 rfl rfl (by decide) (by decide)) ?_
  refine z_aload_n d_X12_four_23 rfl rfl ?_
  refine z_dup d_X12_four_24 rfl ?_
  refine z_getf (v := qI (f 1)) d_X12_four_25 fl_X12_130 rput_o rfl ?_
  refine z_eq rfl (qc (qi ht) rfl) rfl ?_
  refine z_iconst d_X12_four_28 (by decide) ?_
  refine z_iadd d_X12_four_29 (by omega) ?_
  refine z_putf (fs' := [qI (f 0), qI ((t : Int) + 1), qI (f 2), qI (f 3), qI (f 4), qI (f 5), qI (f 6), qI (f 7), qR (m + 1), qR (m + 2), qR (m + 3), qR (m + 4), qR (m + 5), qR (m + 6), qR (m + 7), qR (m + 8), qR (m + 9), qR (m + 10), qI (f 18), qI (f 19), qI (f 20), qR (m + 11), qR (m + 12), qR (m + 13), qR (m + 14), qI (f 25), qR (m + 15), qI (f 27), qR (m + 16), qR (m + 17), qR (m + 18), qR (m + 19), qR (m + 20), qR (m + 21), qR (m + 22), qR (m + 23), qR (m + 24), qI (f 37), qI (f 38), qI (f 39), qI (f 40), qR (m + 25), qR (m + 26), qR (m + 27), qR (m + 28), qR (m + 29), qR (m + 30), qR (m + 31), qI (f 48), qR (m + 32), qR (m + 33), qR (m + 34), qR (m + 35), qR (m + 36), qR (m + 37)]) d_X12_four_30 fp_X12_130 rput_o (fun _ => rfl) (fun _ => rfl) (Nat.le_of_ble_eq_true rfl) rfl ?_
  refine z_eq rfl rfl (rput_sf (f' := (qup f 1 ((t : Int) + 1))) rfl) ?_
  refine z_iinc (ls' := [qR m, qI v, qI 16]) d_X12_four_33 rfl (by decide) (by omega) rfl ?_
  refine z_goto 3 d_X12_four_36 (by decide) ?_
  refine z_iload_n d_X12_four_3 rfl rfl ?_
  refine z_if_lt 39 d_X12_four_4 (by decide) (fun hc2 => absurd hc2 (by decide)) (fun hc2 => ?_)
  refine z_aload_n d_X12_four_7 rfl rfl ?_
  refine z_getf (v := qR (m + 1)) d_X12_four_8 fl_X12_13 rput_o rfl ?_
  refine z_aload_n d_X12_four_11 rfl rfl ?_
  refine z_getf (v := qI ((t : Int) + 1)) d_X12_four_12 fl_X12_130 rput_o rfl ?_
  refine z_iload_n d_X12_four_15 rfl rfl ?_
  refine z_iload_n d_X12_four_16 rfl rfl ?_
  refine z_ishr d_X12_four_17 ?_
  refine z_sipush d_X12_four_18 (by decide) ?_
  refine z_iand d_X12_four_21 ?_
  refine z_ist (t + 1) d_X12_four_22 (rput_a2 1 (t := 0) (n := 400) (F := (qup (g 1) t (qAnd (qShr v 24) 255))) rfl rfl rfl (by decide) (by decide)) (by omega) rfl (by omega) ?_
  refine z_eq rfl rfl ((rput_sa 1 rfl rfl (by decide) (by decide)).trans (rput_cg rfl (gup_gup _ _ _))) ?_
  refine z_aload_n d_X12_four_23 rfl rfl ?_
  refine z_dup d_X12_four_24 rfl ?_
  refine z_getf (v := qI ((t : Int) + 1)) d_X12_four_25 fl_X12_130 rput_o rfl ?_
  refine z_iconst d_X12_four_28 (by decide) ?_
  refine z_iadd d_X12_four_29 (by omega) ?_
  refine z_putf (fs' := [qI (f 0), qI (((t : Int) + 1) + 1), qI (f 2), qI (f 3), qI (f 4), qI (f 5), qI (f 6), qI (f 7), qR (m + 1), qR (m + 2), qR (m + 3), qR (m + 4), qR (m + 5), qR (m + 6), qR (m + 7), qR (m + 8), qR (m + 9), qR (m + 10), qI (f 18), qI (f 19), qI (f 20), qR (m + 11), qR (m + 12), qR (m + 13), qR (m + 14), qI (f 25), qR (m + 15), qI (f 27), qR (m + 16), qR (m + 17), qR (m + 18), qR (m + 19), qR (m + 20), qR (m + 21), qR (m + 22), qR (m + 23), qR (m + 24), qI (f 37), qI (f 38), qI (f 39), qI (f 40), qR (m + 25), qR (m + 26), qR (m + 27), qR (m + 28), qR (m + 29), qR (m + 30), qR (m + 31), qI (f 48), qR (m + 32), qR (m + 33), qR (m + 34), qR (m + 35), qR (m + 36), qR (m + 37)]) d_X12_four_30 fp_X12_130 rput_o (fun _ => rfl) (fun _ => rfl) (Nat.le_of_ble_eq_true rfl) rfl ?_
  refine z_eq rfl rfl ((rput_sf (f' := qup (qup f 1 ((t : Int) + 1)) 1 (((t : Int) + 1) + 1)) rfl).trans (rput_cg (qup_qup _ _ _ _) rfl)) ?_
  refine z_iinc (ls' := [qR m, qI v, qI 8]) d_X12_four_33 rfl (by decide) (by omega) rfl ?_
  refine z_goto 3 d_X12_four_36 (by decide) ?_
  refine z_iload_n d_X12_four_3 rfl rfl ?_
  refine z_if_lt 39 d_X12_four_4 (by decide) (fun hc3 => absurd hc3 (by decide)) (fun hc3 => ?_)
  refine z_aload_n d_X12_four_7 rfl rfl ?_
  refine z_getf (v := qR (m + 1)) d_X12_four_8 fl_X12_13 rput_o rfl ?_
  refine z_aload_n d_X12_four_11 rfl rfl ?_
  refine z_getf (v := qI (((t : Int) + 1) + 1)) d_X12_four_12 fl_X12_130 rput_o rfl ?_
  refine z_iload_n d_X12_four_15 rfl rfl ?_
  refine z_iload_n d_X12_four_16 rfl rfl ?_
  refine z_ishr d_X12_four_17 ?_
  refine z_sipush d_X12_four_18 (by decide) ?_
  refine z_iand d_X12_four_21 ?_
  refine z_ist ((t + 1) + 1) d_X12_four_22 (rput_a2 1 (t := 0) (n := 400) (F := (qup (qup (g 1) t (qAnd (qShr v 24) 255)) (t + 1) (qAnd (qShr v 16) 255))) rfl rfl rfl (by decide) (by decide)) (by omega) rfl (by omega) ?_
  refine z_eq rfl rfl ((rput_sa 1 rfl rfl (by decide) (by decide)).trans (rput_cg rfl (gup_gup _ _ _))) ?_
  refine z_aload_n d_X12_four_23 rfl rfl ?_
  refine z_dup d_X12_four_24 rfl ?_
  refine z_getf (v := qI (((t : Int) + 1) + 1)) d_X12_four_25 fl_X12_130 rput_o rfl ?_
  refine z_iconst d_X12_four_28 (by decide) ?_
  refine z_iadd d_X12_four_29 (by omega) ?_
  refine z_putf (fs' := [qI (f 0), qI ((((t : Int) + 1) + 1) + 1), qI (f 2), qI (f 3), qI (f 4), qI (f 5), qI (f 6), qI (f 7), qR (m + 1), qR (m + 2), qR (m + 3), qR (m + 4), qR (m + 5), qR (m + 6), qR (m + 7), qR (m + 8), qR (m + 9), qR (m + 10), qI (f 18), qI (f 19), qI (f 20), qR (m + 11), qR (m + 12), qR (m + 13), qR (m + 14), qI (f 25), qR (m + 15), qI (f 27), qR (m + 16), qR (m + 17), qR (m + 18), qR (m + 19), qR (m + 20), qR (m + 21), qR (m + 22), qR (m + 23), qR (m + 24), qI (f 37), qI (f 38), qI (f 39), qI (f 40), qR (m + 25), qR (m + 26), qR (m + 27), qR (m + 28), qR (m + 29), qR (m + 30), qR (m + 31), qI (f 48), qR (m + 32), qR (m + 33), qR (m + 34), qR (m + 35), qR (m + 36), qR (m + 37)]) d_X12_four_30 fp_X12_130 rput_o (fun _ => rfl) (fun _ => rfl) (Nat.le_of_ble_eq_true rfl) rfl ?_
  refine z_eq rfl rfl ((rput_sf (f' := qup (qup f 1 (((t : Int) + 1) + 1)) 1 ((((t : Int) + 1) + 1) + 1)) rfl).trans (rput_cg (qup_qup _ _ _ _) rfl)) ?_
  refine z_iinc (ls' := [qR m, qI v, qI 0]) d_X12_four_33 rfl (by decide) (by omega) rfl ?_
  refine z_goto 3 d_X12_four_36 (by decide) ?_
  refine z_iload_n d_X12_four_3 rfl rfl ?_
  refine z_if_lt 39 d_X12_four_4 (by decide) (fun hc4 => absurd hc4 (by decide)) (fun hc4 => ?_)
  refine z_aload_n d_X12_four_7 rfl rfl ?_
  refine z_getf (v := qR (m + 1)) d_X12_four_8 fl_X12_13 rput_o rfl ?_
  refine z_aload_n d_X12_four_11 rfl rfl ?_
  refine z_getf (v := qI ((((t : Int) + 1) + 1) + 1)) d_X12_four_12 fl_X12_130 rput_o rfl ?_
  refine z_iload_n d_X12_four_15 rfl rfl ?_
  refine z_iload_n d_X12_four_16 rfl rfl ?_
  refine z_ishr d_X12_four_17 ?_
  refine z_sipush d_X12_four_18 (by decide) ?_
  refine z_iand d_X12_four_21 ?_
  refine z_ist (((t + 1) + 1) + 1) d_X12_four_22 (rput_a2 1 (t := 0) (n := 400) (F := (qup (qup (qup (g 1) t (qAnd (qShr v 24) 255)) (t + 1) (qAnd (qShr v 16) 255)) ((t + 1) + 1) (qAnd (qShr v 8) 255))) rfl rfl rfl (by decide) (by decide)) (by omega) rfl (by omega) ?_
  refine z_eq rfl rfl ((rput_sa 1 rfl rfl (by decide) (by decide)).trans (rput_cg rfl (gup_gup _ _ _))) ?_
  refine z_aload_n d_X12_four_23 rfl rfl ?_
  refine z_dup d_X12_four_24 rfl ?_
  refine z_getf (v := qI ((((t : Int) + 1) + 1) + 1)) d_X12_four_25 fl_X12_130 rput_o rfl ?_
  refine z_iconst d_X12_four_28 (by decide) ?_
  refine z_iadd d_X12_four_29 (by omega) ?_
  refine z_putf (fs' := [qI (f 0), qI (((((t : Int) + 1) + 1) + 1) + 1), qI (f 2), qI (f 3), qI (f 4), qI (f 5), qI (f 6), qI (f 7), qR (m + 1), qR (m + 2), qR (m + 3), qR (m + 4), qR (m + 5), qR (m + 6), qR (m + 7), qR (m + 8), qR (m + 9), qR (m + 10), qI (f 18), qI (f 19), qI (f 20), qR (m + 11), qR (m + 12), qR (m + 13), qR (m + 14), qI (f 25), qR (m + 15), qI (f 27), qR (m + 16), qR (m + 17), qR (m + 18), qR (m + 19), qR (m + 20), qR (m + 21), qR (m + 22), qR (m + 23), qR (m + 24), qI (f 37), qI (f 38), qI (f 39), qI (f 40), qR (m + 25), qR (m + 26), qR (m + 27), qR (m + 28), qR (m + 29), qR (m + 30), qR (m + 31), qI (f 48), qR (m + 32), qR (m + 33), qR (m + 34), qR (m + 35), qR (m + 36), qR (m + 37)]) d_X12_four_30 fp_X12_130 rput_o (fun _ => rfl) (fun _ => rfl) (Nat.le_of_ble_eq_true rfl) rfl ?_
  refine z_eq rfl rfl ((rput_sf (f' := qup (qup f 1 ((((t : Int) + 1) + 1) + 1)) 1 (((((t : Int) + 1) + 1) + 1) + 1)) rfl).trans (rput_cg (qup_qup _ _ _ _) rfl)) ?_
  refine z_iinc (ls' := [qR m, qI v, qI (-8)]) d_X12_four_33 rfl (by decide) (by omega) rfl ?_
  refine z_goto 3 d_X12_four_36 (by decide) ?_
  refine z_iload_n d_X12_four_3 rfl rfl ?_
  refine z_if_lt 39 d_X12_four_4 (by decide) (fun hc5 => ?_) (fun hc5 => absurd (by decide) hc5)
  exact z_vret d_X12_four_39 rfl er eh
