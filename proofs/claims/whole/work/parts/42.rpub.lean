/-! ===== CONTRACTS: the reference: tape, wall, log, marks ===== -/
def by20 (F : Nat → Int) (t : Nat) (a b c d e : Int) : Nat → Int := by4 (by4 (by4 (by4 (by4 F t a) (t + 1 + 1 + 1 + 1) b) (t + 1 + 1 + 1 + 1 + 1 + 1 + 1 + 1) c) (t + 1 + 1 + 1 + 1 + 1 + 1 + 1 + 1 + 1 + 1 + 1 + 1) d) (t + 1 + 1 + 1 + 1 + 1 + 1 + 1 + 1 + 1 + 1 + 1 + 1 + 1 + 1 + 1 + 1) e
set_option maxRecDepth 20000 in
set_option maxHeartbeats 4000000 in
theorem c_feed_no {h : qH} {m : Nat} {f : Nat → Int} {g : Nat → Nat → Int} {t : Nat} (a b c d e : Int) (hm : 2 ≤ m) (h0 : f 0 = 0) (ht : f 1 = (t : Int)) (hb : t ≤ 400) (hno : 400 < t + 20) : qEx M_X12_feed 0 [qR m, qI a, qI b, qI c, qI d, qI e] [] (rput h m f g) (some (qI (-1))) (rput h m f g) := by
  refine q_gen (fun r hr er eh => ?_)
  refine z_aload_n d_X12_feed_0 rfl rfl ?_
  refine z_iconst d_X12_feed_1 (by decide) ?_
  refine z_putf (fs' := [qI 0, qI (f 1), qI (f 2), qI (f 3), qI (f 4), qI (f 5), qI (f 6), qI (f 7), qR (m + 1), qR (m + 2), qR (m + 3), qR (m + 4), qR (m + 5), qR (m + 6), qR (m + 7), qR (m + 8), qR (m + 9), qR (m + 10), qI (f 18), qI (f 19), qI (f 20), qR (m + 11), qR (m + 12), qR (m + 13), qR (m + 14), qI (f 25), qR (m + 15), qI (f 27), qR (m + 16), qR (m + 17), qR (m + 18), qR (m + 19), qR (m + 20), qR (m + 21), qR (m + 22), qR (m + 23), qR (m + 24), qI (f 37), qI (f 38), qI (f 39), qI (f 40), qR (m + 25), qR (m + 26), qR (m + 27), qR (m + 28), qR (m + 29), qR (m + 30), qR (m + 31), qI (f 48), qR (m + 32), qR (m + 33), qR (m + 34), qR (m + 35), qR (m + 36), qR (m + 37)]) d_X12_feed_2 fp_X12_127 rput_o (fun _ => rfl) (fun _ => rfl) (Nat.le_of_ble_eq_true rfl) rfl ?_
  refine z_eq rfl rfl ((rput_sf (f' := qup f 0 0) rfl).trans (rput_cg (qup_self h0) rfl)) ?_
  refine z_aload_n d_X12_feed_5 rfl rfl ?_
  refine z_getf (v := qI (f 1)) d_X12_feed_6 fl_X12_130 rput_o rfl ?_
  refine z_eq rfl (qc (qi ht) rfl) rfl ?_
  refine z_bipush d_X12_feed_9 (by decide) ?_
  refine z_iadd d_X12_feed_11 (by omega) ?_
  refine z_aload_n d_X12_feed_12 rfl rfl ?_
  refine z_getf (v := qR (m + 1)) d_X12_feed_13 fl_X12_13 rput_o rfl ?_
  refine z_alen d_X12_feed_16 (rput_a2 1 (t := 0) (n := 400) (F := (g 1)) rfl rfl rfl (by decide) (by decide)) (by omega) ?_
  refine z_icmp_le 22 d_X12_feed_17 (by decide) (fun hc1 => absurd hc1 (by omega)) (fun hc1 => ?_)
  refine z_iconst d_X12_feed_20 (by decide) ?_
  exact z_iret d_X12_feed_21 rfl er eh
set_option maxRecDepth 20000 in
set_option maxHeartbeats 4000000 in
theorem c_feed_yes {h : qH} {m : Nat} {f : Nat → Int} {g : Nat → Nat → Int} {t : Nat} (a b c d e : Int) (hm : 2 ≤ m) (h0 : f 0 = 0) (ht : f 1 = (t : Int)) (hok : t + 20 ≤ 400) : qEx M_X12_feed 0 [qR m, qI a, qI b, qI c, qI d, qI e] [] (rput h m f g) (some (qI ((t : Int) + 20))) (rput h m (qup f 1 ((t : Int) + 20)) (gup g 1 (by20 (g 1) t a b c d e))) := by
  refine q_gen (fun r hr er eh => ?_)
  refine z_aload_n d_X12_feed_0 rfl rfl ?_
  refine z_iconst d_X12_feed_1 (by decide) ?_
  refine z_putf (fs' := [qI 0, qI (f 1), qI (f 2), qI (f 3), qI (f 4), qI (f 5), qI (f 6), qI (f 7), qR (m + 1), qR (m + 2), qR (m + 3), qR (m + 4), qR (m + 5), qR (m + 6), qR (m + 7), qR (m + 8), qR (m + 9), qR (m + 10), qI (f 18), qI (f 19), qI (f 20), qR (m + 11), qR (m + 12), qR (m + 13), qR (m + 14), qI (f 25), qR (m + 15), qI (f 27), qR (m + 16), qR (m + 17), qR (m + 18), qR (m + 19), qR (m + 20), qR (m + 21), qR (m + 22), qR (m + 23), qR (m + 24), qI (f 37), qI (f 38), qI (f 39), qI (f 40), qR (m + 25), qR (m + 26), qR (m + 27), qR (m + 28), qR (m + 29), qR (m + 30), qR (m + 31), qI (f 48), qR (m + 32), qR (m + 33), qR (m + 34), qR (m + 35), qR (m + 36), qR (m + 37)]) d_X12_feed_2 fp_X12_127 rput_o (fun _ => rfl) (fun _ => rfl) (Nat.le_of_ble_eq_true rfl) rfl ?_
  refine z_eq rfl rfl ((rput_sf (f' := qup f 0 0) rfl).trans (rput_cg (qup_self h0) rfl)) ?_
  refine z_aload_n d_X12_feed_5 rfl rfl ?_
  refine z_getf (v := qI (f 1)) d_X12_feed_6 fl_X12_130 rput_o rfl ?_
  refine z_eq rfl (qc (qi ht) rfl) rfl ?_
  refine z_bipush d_X12_feed_9 (by decide) ?_
  refine z_iadd d_X12_feed_11 (by omega) ?_
  refine z_aload_n d_X12_feed_12 rfl rfl ?_
  refine z_getf (v := qR (m + 1)) d_X12_feed_13 fl_X12_13 rput_o rfl ?_
  refine z_alen d_X12_feed_16 (rput_a2 1 (t := 0) (n := 400) (F := (g 1)) rfl rfl rfl (by decide) (by decide)) (by omega) ?_
  refine z_icmp_le 22 d_X12_feed_17 (by decide) (fun hc1 => ?_) (fun hc1 => absurd hc1 (by omega))
  refine z_aload_n d_X12_feed_22 rfl rfl ?_
  refine z_iload_n d_X12_feed_23 rfl rfl ?_
  refine z_cv0 (M1 := M_X12_four) d_X12_feed_24 lv_X12_133 k_X12_four [qI a] rfl rfl rput_o ⟨_, _, rfl⟩ (Nat.le_of_ble_eq_true rfl) (by decide) (by decide) (Nat.le_of_ble_eq_true rfl) (c_four (t := t) a hm (ht) (by omega)) ?_
  refine z_aload_n d_X12_feed_27 rfl rfl ?_
  refine z_iload_n d_X12_feed_28 rfl rfl ?_
  refine z_cv0 (M1 := M_X12_four) d_X12_feed_29 lv_X12_133 k_X12_four [qI b] rfl rfl rput_o ⟨_, _, rfl⟩ (Nat.le_of_ble_eq_true rfl) (by decide) (by decide) (Nat.le_of_ble_eq_true rfl) (c_four (t := (t + 1 + 1 + 1 + 1)) b hm (rfl) (by omega)) ?_
  refine z_eq rfl rfl (rput_cg (qup_qup _ _ _ _) (gup_gup _ _ _)) ?_
  refine z_aload_n d_X12_feed_32 rfl rfl ?_
  refine z_iload_n d_X12_feed_33 rfl rfl ?_
  refine z_cv0 (M1 := M_X12_four) d_X12_feed_34 lv_X12_133 k_X12_four [qI c] rfl rfl rput_o ⟨_, _, rfl⟩ (Nat.le_of_ble_eq_true rfl) (by decide) (by decide) (Nat.le_of_ble_eq_true rfl) (c_four (t := ((t + 1 + 1 + 1 + 1) + 1 + 1 + 1 + 1)) c hm (rfl) (by omega)) ?_
  refine z_eq rfl rfl (rput_cg (qup_qup _ _ _ _) (gup_gup _ _ _)) ?_
  refine z_aload_n d_X12_feed_37 rfl rfl ?_
  refine z_iload d_X12_feed_38 rfl ?_
  refine z_cv0 (M1 := M_X12_four) d_X12_feed_40 lv_X12_133 k_X12_four [qI d] rfl rfl rput_o ⟨_, _, rfl⟩ (Nat.le_of_ble_eq_true rfl) (by decide) (by decide) (Nat.le_of_ble_eq_true rfl) (c_four (t := (((t + 1 + 1 + 1 + 1) + 1 + 1 + 1 + 1) + 1 + 1 + 1 + 1)) d hm (rfl) (by omega)) ?_
  refine z_eq rfl rfl (rput_cg (qup_qup _ _ _ _) (gup_gup _ _ _)) ?_
  refine z_aload_n d_X12_feed_43 rfl rfl ?_
  refine z_iload d_X12_feed_44 rfl ?_
  refine z_cv0 (M1 := M_X12_four) d_X12_feed_46 lv_X12_133 k_X12_four [qI e] rfl rfl rput_o ⟨_, _, rfl⟩ (Nat.le_of_ble_eq_true rfl) (by decide) (by decide) (Nat.le_of_ble_eq_true rfl) (c_four (t := ((((t + 1 + 1 + 1 + 1) + 1 + 1 + 1 + 1) + 1 + 1 + 1 + 1) + 1 + 1 + 1 + 1)) e hm (rfl) (by omega)) ?_
  refine z_eq rfl rfl (rput_cg (qup_qup _ _ _ _) (gup_gup _ _ _)) ?_
  refine z_aload_n d_X12_feed_49 rfl rfl ?_
  refine z_getf (v := qI ((((((t : Int) + 1 + 1 + 1 + 1) + 1 + 1 + 1 + 1) + 1 + 1 + 1 + 1) + 1 + 1 + 1 + 1) + 1 + 1 + 1 + 1)) d_X12_feed_50 fl_X12_130 rput_o rfl ?_
  exact z_iret d_X12_feed_53 rfl (qer er (by omega)) (eh.trans (rput_cg (qup_cg rfl (by omega)) rfl))
set_option maxRecDepth 20000 in
set_option maxHeartbeats 4000000 in
theorem c_end_no {h : qH} {m : Nat} {f : Nat → Int} {g : Nat → Nat → Int} (n : Int) (hm : 2 ≤ m) (h0 : f 0 = 0) (hno : ¬ (0 ≤ n ∧ n ≤ f 1)) : qEx M_X12_end 0 [qR m, qI n] [] (rput h m f g) (some (qI 0)) (rput h m f g) := by
  refine q_gen (fun r hr er eh => ?_)
  refine z_aload_n d_X12_end_0 rfl rfl ?_
  refine z_iconst d_X12_end_1 (by decide) ?_
  refine z_putf (fs' := [qI 0, qI (f 1), qI (f 2), qI (f 3), qI (f 4), qI (f 5), qI (f 6), qI (f 7), qR (m + 1), qR (m + 2), qR (m + 3), qR (m + 4), qR (m + 5), qR (m + 6), qR (m + 7), qR (m + 8), qR (m + 9), qR (m + 10), qI (f 18), qI (f 19), qI (f 20), qR (m + 11), qR (m + 12), qR (m + 13), qR (m + 14), qI (f 25), qR (m + 15), qI (f 27), qR (m + 16), qR (m + 17), qR (m + 18), qR (m + 19), qR (m + 20), qR (m + 21), qR (m + 22), qR (m + 23), qR (m + 24), qI (f 37), qI (f 38), qI (f 39), qI (f 40), qR (m + 25), qR (m + 26), qR (m + 27), qR (m + 28), qR (m + 29), qR (m + 30), qR (m + 31), qI (f 48), qR (m + 32), qR (m + 33), qR (m + 34), qR (m + 35), qR (m + 36), qR (m + 37)]) d_X12_end_2 fp_X12_127 rput_o (fun _ => rfl) (fun _ => rfl) (Nat.le_of_ble_eq_true rfl) rfl ?_
  refine z_eq rfl rfl ((rput_sf (f' := qup f 0 0) rfl).trans (rput_cg (qup_self h0) rfl)) ?_
  refine z_iload_n d_X12_end_5 rfl rfl ?_
  refine z_iconst d_X12_end_6 (by decide) ?_
  refine z_aload_n d_X12_end_7 rfl rfl ?_
  refine z_getf (v := qI (f 1)) d_X12_end_8 fl_X12_130 rput_o rfl ?_
  refine z_cs (M1 := M_X12_in) d_X12_end_11 ls_X12_137 k_X12_in [qI n, qI 0, qI (f 1)] rfl rfl (Nat.le_of_ble_eq_true rfl) (by decide) (by decide) (Nat.le_of_ble_eq_true rfl) (c_in n 0 (f 1)) ?_
  refine z_ifneB 19 d_X12_end_14 (by decide) (fun hc1 => absurd hc1 (by exact hno)) (fun hc1 => ?_)
  refine z_iconst d_X12_end_17 (by decide) ?_
  exact z_zret d_X12_end_18 rfl (by first | exact qb_01 _ | decide | omega) er eh
set_option maxRecDepth 20000 in
set_option maxHeartbeats 4000000 in
theorem c_end_yes {h : qH} {m : Nat} {f : Nat → Int} {g : Nat → Nat → Int} (n : Int) (hm : 2 ≤ m) (h0 : f 0 = 0) (hok : 0 ≤ n ∧ n ≤ f 1) : qEx M_X12_end 0 [qR m, qI n] [] (rput h m f g) (some (qI 1)) (rput h m (qup f 1 n) g) := by
  refine q_gen (fun r hr er eh => ?_)
  refine z_aload_n d_X12_end_0 rfl rfl ?_
  refine z_iconst d_X12_end_1 (by decide) ?_
  refine z_putf (fs' := [qI 0, qI (f 1), qI (f 2), qI (f 3), qI (f 4), qI (f 5), qI (f 6), qI (f 7), qR (m + 1), qR (m + 2), qR (m + 3), qR (m + 4), qR (m + 5), qR (m + 6), qR (m + 7), qR (m + 8), qR (m + 9), qR (m + 10), qI (f 18), qI (f 19), qI (f 20), qR (m + 11), qR (m + 12), qR (m + 13), qR (m + 14), qI (f 25), qR (m + 15), qI (f 27), qR (m + 16), qR (m + 17), qR (m + 18), qR (m + 19), qR (m + 20), qR (m + 21), qR (m + 22), qR (m + 23), qR (m + 24), qI (f 37), qI (f 38), qI (f 39), qI (f 40), qR (m + 25), qR (m + 26), qR (m + 27), qR (m + 28), qR (m + 29), qR (m + 30), qR (m + 31), qI (f 48), qR (m + 32), qR (m + 33), qR (m + 34), qR (m + 35), qR (m + 36), qR (m + 37)]) d_X12_end_2 fp_X12_127 rput_o (fun _ => rfl) (fun _ => rfl) (Nat.le_of_ble_eq_true rfl) rfl ?_
  refine z_eq rfl rfl ((rput_sf (f' := qup f 0 0) rfl).trans (rput_cg (qup_self h0) rfl)) ?_
  refine z_iload_n d_X12_end_5 rfl rfl ?_
  refine z_iconst d_X12_end_6 (by decide) ?_
  refine z_aload_n d_X12_end_7 rfl rfl ?_
  refine z_getf (v := qI (f 1)) d_X12_end_8 fl_X12_130 rput_o rfl ?_
  refine z_cs (M1 := M_X12_in) d_X12_end_11 ls_X12_137 k_X12_in [qI n, qI 0, qI (f 1)] rfl rfl (Nat.le_of_ble_eq_true rfl) (by decide) (by decide) (Nat.le_of_ble_eq_true rfl) (c_in n 0 (f 1)) ?_
  refine z_ifneB 19 d_X12_end_14 (by decide) (fun hc1 => ?_) (fun hc1 => absurd hc1 (by exact fun z => z hok))
  refine z_aload_n d_X12_end_19 rfl rfl ?_
  refine z_iload_n d_X12_end_20 rfl rfl ?_
  refine z_putf (fs' := [qI (f 0), qI n, qI (f 2), qI (f 3), qI (f 4), qI (f 5), qI (f 6), qI (f 7), qR (m + 1), qR (m + 2), qR (m + 3), qR (m + 4), qR (m + 5), qR (m + 6), qR (m + 7), qR (m + 8), qR (m + 9), qR (m + 10), qI (f 18), qI (f 19), qI (f 20), qR (m + 11), qR (m + 12), qR (m + 13), qR (m + 14), qI (f 25), qR (m + 15), qI (f 27), qR (m + 16), qR (m + 17), qR (m + 18), qR (m + 19), qR (m + 20), qR (m + 21), qR (m + 22), qR (m + 23), qR (m + 24), qI (f 37), qI (f 38), qI (f 39), qI (f 40), qR (m + 25), qR (m + 26), qR (m + 27), qR (m + 28), qR (m + 29), qR (m + 30), qR (m + 31), qI (f 48), qR (m + 32), qR (m + 33), qR (m + 34), qR (m + 35), qR (m + 36), qR (m + 37)]) d_X12_end_21 fp_X12_130 rput_o (fun _ => rfl) (fun _ => rfl) (Nat.le_of_ble_eq_true rfl) rfl ?_
  refine z_eq rfl rfl (rput_sf (f' := (qup f 1 n)) rfl) ?_
  refine z_iconst d_X12_end_24 (by decide) ?_
  exact z_zret d_X12_end_25 rfl (by first | exact qb_01 _ | decide | omega) er eh
set_option maxRecDepth 20000 in
set_option maxHeartbeats 4000000 in
theorem c_fault {h : qH} {m : Nat} {f : Nat → Int} {g : Nat → Nat → Int} (n : Int) (hm : 2 ≤ m) (h0 : f 0 = 0) : qEx M_X12_fault 0 [qR m, qI n] [] (rput h m f g) (some (qI (if n = 0 then f 6 else if n = 1 then f 7 else -1))) (rput h m f g) := by
  refine q_gen (fun r hr er eh => ?_)
  refine z_aload_n d_X12_fault_0 rfl rfl ?_
  refine z_iconst d_X12_fault_1 (by decide) ?_
  refine z_putf (fs' := [qI 0, qI (f 1), qI (f 2), qI (f 3), qI (f 4), qI (f 5), qI (f 6), qI (f 7), qR (m + 1), qR (m + 2), qR (m + 3), qR (m + 4), qR (m + 5), qR (m + 6), qR (m + 7), qR (m + 8), qR (m + 9), qR (m + 10), qI (f 18), qI (f 19), qI (f 20), qR (m + 11), qR (m + 12), qR (m + 13), qR (m + 14), qI (f 25), qR (m + 15), qI (f 27), qR (m + 16), qR (m + 17), qR (m + 18), qR (m + 19), qR (m + 20), qR (m + 21), qR (m + 22), qR (m + 23), qR (m + 24), qI (f 37), qI (f 38), qI (f 39), qI (f 40), qR (m + 25), qR (m + 26), qR (m + 27), qR (m + 28), qR (m + 29), qR (m + 30), qR (m + 31), qI (f 48), qR (m + 32), qR (m + 33), qR (m + 34), qR (m + 35), qR (m + 36), qR (m + 37)]) d_X12_fault_2 fp_X12_127 rput_o (fun _ => rfl) (fun _ => rfl) (Nat.le_of_ble_eq_true rfl) rfl ?_
  refine z_eq rfl rfl ((rput_sf (f' := qup f 0 0) rfl).trans (rput_cg (qup_self h0) rfl)) ?_
  refine z_iload_n d_X12_fault_5 rfl rfl ?_
  suffices kJ6 : qEx M_X12_fault 29 [qR m, qI n] [qI (qif (n ≠ 0) (qif (n ≠ 1) (-1) (f 7)) (f 6))] (rput h m f g) r hr by
    refine z_if_ne 16 d_X12_fault_6 (by decide) (fun hc1 => ?_) (fun hc1 => ?_)
    · refine z_iload_n d_X12_fault_16 rfl rfl ?_
      refine z_iconst d_X12_fault_17 (by decide) ?_
      suffices kJ18 : qEx M_X12_fault 29 [qR m, qI n] [qI (qif (n ≠ 1) (-1) (f 7))] (rput h m f g) r hr by
        refine z_icmp_ne 28 d_X12_fault_18 (by decide) (fun hc2 => ?_) (fun hc2 => ?_)
        · refine z_iconst d_X12_fault_28 (by decide) ?_
          exact z_eq rfl (qc (qi (qif_t hc2).symm) rfl) rfl kJ18
        · refine z_aload_n d_X12_fault_21 rfl rfl ?_
          refine z_getf (v := qI (f 7)) d_X12_fault_22 fl_X12_9 rput_o rfl ?_
          refine z_goto 29 d_X12_fault_25 (by decide) ?_
          exact z_eq rfl (qc (qi (qif_f hc2).symm) rfl) rfl kJ18
      exact z_eq rfl (qc (qi (qif_t hc1).symm) rfl) rfl kJ6
    · refine z_aload_n d_X12_fault_9 rfl rfl ?_
      refine z_getf (v := qI (f 6)) d_X12_fault_10 fl_X12_234 rput_o rfl ?_
      refine z_goto 29 d_X12_fault_13 (by decide) ?_
      exact z_eq rfl (qc (qi (qif_f hc1).symm) rfl) rfl kJ6
  exact z_iret d_X12_fault_29 rfl (qer er (by simp only [qif_eq]; omega)) eh
set_option maxRecDepth 20000 in
set_option maxHeartbeats 4000000 in
theorem c_isMark {h : qH} {m : Nat} {f : Nat → Int} {g : Nat → Nat → Int} (n : Int) (hm : 2 ≤ m) (hM : 0 ≤ f 27 ∧ f 27 ≤ 8) : qEx M_X12_isMark 0 [qR m, qI n] [] (rput h m f g) (some (qI (qb (0 ≤ n ∧ n < f 27)))) (rput h m f g) := by
  refine q_gen (fun r hr er eh => ?_)
  refine z_iload_n d_X12_isMark_0 rfl rfl ?_
  refine z_iconst d_X12_isMark_1 (by decide) ?_
  refine z_aload_n d_X12_isMark_2 rfl rfl ?_
  refine z_getf (v := qI (f 27)) d_X12_isMark_3 fl_X12_323 rput_o rfl ?_
  refine z_iconst d_X12_isMark_6 (by decide) ?_
  refine z_isub d_X12_isMark_7 (by omega) ?_
  refine z_cs (M1 := M_X12_in) d_X12_isMark_8 ls_X12_137 k_X12_in [qI n, qI 0, qI ((f 27) - 1)] rfl rfl (Nat.le_of_ble_eq_true rfl) (by decide) (by decide) (Nat.le_of_ble_eq_true rfl) (c_in n 0 ((f 27) - 1)) ?_
  exact z_zret d_X12_isMark_11 rfl (by first | exact qb_01 _ | decide | omega) (qer er (qb_congr (by omega))) eh
theorem qcpy_0 (f g : Nat → Int) (sp dp : Nat) : qcpy f g sp dp 0 = g := by
  funext k
  unfold qcpy
  rw [if_neg (by omega)]
theorem qcpy_s (f g : Nat → Int) (sp dp i : Nat) : qup (qcpy f g sp dp i) (dp + i) (f (sp + i)) = qcpy f g sp dp (i + 1) := by
  funext k
  unfold qup qcpy
  by_cases h : k = dp + i
  · subst h
    rw [if_pos rfl, if_pos (by omega), show dp + i - dp = i by omega]
  · rw [if_neg h]
    by_cases h2 : dp ≤ k ∧ k < dp + i
    · rw [if_pos h2, if_pos (by omega)]
    · rw [if_neg h2, if_neg (by omega)]
/-- four numbers at place t and behind -/
def row4 (F : Nat → Int) (t : Nat) (a b c d : Int) : Nat → Int := qup (qup (qup (qup F t a) (t + 1) b) (t + 2) c) (t + 3) d
/-- a line of the log, if there is room -/
def logG (g : Nat → Nat → Int) (a b c : Int) : Nat → Nat → Int := if g 11 166 = 150 then g else gup (gup g 13 (row4 (g 13) (4 * (g 11 166).toNat) (g 11 162) a b c)) 11 (qup (g 11) 166 (g 11 166 + 1))
set_option maxRecDepth 20000 in
set_option maxHeartbeats 4000000 in
theorem c_wall_no {h : qH} {m : Nat} {f : Nat → Int} {g : Nat → Nat → Int} (n : Int) (rd : Prop) (hm : 2 ≤ m) (h0 : f 0 = 0) (hno : ¬ (0 ≤ n ∧ n ≤ 32)) : qEx M_X12_wall 0 [qR m, qI n, qI (qb rd), qU, qU] [] (rput h m f g) (some (qI 0)) (rput h m f g) := by
  refine q_gen (fun r hr er eh => ?_)
  refine z_aload_n d_X12_wall_0 rfl rfl ?_
  refine z_iconst d_X12_wall_1 (by decide) ?_
  refine z_putf (fs' := [qI 0, qI (f 1), qI (f 2), qI (f 3), qI (f 4), qI (f 5), qI (f 6), qI (f 7), qR (m + 1), qR (m + 2), qR (m + 3), qR (m + 4), qR (m + 5), qR (m + 6), qR (m + 7), qR (m + 8), qR (m + 9), qR (m + 10), qI (f 18), qI (f 19), qI (f 20), qR (m + 11), qR (m + 12), qR (m + 13), qR (m + 14), qI (f 25), qR (m + 15), qI (f 27), qR (m + 16), qR (m + 17), qR (m + 18), qR (m + 19), qR (m + 20), qR (m + 21), qR (m + 22), qR (m + 23), qR (m + 24), qI (f 37), qI (f 38), qI (f 39), qI (f 40), qR (m + 25), qR (m + 26), qR (m + 27), qR (m + 28), qR (m + 29), qR (m + 30), qR (m + 31), qI (f 48), qR (m + 32), qR (m + 33), qR (m + 34), qR (m + 35), qR (m + 36), qR (m + 37)]) d_X12_wall_2 fp_X12_127 rput_o (fun _ => rfl) (fun _ => rfl) (Nat.le_of_ble_eq_true rfl) rfl ?_
  refine z_eq rfl rfl ((rput_sf (f' := qup f 0 0) rfl).trans (rput_cg (qup_self h0) rfl)) ?_
  refine z_iload_n d_X12_wall_5 rfl rfl ?_
  refine z_iconst d_X12_wall_6 (by decide) ?_
  refine z_bipush d_X12_wall_7 (by decide) ?_
  refine z_cs (M1 := M_X12_in) d_X12_wall_9 ls_X12_137 k_X12_in [qI n, qI 0, qI 32] rfl rfl (Nat.le_of_ble_eq_true rfl) (by decide) (by decide) (Nat.le_of_ble_eq_true rfl) (c_in n 0 32) ?_
  refine z_ifneB 17 d_X12_wall_12 (by decide) (fun hc1 => absurd hc1 (by exact hno)) (fun hc1 => ?_)
  refine z_iconst d_X12_wall_15 (by decide) ?_
  exact z_zret d_X12_wall_16 rfl (by first | exact qb_01 _ | decide | omega) er eh
set_option maxRecDepth 20000 in
set_option maxHeartbeats 4000000 in
theorem c_wall_yes {h : qH} {m : Nat} {f : Nat → Int} {g : Nat → Nat → Int} (n : Int) (rd : Prop) (hm : 2 ≤ m) (h0 : f 0 = 0) (hok : 0 ≤ n ∧ n ≤ 32) : qEx M_X12_wall 0 [qR m, qI n, qI (qb rd), qU, qU] [] (rput h m f g) (some (qI 1)) (rput h m (qup f 25 0) (gup g 11 (qup (qup (qup (qup (qmx 167 (fun _ => 0) (g 11)) 160 n) 161 (qb rd)) 164 (-1)) 166 (g 11 166)))) := by
  refine q_gen (fun r hr er eh => ?_)
  refine z_aload_n d_X12_wall_0 rfl rfl ?_
  refine z_iconst d_X12_wall_1 (by decide) ?_
  refine z_putf (fs' := [qI 0, qI (f 1), qI (f 2), qI (f 3), qI (f 4), qI (f 5), qI (f 6), qI (f 7), qR (m + 1), qR (m + 2), qR (m + 3), qR (m + 4), qR (m + 5), qR (m + 6), qR (m + 7), qR (m + 8), qR (m + 9), qR (m + 10), qI (f 18), qI (f 19), qI (f 20), qR (m + 11), qR (m + 12), qR (m + 13), qR (m + 14), qI (f 25), qR (m + 15), qI (f 27), qR (m + 16), qR (m + 17), qR (m + 18), qR (m + 19), qR (m + 20), qR (m + 21), qR (m + 22), qR (m + 23), qR (m + 24), qI (f 37), qI (f 38), qI (f 39), qI (f 40), qR (m + 25), qR (m + 26), qR (m + 27), qR (m + 28), qR (m + 29), qR (m + 30), qR (m + 31), qI (f 48), qR (m + 32), qR (m + 33), qR (m + 34), qR (m + 35), qR (m + 36), qR (m + 37)]) d_X12_wall_2 fp_X12_127 rput_o (fun _ => rfl) (fun _ => rfl) (Nat.le_of_ble_eq_true rfl) rfl ?_
  refine z_eq rfl rfl ((rput_sf (f' := qup f 0 0) rfl).trans (rput_cg (qup_self h0) rfl)) ?_
  refine z_iload_n d_X12_wall_5 rfl rfl ?_
  refine z_iconst d_X12_wall_6 (by decide) ?_
  refine z_bipush d_X12_wall_7 (by decide) ?_
  refine z_cs (M1 := M_X12_in) d_X12_wall_9 ls_X12_137 k_X12_in [qI n, qI 0, qI 32] rfl rfl (Nat.le_of_ble_eq_true rfl) (by decide) (by decide) (Nat.le_of_ble_eq_true rfl) (c_in n 0 32) ?_
  refine z_ifneB 17 d_X12_wall_12 (by decide) (fun hc1 => ?_) (fun hc1 => absurd hc1 (by exact fun z => z hok))
  refine z_aload_n d_X12_wall_17 rfl rfl ?_
  refine z_getf (v := qR (m + 11)) d_X12_wall_18 fl_X12_44 rput_o rfl ?_
  refine z_sipush d_X12_wall_21 (by decide) ?_
  refine z_ild 166 d_X12_wall_24 (rput_a2 11 (t := 0) (n := 167) (F := (g 11)) rfl rfl rfl (by decide) (by decide)) rfl (by omega) ?_
  refine z_istore_n (ls' := [qR m, qI n, qI (qb rd), qI ((g 11) 166), qU]) d_X12_wall_25 rfl (by decide) rfl ?_
  refine z_iconst d_X12_wall_26 (by decide) ?_
  refine z_istore (ls' := [qR m, qI n, qI (qb rd), qI ((g 11) 166), qI 0]) d_X12_wall_27 (by decide) rfl ?_
  refine z_eq (qc rfl (qc rfl (qc rfl (qc (qi (by omega)) (qc (qi (by omega)) rfl))))) rfl (rput_cg rfl (gup_self (qmx_0 _ _).symm).symm) (z_for 167 (fun i => [qR m, qI n, qI (qb rd), qI (g 11 166), qI (i : Int)]) (fun i => (rput h m f (gup g 11 (qmx i (fun _ => 0) (g 11))))) (fun i => True) trivial (fun i hii hp kki => ?_) (fun hp => ?_))
  · show qEx M_X12_wall 29 [qR m, qI n, qI (qb rd), qI (g 11 166), qI (i : Int)] [] (rput h m f (gup g 11 (qmx i (fun _ => 0) (g 11)))) r hr
    refine z_iload d_X12_wall_29 rfl ?_
    refine z_sipush d_X12_wall_31 (by decide) ?_
    refine z_icmp_ge 51 d_X12_wall_34 (by decide) (fun hc2 => absurd hc2 (by omega)) (fun hc2 => ?_)
    refine z_aload_n d_X12_wall_37 rfl rfl ?_
    refine z_getf (v := qR (m + 11)) d_X12_wall_38 fl_X12_44 rput_o rfl ?_
    refine z_iload d_X12_wall_41 rfl ?_
    refine z_iconst d_X12_wall_43 (by decide) ?_
    refine z_ist i d_X12_wall_44 (rput_a2 11 (t := 0) (n := 167) (F := (qmx i (fun _ => 0) (g 11))) rfl rfl rfl (by decide) (by decide)) (by omega) rfl (by omega) ?_
    refine z_eq rfl rfl ((rput_sa 11 rfl rfl (by decide) (by decide)).trans (rput_cg rfl (gup_gup _ _ _))) ?_
    refine z_iinc (ls' := [qR m, qI n, qI (qb rd), qI (g 11 166), qI ((i : Int) + 1)]) d_X12_wall_45 rfl (by decide) (by omega) rfl ?_
    refine z_goto 29 d_X12_wall_48 (by decide) ?_
    exact z_eq (qc rfl (qc rfl (qc rfl (qc rfl (qc (qi (by omega)) rfl))))) rfl (rput_cg rfl (gup_cg (F' := (qmx (i + 1) (fun _ => 0) (g 11))) rfl (qmx_s i (fun _ => 0) (g 11)))) (kki trivial)
  · show qEx M_X12_wall 29 [qR m, qI n, qI (qb rd), qI (g 11 166), qI (167 : Int)] [] (rput h m f (gup g 11 (qmx 167 (fun _ => 0) (g 11)))) r hr
    refine z_iload d_X12_wall_29 rfl ?_
    refine z_sipush d_X12_wall_31 (by decide) ?_
    refine z_icmp_ge 51 d_X12_wall_34 (by decide) (fun hc3 => ?_) (fun hc3 => absurd hc3 (by omega))
    refine z_aload_n d_X12_wall_51 rfl rfl ?_
    refine z_getf (v := qR (m + 11)) d_X12_wall_52 fl_X12_44 rput_o rfl ?_
    refine z_sipush d_X12_wall_55 (by decide) ?_
    refine z_iload_n d_X12_wall_58 rfl rfl ?_
    refine z_ist 160 d_X12_wall_59 (rput_a2 11 (t := 0) (n := 167) (F := (qmx 167 (fun _ => 0) (g 11))) rfl rfl rfl (by decide) (by decide)) (by omega) rfl (by omega) ?_
    refine z_eq rfl rfl ((rput_sa 11 rfl rfl (by decide) (by decide)).trans (rput_cg rfl (gup_gup _ _ _))) ?_
    refine z_aload_n d_X12_wall_60 rfl rfl ?_
    refine z_getf (v := qR (m + 11)) d_X12_wall_61 fl_X12_44 rput_o rfl ?_
    refine z_sipush d_X12_wall_64 (by decide) ?_
    refine z_iload_n d_X12_wall_67 rfl rfl ?_
    suffices kJ68 : qEx M_X12_wall 76 [qR m, qI n, qI (qb rd), qI (g 11 166), qI (167 : Int)] [qI (qb rd), qI 161, qR (m + 11)] (rput h m f (gup g 11 (qup (qmx 167 (fun _ => 0) (g 11)) 160 n))) r hr by
      refine z_ifeqB 75 d_X12_wall_68 (by decide) (fun hc4 => ?_) (fun hc4 => ?_)
      · refine z_iconst d_X12_wall_75 (by decide) ?_
        exact z_eq rfl (qc (qi (qb_f (by omega)).symm) (qc rfl (qc rfl rfl))) rfl kJ68
      · refine z_iconst d_X12_wall_71 (by decide) ?_
        refine z_goto 76 d_X12_wall_72 (by decide) ?_
        exact z_eq rfl (qc (qi (qb_t (by omega)).symm) (qc rfl (qc rfl rfl))) rfl kJ68
    refine z_ist 161 d_X12_wall_76 (rput_a2 11 (t := 0) (n := 167) (F := (qup (qmx 167 (fun _ => 0) (g 11)) 160 n)) rfl rfl rfl (by decide) (by decide)) (by omega) rfl (by omega) ?_
    refine z_eq rfl rfl ((rput_sa 11 rfl rfl (by decide) (by decide)).trans (rput_cg rfl (gup_gup _ _ _))) ?_
    refine z_aload_n d_X12_wall_77 rfl rfl ?_
    refine z_getf (v := qR (m + 11)) d_X12_wall_78 fl_X12_44 rput_o rfl ?_
    refine z_sipush d_X12_wall_81 (by decide) ?_
    refine z_iconst d_X12_wall_84 (by decide) ?_
    refine z_ist 164 d_X12_wall_85 (rput_a2 11 (t := 0) (n := 167) (F := (qup (qup (qmx 167 (fun _ => 0) (g 11)) 160 n) 161 (qb rd))) rfl rfl rfl (by decide) (by decide)) (by omega) rfl (by omega) ?_
    refine z_eq rfl rfl ((rput_sa 11 rfl rfl (by decide) (by decide)).trans (rput_cg rfl (gup_gup _ _ _))) ?_
    refine z_aload_n d_X12_wall_86 rfl rfl ?_
    refine z_getf (v := qR (m + 11)) d_X12_wall_87 fl_X12_44 rput_o rfl ?_
    refine z_sipush d_X12_wall_90 (by decide) ?_
    refine z_iload_n d_X12_wall_93 rfl rfl ?_
    refine z_ist 166 d_X12_wall_94 (rput_a2 11 (t := 0) (n := 167) (F := (qup (qup (qup (qmx 167 (fun _ => 0) (g 11)) 160 n) 161 (qb rd)) 164 (-1))) rfl rfl rfl (by decide) (by decide)) (by omega) rfl (by omega) ?_
    refine z_eq rfl rfl ((rput_sa 11 rfl rfl (by decide) (by decide)).trans (rput_cg rfl (gup_gup _ _ _))) ?_
    refine z_aload_n d_X12_wall_95 rfl rfl ?_
    refine z_iconst d_X12_wall_96 (by decide) ?_
    refine z_putf (fs' := [qI (f 0), qI (f 1), qI (f 2), qI (f 3), qI (f 4), qI (f 5), qI (f 6), qI (f 7), qR (m + 1), qR (m + 2), qR (m + 3), qR (m + 4), qR (m + 5), qR (m + 6), qR (m + 7), qR (m + 8), qR (m + 9), qR (m + 10), qI (f 18), qI (f 19), qI (f 20), qR (m + 11), qR (m + 12), qR (m + 13), qR (m + 14), qI 0, qR (m + 15), qI (f 27), qR (m + 16), qR (m + 17), qR (m + 18), qR (m + 19), qR (m + 20), qR (m + 21), qR (m + 22), qR (m + 23), qR (m + 24), qI (f 37), qI (f 38), qI (f 39), qI (f 40), qR (m + 25), qR (m + 26), qR (m + 27), qR (m + 28), qR (m + 29), qR (m + 30), qR (m + 31), qI (f 48), qR (m + 32), qR (m + 33), qR (m + 34), qR (m + 35), qR (m + 36), qR (m + 37)]) d_X12_wall_97 fp_X12_256 rput_o (fun _ => rfl) (fun _ => rfl) (Nat.le_of_ble_eq_true rfl) rfl ?_
    refine z_eq rfl rfl (rput_sf (f' := (qup f 25 0)) rfl) ?_
    refine z_iconst d_X12_wall_100 (by decide) ?_
    exact z_zret d_X12_wall_101 rfl (by first | exact qb_01 _ | decide | omega) er eh
set_option maxRecDepth 20000 in
set_option maxHeartbeats 4000000 in
theorem c_logs {h : qH} {m : Nat} {f : Nat → Int} {g : Nat → Nat → Int} {L : Nat} (a b c : Int) (hm : 2 ≤ m) (hL : g 11 166 = (L : Int)) (hL2 : L ≤ 150) : qEx M_X12_logs 0 [qR m, qI a, qI b, qI c, qU] [] (rput h m f g) none (rput h m f (logG g a b c)) := by
  refine q_gen (fun r hr er eh => ?_)
  refine z_aload_n d_X12_logs_0 rfl rfl ?_
  refine z_getf (v := qR (m + 11)) d_X12_logs_1 fl_X12_44 rput_o rfl ?_
  refine z_sipush d_X12_logs_4 (by decide) ?_
  refine z_ild 166 d_X12_logs_7 (rput_a2 11 (t := 0) (n := 167) (F := (g 11)) rfl rfl rfl (by decide) (by decide)) rfl (by omega) ?_
  refine z_eq rfl (qc (qi hL) rfl) rfl ?_
  refine z_sipush d_X12_logs_8 (by decide) ?_
  refine z_icmp_ne 15 d_X12_logs_11 (by decide) (fun hq => ?_) (fun hq => ?_)
  · refine z_iconst d_X12_logs_15 (by decide) ?_
    refine z_aload_n d_X12_logs_16 rfl rfl ?_
    refine z_getf (v := qR (m + 11)) d_X12_logs_17 fl_X12_44 rput_o rfl ?_
    refine z_sipush d_X12_logs_20 (by decide) ?_
    refine z_ild 166 d_X12_logs_23 (rput_a2 11 (t := 0) (n := 167) (F := (g 11)) rfl rfl rfl (by decide) (by decide)) rfl (by omega) ?_
    refine z_eq rfl (qc (qi hL) rfl) rfl ?_
    refine z_imul d_X12_logs_24 (by omega) ?_
    refine z_istore (ls' := [qR m, qI a, qI b, qI c, qI (4 * (L : Int))]) d_X12_logs_25 (by decide) rfl ?_
    refine z_aload_n d_X12_logs_27 rfl rfl ?_
    refine z_getf (v := qR (m + 13)) d_X12_logs_28 fl_X12_50 rput_o rfl ?_
    refine z_iload d_X12_logs_31 rfl ?_
    refine z_aload_n d_X12_logs_33 rfl rfl ?_
    refine z_getf (v := qR (m + 11)) d_X12_logs_34 fl_X12_44 rput_o rfl ?_
    refine z_sipush d_X12_logs_37 (by decide) ?_
    refine z_ild 162 d_X12_logs_40 (rput_a2 11 (t := 0) (n := 167) (F := (g 11)) rfl rfl rfl (by decide) (by decide)) rfl (by omega) ?_
    refine z_ist (4 * L) d_X12_logs_41 (rput_a2 13 (t := 0) (n := 600) (F := (g 13)) rfl rfl rfl (by decide) (by decide)) (by omega) rfl (by omega) ?_
    refine z_eq rfl rfl (rput_sa 13 rfl rfl (by decide) (by decide)) ?_
    refine z_aload_n d_X12_logs_42 rfl rfl ?_
    refine z_getf (v := qR (m + 13)) d_X12_logs_43 fl_X12_50 rput_o rfl ?_
    refine z_iload d_X12_logs_46 rfl ?_
    refine z_iconst d_X12_logs_48 (by decide) ?_
    refine z_iadd d_X12_logs_49 (by omega) ?_
    refine z_iload_n d_X12_logs_50 rfl rfl ?_
    refine z_ist ((4 * L) + 1) d_X12_logs_51 (rput_a2 13 (t := 0) (n := 600) (F := (qup (g 13) (4 * L) ((g 11) 162))) rfl rfl rfl (by decide) (by decide)) (by omega) rfl (by omega) ?_
    refine z_eq rfl rfl ((rput_sa 13 rfl rfl (by decide) (by decide)).trans (rput_cg rfl (gup_gup _ _ _))) ?_
    refine z_aload_n d_X12_logs_52 rfl rfl ?_
    refine z_getf (v := qR (m + 13)) d_X12_logs_53 fl_X12_50 rput_o rfl ?_
    refine z_iload d_X12_logs_56 rfl ?_
    refine z_iconst d_X12_logs_58 (by decide) ?_
    refine z_iadd d_X12_logs_59 (by omega) ?_
    refine z_iload_n d_X12_logs_60 rfl rfl ?_
    refine z_ist ((4 * L) + 2) d_X12_logs_61 (rput_a2 13 (t := 0) (n := 600) (F := (qup (qup (g 13) (4 * L) ((g 11) 162)) ((4 * L) + 1) a)) rfl rfl rfl (by decide) (by decide)) (by omega) rfl (by omega) ?_
    refine z_eq rfl rfl ((rput_sa 13 rfl rfl (by decide) (by decide)).trans (rput_cg rfl (gup_gup _ _ _))) ?_
    refine z_aload_n d_X12_logs_62 rfl rfl ?_
    refine z_getf (v := qR (m + 13)) d_X12_logs_63 fl_X12_50 rput_o rfl ?_
    refine z_iload d_X12_logs_66 rfl ?_
    refine z_iconst d_X12_logs_68 (by decide) ?_
    refine z_iadd d_X12_logs_69 (by omega) ?_
    refine z_iload_n d_X12_logs_70 rfl rfl ?_
    refine z_ist ((4 * L) + 3) d_X12_logs_71 (rput_a2 13 (t := 0) (n := 600) (F := (qup (qup (qup (g 13) (4 * L) ((g 11) 162)) ((4 * L) + 1) a) ((4 * L) + 2) b)) rfl rfl rfl (by decide) (by decide)) (by omega) rfl (by omega) ?_
    refine z_eq rfl rfl ((rput_sa 13 rfl rfl (by decide) (by decide)).trans (rput_cg rfl (gup_gup _ _ _))) ?_
    refine z_aload_n d_X12_logs_72 rfl rfl ?_
    refine z_getf (v := qR (m + 11)) d_X12_logs_73 fl_X12_44 rput_o rfl ?_
    refine z_sipush d_X12_logs_76 (by decide) ?_
    refine z_dup2 d_X12_logs_79 rfl rfl ?_
    refine z_ild 166 d_X12_logs_80 (rput_a2 11 (t := 0) (n := 167) (F := (g 11)) rfl rfl rfl (by decide) (by decide)) rfl (by omega) ?_
    refine z_eq rfl (qc (qi hL) rfl) rfl ?_
    refine z_iconst d_X12_logs_81 (by decide) ?_
    refine z_iadd d_X12_logs_82 (by omega) ?_
    refine z_ist 166 d_X12_logs_83 (rput_a2 11 (t := 0) (n := 167) (F := (g 11)) rfl rfl rfl (by decide) (by decide)) (by omega) rfl (by omega) ?_
    refine z_eq rfl rfl (rput_sa 11 rfl rfl (by decide) (by decide)) ?_
    exact z_vret d_X12_logs_84 rfl er (eh.trans (rput_cg rfl ((if_neg (by omega)).trans (by rw [hL, Int.toNat_natCast]; rfl))))
  · exact z_vret d_X12_logs_14 rfl er (eh.trans (rput_cg rfl (if_pos (by omega))))
set_option maxRecDepth 20000 in
set_option maxHeartbeats 4000000 in
theorem c_becomes0 {h : qH} {m : Nat} {f : Nat → Int} {g : Nat → Nat → Int} {L : Nat} (who : Nat) (v : Int) (hm : 2 ≤ m) (hw : who < 32) (hL : g 11 166 = (L : Int)) (hL2 : L ≤ 150) : qEx M_X12_becomes 0 [qR m, qI 0, qI (who : Int), qI v] [] (rput h m f g) none (rput h m f (logG (gup g 11 (qup (g 11) who v)) 0 (who : Int) v)) := by
  refine q_gen (fun r hr er eh => ?_)
  refine z_iload_n d_X12_becomes_0 rfl rfl ?_
  refine z_if_ne 13 d_X12_becomes_1 (by decide) (fun hc1 => absurd hc1 (by decide)) (fun hc1 => ?_)
  refine z_aload_n d_X12_becomes_4 rfl rfl ?_
  refine z_getf (v := qR (m + 11)) d_X12_becomes_5 fl_X12_44 rput_o rfl ?_
  refine z_iconst d_X12_becomes_8 (by decide) ?_
  refine z_iload_n d_X12_becomes_9 rfl rfl ?_
  refine z_iadd d_X12_becomes_10 (by omega) ?_
  refine z_iload_n d_X12_becomes_11 rfl rfl ?_
  refine z_ist who d_X12_becomes_12 (rput_a2 11 (t := 0) (n := 167) (F := (g 11)) rfl rfl rfl (by decide) (by decide)) (by omega) (by omega) (by omega) ?_
  refine z_eq rfl rfl (rput_sa 11 rfl rfl (by decide) (by decide)) ?_
  refine z_iload_n d_X12_becomes_13 rfl rfl ?_
  refine z_iconst d_X12_becomes_14 (by decide) ?_
  refine z_icmp_eq 23 d_X12_becomes_15 (by decide) (fun hc2 => absurd hc2 (by decide)) (fun hc2 => ?_)
  refine z_iload_n d_X12_becomes_18 rfl rfl ?_
  refine z_iconst d_X12_becomes_19 (by decide) ?_
  refine z_icmp_ne 35 d_X12_becomes_20 (by decide) (fun hc3 => ?_) (fun hc3 => absurd (by decide) hc3)
  refine z_iload_n d_X12_becomes_35 rfl rfl ?_
  refine z_iconst d_X12_becomes_36 (by decide) ?_
  refine z_icmp_eq 45 d_X12_becomes_37 (by decide) (fun hc4 => absurd hc4 (by decide)) (fun hc4 => ?_)
  refine z_iload_n d_X12_becomes_40 rfl rfl ?_
  refine z_iconst d_X12_becomes_41 (by decide) ?_
  refine z_icmp_ne 57 d_X12_becomes_42 (by decide) (fun hc5 => ?_) (fun hc5 => absurd (by decide) hc5)
  refine z_iload_n d_X12_becomes_57 rfl rfl ?_
  refine z_iconst d_X12_becomes_58 (by decide) ?_
  refine z_icmp_ne 73 d_X12_becomes_59 (by decide) (fun hc6 => ?_) (fun hc6 => absurd (by decide) hc6)
  refine z_aload_n d_X12_becomes_73 rfl rfl ?_
  refine z_iload_n d_X12_becomes_74 rfl rfl ?_
  refine z_iload_n d_X12_becomes_75 rfl rfl ?_
  refine z_iload_n d_X12_becomes_76 rfl rfl ?_
  refine z_if_eq 85 d_X12_becomes_77 (by decide) (fun hc7 => ?_) (fun hc7 => absurd (by decide) hc7)
  refine z_iload_n d_X12_becomes_85 rfl rfl ?_
  refine z_goto 90 d_X12_becomes_86 (by decide) ?_
  refine z_cv0 (M1 := M_X12_logs) d_X12_becomes_90 lv_X12_282 k_X12_logs [qI 0, qI (who : Int), qI v] rfl rfl rput_o ⟨_, _, rfl⟩ (Nat.le_of_ble_eq_true rfl) (by decide) (by decide) (Nat.le_of_ble_eq_true rfl) (c_logs (L := L) 0 (who : Int) v hm ((qup_ne (by omega)).trans hL) hL2) ?_
  exact z_vret d_X12_becomes_93 rfl er eh
set_option maxRecDepth 20000 in
set_option maxHeartbeats 4000000 in
theorem c_becomes1 {h : qH} {m : Nat} {f : Nat → Int} {g : Nat → Nat → Int} {L : Nat} (who : Nat) (v : Int) (hm : 2 ≤ m) (hw : who < 32) (hL : g 11 166 = (L : Int)) (hL2 : L ≤ 150) : qEx M_X12_becomes 0 [qR m, qI 1, qI (who : Int), qI v] [] (rput h m f g) none (rput h m f (logG (gup g 11 (qup (g 11) (64 + who) 1)) 1 (who : Int) 0)) := by
  refine q_gen (fun r hr er eh => ?_)
  refine z_iload_n d_X12_becomes_0 rfl rfl ?_
  refine z_if_ne 13 d_X12_becomes_1 (by decide) (fun hc1 => ?_) (fun hc1 => absurd (by decide) hc1)
  refine z_iload_n d_X12_becomes_13 rfl rfl ?_
  refine z_iconst d_X12_becomes_14 (by decide) ?_
  refine z_icmp_eq 23 d_X12_becomes_15 (by decide) (fun hc2 => ?_) (fun hc2 => absurd (by decide) hc2)
  refine z_aload_n d_X12_becomes_23 rfl rfl ?_
  refine z_getf (v := qR (m + 11)) d_X12_becomes_24 fl_X12_44 rput_o rfl ?_
  refine z_bipush d_X12_becomes_27 (by decide) ?_
  refine z_iload_n d_X12_becomes_29 rfl rfl ?_
  refine z_iadd d_X12_becomes_30 (by omega) ?_
  refine z_iconst d_X12_becomes_31 (by decide) ?_
  refine z_iload_n d_X12_becomes_32 rfl rfl ?_
  refine z_isub d_X12_becomes_33 (by decide) ?_
  show qEx _ _ _ (qI 1 :: _) _ _ _
  refine z_ist (64 + who) d_X12_becomes_34 (rput_a2 11 (t := 0) (n := 167) (F := (g 11)) rfl rfl rfl (by decide) (by decide)) (by omega) rfl (by omega) ?_
  refine z_eq rfl rfl (rput_sa 11 rfl rfl (by decide) (by decide)) ?_
  refine z_iload_n d_X12_becomes_35 rfl rfl ?_
  refine z_iconst d_X12_becomes_36 (by decide) ?_
  refine z_icmp_eq 45 d_X12_becomes_37 (by decide) (fun hc3 => absurd hc3 (by decide)) (fun hc3 => ?_)
  refine z_iload_n d_X12_becomes_40 rfl rfl ?_
  refine z_iconst d_X12_becomes_41 (by decide) ?_
  refine z_icmp_ne 57 d_X12_becomes_42 (by decide) (fun hc4 => ?_) (fun hc4 => absurd (by decide) hc4)
  refine z_iload_n d_X12_becomes_57 rfl rfl ?_
  refine z_iconst d_X12_becomes_58 (by decide) ?_
  refine z_icmp_ne 73 d_X12_becomes_59 (by decide) (fun hc5 => ?_) (fun hc5 => absurd (by decide) hc5)
  refine z_aload_n d_X12_becomes_73 rfl rfl ?_
  refine z_iload_n d_X12_becomes_74 rfl rfl ?_
  refine z_iload_n d_X12_becomes_75 rfl rfl ?_
  refine z_iload_n d_X12_becomes_76 rfl rfl ?_
  refine z_if_eq 85 d_X12_becomes_77 (by decide) (fun hc6 => absurd hc6 (by decide)) (fun hc6 => ?_)
  refine z_iload_n d_X12_becomes_80 rfl rfl ?_
  refine z_iconst d_X12_becomes_81 (by decide) ?_
  refine z_icmp_ne 89 d_X12_becomes_82 (by decide) (fun hc7 => ?_) (fun hc7 => absurd (by decide) hc7)
  refine z_iconst d_X12_becomes_89 (by decide) ?_
  refine z_cv0 (M1 := M_X12_logs) d_X12_becomes_90 lv_X12_282 k_X12_logs [qI 1, qI (who : Int), qI 0] rfl rfl rput_o ⟨_, _, rfl⟩ (Nat.le_of_ble_eq_true rfl) (by decide) (by decide) (Nat.le_of_ble_eq_true rfl) (c_logs (L := L) 1 (who : Int) 0 hm ((qup_ne (by omega)).trans hL) hL2) ?_
  exact z_vret d_X12_becomes_93 rfl er eh
set_option maxRecDepth 20000 in
set_option maxHeartbeats 4000000 in
theorem c_becomes2 {h : qH} {m : Nat} {f : Nat → Int} {g : Nat → Nat → Int} {L : Nat} (who : Nat) (v : Int) (hm : 2 ≤ m) (hw : who < 32) (hL : g 11 166 = (L : Int)) (hL2 : L ≤ 150) : qEx M_X12_becomes 0 [qR m, qI 2, qI (who : Int), qI v] [] (rput h m f g) none (rput h m f (logG (gup g 11 (qup (g 11) (64 + who) 0)) 2 (who : Int) 0)) := by
  refine q_gen (fun r hr er eh => ?_)
  refine z_iload_n d_X12_becomes_0 rfl rfl ?_
  refine z_if_ne 13 d_X12_becomes_1 (by decide) (fun hc1 => ?_) (fun hc1 => absurd (by decide) hc1)
  refine z_iload_n d_X12_becomes_13 rfl rfl ?_
  refine z_iconst d_X12_becomes_14 (by decide) ?_
  refine z_icmp_eq 23 d_X12_becomes_15 (by decide) (fun hc2 => absurd hc2 (by decide)) (fun hc2 => ?_)
  refine z_iload_n d_X12_becomes_18 rfl rfl ?_
  refine z_iconst d_X12_becomes_19 (by decide) ?_
  refine z_icmp_ne 35 d_X12_becomes_20 (by decide) (fun hc3 => absurd hc3 (by decide)) (fun hc3 => ?_)
  refine z_aload_n d_X12_becomes_23 rfl rfl ?_
  refine z_getf (v := qR (m + 11)) d_X12_becomes_24 fl_X12_44 rput_o rfl ?_
  refine z_bipush d_X12_becomes_27 (by decide) ?_
  refine z_iload_n d_X12_becomes_29 rfl rfl ?_
  refine z_iadd d_X12_becomes_30 (by omega) ?_
  refine z_iconst d_X12_becomes_31 (by decide) ?_
  refine z_iload_n d_X12_becomes_32 rfl rfl ?_
  refine z_isub d_X12_becomes_33 (by decide) ?_
  show qEx _ _ _ (qI 0 :: _) _ _ _
  refine z_ist (64 + who) d_X12_becomes_34 (rput_a2 11 (t := 0) (n := 167) (F := (g 11)) rfl rfl rfl (by decide) (by decide)) (by omega) rfl (by omega) ?_
  refine z_eq rfl rfl (rput_sa 11 rfl rfl (by decide) (by decide)) ?_
  refine z_iload_n d_X12_becomes_35 rfl rfl ?_
  refine z_iconst d_X12_becomes_36 (by decide) ?_
  refine z_icmp_eq 45 d_X12_becomes_37 (by decide) (fun hc4 => absurd hc4 (by decide)) (fun hc4 => ?_)
  refine z_iload_n d_X12_becomes_40 rfl rfl ?_
  refine z_iconst d_X12_becomes_41 (by decide) ?_
  refine z_icmp_ne 57 d_X12_becomes_42 (by decide) (fun hc5 => ?_) (fun hc5 => absurd (by decide) hc5)
  refine z_iload_n d_X12_becomes_57 rfl rfl ?_
  refine z_iconst d_X12_becomes_58 (by decide) ?_
  refine z_icmp_ne 73 d_X12_becomes_59 (by decide) (fun hc6 => ?_) (fun hc6 => absurd (by decide) hc6)
  refine z_aload_n d_X12_becomes_73 rfl rfl ?_
  refine z_iload_n d_X12_becomes_74 rfl rfl ?_
  refine z_iload_n d_X12_becomes_75 rfl rfl ?_
  refine z_iload_n d_X12_becomes_76 rfl rfl ?_
  refine z_if_eq 85 d_X12_becomes_77 (by decide) (fun hc7 => absurd hc7 (by decide)) (fun hc7 => ?_)
  refine z_iload_n d_X12_becomes_80 rfl rfl ?_
  refine z_iconst d_X12_becomes_81 (by decide) ?_
  refine z_icmp_ne 89 d_X12_becomes_82 (by decide) (fun hc8 => ?_) (fun hc8 => absurd (by decide) hc8)
  refine z_iconst d_X12_becomes_89 (by decide) ?_
  refine z_cv0 (M1 := M_X12_logs) d_X12_becomes_90 lv_X12_282 k_X12_logs [qI 2, qI (who : Int), qI 0] rfl rfl rput_o ⟨_, _, rfl⟩ (Nat.le_of_ble_eq_true rfl) (by decide) (by decide) (Nat.le_of_ble_eq_true rfl) (c_logs (L := L) 2 (who : Int) 0 hm ((qup_ne (by omega)).trans hL) hL2) ?_
  exact z_vret d_X12_becomes_93 rfl er eh
set_option maxRecDepth 20000 in
set_option maxHeartbeats 4000000 in
theorem c_becomes3 {h : qH} {m : Nat} {f : Nat → Int} {g : Nat → Nat → Int} {L : Nat} (who : Nat) (v : Int) (hm : 2 ≤ m) (hw : who < 32) (hL : g 11 166 = (L : Int)) (hL2 : L ≤ 150) : qEx M_X12_becomes 0 [qR m, qI 3, qI (who : Int), qI v] [] (rput h m f g) none (rput h m f (logG (gup g 11 (qup (g 11) (96 + who) 1)) 3 (who : Int) 0)) := by
  refine q_gen (fun r hr er eh => ?_)
  refine z_iload_n d_X12_becomes_0 rfl rfl ?_
  refine z_if_ne 13 d_X12_becomes_1 (by decide) (fun hc1 => ?_) (fun hc1 => absurd (by decide) hc1)
  refine z_iload_n d_X12_becomes_13 rfl rfl ?_
  refine z_iconst d_X12_becomes_14 (by decide) ?_
  refine z_icmp_eq 23 d_X12_becomes_15 (by decide) (fun hc2 => absurd hc2 (by decide)) (fun hc2 => ?_)
  refine z_iload_n d_X12_becomes_18 rfl rfl ?_
  refine z_iconst d_X12_becomes_19 (by decide) ?_
  refine z_icmp_ne 35 d_X12_becomes_20 (by decide) (fun hc3 => ?_) (fun hc3 => absurd (by decide) hc3)
  refine z_iload_n d_X12_becomes_35 rfl rfl ?_
  refine z_iconst d_X12_becomes_36 (by decide) ?_
  refine z_icmp_eq 45 d_X12_becomes_37 (by decide) (fun hc4 => ?_) (fun hc4 => absurd (by decide) hc4)
  refine z_aload_n d_X12_becomes_45 rfl rfl ?_
  refine z_getf (v := qR (m + 11)) d_X12_becomes_46 fl_X12_44 rput_o rfl ?_
  refine z_bipush d_X12_becomes_49 (by decide) ?_
  refine z_iload_n d_X12_becomes_51 rfl rfl ?_
  refine z_iadd d_X12_becomes_52 (by omega) ?_
  refine z_iconst d_X12_becomes_53 (by decide) ?_
  refine z_iload_n d_X12_becomes_54 rfl rfl ?_
  refine z_isub d_X12_becomes_55 (by decide) ?_
  show qEx _ _ _ (qI 1 :: _) _ _ _
  refine z_ist (96 + who) d_X12_becomes_56 (rput_a2 11 (t := 0) (n := 167) (F := (g 11)) rfl rfl rfl (by decide) (by decide)) (by omega) rfl (by omega) ?_
  refine z_eq rfl rfl (rput_sa 11 rfl rfl (by decide) (by decide)) ?_
  refine z_iload_n d_X12_becomes_57 rfl rfl ?_
  refine z_iconst d_X12_becomes_58 (by decide) ?_
  refine z_icmp_ne 73 d_X12_becomes_59 (by decide) (fun hc5 => ?_) (fun hc5 => absurd (by decide) hc5)
  refine z_aload_n d_X12_becomes_73 rfl rfl ?_
  refine z_iload_n d_X12_becomes_74 rfl rfl ?_
  refine z_iload_n d_X12_becomes_75 rfl rfl ?_
  refine z_iload_n d_X12_becomes_76 rfl rfl ?_
  refine z_if_eq 85 d_X12_becomes_77 (by decide) (fun hc6 => absurd hc6 (by decide)) (fun hc6 => ?_)
  refine z_iload_n d_X12_becomes_80 rfl rfl ?_
  refine z_iconst d_X12_becomes_81 (by decide) ?_
  refine z_icmp_ne 89 d_X12_becomes_82 (by decide) (fun hc7 => ?_) (fun hc7 => absurd (by decide) hc7)
  refine z_iconst d_X12_becomes_89 (by decide) ?_
  refine z_cv0 (M1 := M_X12_logs) d_X12_becomes_90 lv_X12_282 k_X12_logs [qI 3, qI (who : Int), qI 0] rfl rfl rput_o ⟨_, _, rfl⟩ (Nat.le_of_ble_eq_true rfl) (by decide) (by decide) (Nat.le_of_ble_eq_true rfl) (c_logs (L := L) 3 (who : Int) 0 hm ((qup_ne (by omega)).trans hL) hL2) ?_
  exact z_vret d_X12_becomes_93 rfl er eh
set_option maxRecDepth 20000 in
set_option maxHeartbeats 4000000 in
theorem c_becomes4 {h : qH} {m : Nat} {f : Nat → Int} {g : Nat → Nat → Int} {L : Nat} (who : Nat) (v : Int) (hm : 2 ≤ m) (hw : who < 32) (hL : g 11 166 = (L : Int)) (hL2 : L ≤ 150) : qEx M_X12_becomes 0 [qR m, qI 4, qI (who : Int), qI v] [] (rput h m f g) none (rput h m f (logG (gup g 11 (qup (g 11) (96 + who) 0)) 4 (who : Int) 0)) := by
  refine q_gen (fun r hr er eh => ?_)
  refine z_iload_n d_X12_becomes_0 rfl rfl ?_
  refine z_if_ne 13 d_X12_becomes_1 (by decide) (fun hc1 => ?_) (fun hc1 => absurd (by decide) hc1)
  refine z_iload_n d_X12_becomes_13 rfl rfl ?_
  refine z_iconst d_X12_becomes_14 (by decide) ?_
  refine z_icmp_eq 23 d_X12_becomes_15 (by decide) (fun hc2 => absurd hc2 (by decide)) (fun hc2 => ?_)
  refine z_iload_n d_X12_becomes_18 rfl rfl ?_
  refine z_iconst d_X12_becomes_19 (by decide) ?_
  refine z_icmp_ne 35 d_X12_becomes_20 (by decide) (fun hc3 => ?_) (fun hc3 => absurd (by decide) hc3)
  refine z_iload_n d_X12_becomes_35 rfl rfl ?_
  refine z_iconst d_X12_becomes_36 (by decide) ?_
  refine z_icmp_eq 45 d_X12_becomes_37 (by decide) (fun hc4 => absurd hc4 (by decide)) (fun hc4 => ?_)
  refine z_iload_n d_X12_becomes_40 rfl rfl ?_
  refine z_iconst d_X12_becomes_41 (by decide) ?_
  refine z_icmp_ne 57 d_X12_becomes_42 (by decide) (fun hc5 => absurd hc5 (by decide)) (fun hc5 => ?_)
  refine z_aload_n d_X12_becomes_45 rfl rfl ?_
  refine z_getf (v := qR (m + 11)) d_X12_becomes_46 fl_X12_44 rput_o rfl ?_
  refine z_bipush d_X12_becomes_49 (by decide) ?_
  refine z_iload_n d_X12_becomes_51 rfl rfl ?_
  refine z_iadd d_X12_becomes_52 (by omega) ?_
  refine z_iconst d_X12_becomes_53 (by decide) ?_
  refine z_iload_n d_X12_becomes_54 rfl rfl ?_
  refine z_isub d_X12_becomes_55 (by decide) ?_
  show qEx _ _ _ (qI 0 :: _) _ _ _
  refine z_ist (96 + who) d_X12_becomes_56 (rput_a2 11 (t := 0) (n := 167) (F := (g 11)) rfl rfl rfl (by decide) (by decide)) (by omega) rfl (by omega) ?_
  refine z_eq rfl rfl (rput_sa 11 rfl rfl (by decide) (by decide)) ?_
  refine z_iload_n d_X12_becomes_57 rfl rfl ?_
  refine z_iconst d_X12_becomes_58 (by decide) ?_
  refine z_icmp_ne 73 d_X12_becomes_59 (by decide) (fun hc6 => ?_) (fun hc6 => absurd (by decide) hc6)
  refine z_aload_n d_X12_becomes_73 rfl rfl ?_
  refine z_iload_n d_X12_becomes_74 rfl rfl ?_
  refine z_iload_n d_X12_becomes_75 rfl rfl ?_
  refine z_iload_n d_X12_becomes_76 rfl rfl ?_
  refine z_if_eq 85 d_X12_becomes_77 (by decide) (fun hc7 => absurd hc7 (by decide)) (fun hc7 => ?_)
  refine z_iload_n d_X12_becomes_80 rfl rfl ?_
  refine z_iconst d_X12_becomes_81 (by decide) ?_
  refine z_icmp_ne 89 d_X12_becomes_82 (by decide) (fun hc8 => ?_) (fun hc8 => absurd (by decide) hc8)
  refine z_iconst d_X12_becomes_89 (by decide) ?_
  refine z_cv0 (M1 := M_X12_logs) d_X12_becomes_90 lv_X12_282 k_X12_logs [qI 4, qI (who : Int), qI 0] rfl rfl rput_o ⟨_, _, rfl⟩ (Nat.le_of_ble_eq_true rfl) (by decide) (by decide) (Nat.le_of_ble_eq_true rfl) (c_logs (L := L) 4 (who : Int) 0 hm ((qup_ne (by omega)).trans hL) hL2) ?_
  exact z_vret d_X12_becomes_93 rfl er eh
set_option maxRecDepth 20000 in
set_option maxHeartbeats 4000000 in
theorem c_becomes5 {h : qH} {m : Nat} {f : Nat → Int} {g : Nat → Nat → Int} {L : Nat} (who : Nat) (v : Int) (hm : 2 ≤ m) (hw : who < 32) (hL : g 11 166 = (L : Int)) (hL2 : L ≤ 150) : qEx M_X12_becomes 0 [qR m, qI 5, qI (who : Int), qI v] [] (rput h m f g) none (rput h m f (logG (gup g 11 (qup (g 11) (128 + who) v)) 5 (who : Int) v)) := by
  refine q_gen (fun r hr er eh => ?_)
  refine z_iload_n d_X12_becomes_0 rfl rfl ?_
  refine z_if_ne 13 d_X12_becomes_1 (by decide) (fun hc1 => ?_) (fun hc1 => absurd (by decide) hc1)
  refine z_iload_n d_X12_becomes_13 rfl rfl ?_
  refine z_iconst d_X12_becomes_14 (by decide) ?_
  refine z_icmp_eq 23 d_X12_becomes_15 (by decide) (fun hc2 => absurd hc2 (by decide)) (fun hc2 => ?_)
  refine z_iload_n d_X12_becomes_18 rfl rfl ?_
  refine z_iconst d_X12_becomes_19 (by decide) ?_
  refine z_icmp_ne 35 d_X12_becomes_20 (by decide) (fun hc3 => ?_) (fun hc3 => absurd (by decide) hc3)
  refine z_iload_n d_X12_becomes_35 rfl rfl ?_
  refine z_iconst d_X12_becomes_36 (by decide) ?_
  refine z_icmp_eq 45 d_X12_becomes_37 (by decide) (fun hc4 => absurd hc4 (by decide)) (fun hc4 => ?_)
  refine z_iload_n d_X12_becomes_40 rfl rfl ?_
  refine z_iconst d_X12_becomes_41 (by decide) ?_
  refine z_icmp_ne 57 d_X12_becomes_42 (by decide) (fun hc5 => ?_) (fun hc5 => absurd (by decide) hc5)
  refine z_iload_n d_X12_becomes_57 rfl rfl ?_
  refine z_iconst d_X12_becomes_58 (by decide) ?_
  refine z_icmp_ne 73 d_X12_becomes_59 (by decide) (fun hc6 => absurd hc6 (by decide)) (fun hc6 => ?_)
  refine z_aload_n d_X12_becomes_62 rfl rfl ?_
  refine z_getf (v := qR (m + 11)) d_X12_becomes_63 fl_X12_44 rput_o rfl ?_
  refine z_sipush d_X12_becomes_66 (by decide) ?_
  refine z_iload_n d_X12_becomes_69 rfl rfl ?_
  refine z_iadd d_X12_becomes_70 (by omega) ?_
  refine z_iload_n d_X12_becomes_71 rfl rfl ?_
  refine z_ist (128 + who) d_X12_becomes_72 (rput_a2 11 (t := 0) (n := 167) (F := (g 11)) rfl rfl rfl (by decide) (by decide)) (by omega) rfl (by omega) ?_
  refine z_eq rfl rfl (rput_sa 11 rfl rfl (by decide) (by decide)) ?_
  refine z_aload_n d_X12_becomes_73 rfl rfl ?_
  refine z_iload_n d_X12_becomes_74 rfl rfl ?_
  refine z_iload_n d_X12_becomes_75 rfl rfl ?_
  refine z_iload_n d_X12_becomes_76 rfl rfl ?_
  refine z_if_eq 85 d_X12_becomes_77 (by decide) (fun hc7 => absurd hc7 (by decide)) (fun hc7 => ?_)
  refine z_iload_n d_X12_becomes_80 rfl rfl ?_
  refine z_iconst d_X12_becomes_81 (by decide) ?_
  refine z_icmp_ne 89 d_X12_becomes_82 (by decide) (fun hc8 => absurd hc8 (by decide)) (fun hc8 => ?_)
  refine z_iload_n d_X12_becomes_85 rfl rfl ?_
  refine z_goto 90 d_X12_becomes_86 (by decide) ?_
  refine z_cv0 (M1 := M_X12_logs) d_X12_becomes_90 lv_X12_282 k_X12_logs [qI 5, qI (who : Int), qI v] rfl rfl rput_o ⟨_, _, rfl⟩ (Nat.le_of_ble_eq_true rfl) (by decide) (by decide) (Nat.le_of_ble_eq_true rfl) (c_logs (L := L) 5 (who : Int) v hm ((qup_ne (by omega)).trans hL) hL2) ?_
  exact z_vret d_X12_becomes_93 rfl er eh
set_option maxRecDepth 20000 in
set_option maxHeartbeats 4000000 in
theorem c_keepsBack6 {h : qH} {m : Nat} {f : Nat → Int} {g : Nat → Nat → Int}  (hm : 2 ≤ m) (hb : f 25 = 6) : qEx M_X12_keepsBack 0 [qR m, qU] [] (rput h m f g) none (rput h m (qup f 25 6) (gup g 14 (qcpy (g 11) (qmx 835 (fun k => g 14 (k + 167)) (g 14)) 0 835 167))) := by
  refine q_gen (fun r hr er eh => ?_)
  refine z_aload_n d_X12_keepsBack_0 rfl rfl ?_
  refine z_getf (v := qI (f 25)) d_X12_keepsBack_1 fl_X12_256 rput_o rfl ?_
  refine z_eq rfl (qc (qi hb) rfl) rfl ?_
  refine z_bipush d_X12_keepsBack_4 (by decide) ?_
  refine z_icmp_ne 52 d_X12_keepsBack_6 (by decide) (fun hc1 => absurd hc1 (by decide)) (fun hc1 => ?_)
  refine z_sipush d_X12_keepsBack_9 (by decide) ?_
  refine z_istore_n (ls' := [qR m, qI 167]) d_X12_keepsBack_12 rfl (by decide) rfl ?_
  refine z_eq (qc rfl (qc (qi (rfl)) rfl)) rfl (rput_cg rfl (gup_self (qmx_0 _ _).symm).symm) (z_for 835 (fun i => [qR m, qI (167 + (i : Int))]) (fun i => (rput h m f (gup g 14 (qmx i (fun k => g 14 (k + 167)) (g 14))))) (fun i => True) trivial (fun i hii hp kki => ?_) (fun hp => ?_))
  · show qEx M_X12_keepsBack 13 [qR m, qI (167 + (i : Int))] [] (rput h m f (gup g 14 (qmx i (fun k => g 14 (k + 167)) (g 14)))) r hr
    refine z_iload_n d_X12_keepsBack_13 rfl rfl ?_
    refine z_sipush d_X12_keepsBack_14 (by decide) ?_
    refine z_icmp_ge 42 d_X12_keepsBack_17 (by decide) (fun hc2 => absurd hc2 (by omega)) (fun hc2 => ?_)
    refine z_aload_n d_X12_keepsBack_20 rfl rfl ?_
    refine z_getf (v := qR (m + 14)) d_X12_keepsBack_21 fl_X12_53 rput_o rfl ?_
    refine z_iload_n d_X12_keepsBack_24 rfl rfl ?_
    refine z_sipush d_X12_keepsBack_25 (by decide) ?_
    refine z_isub d_X12_keepsBack_28 (by omega) ?_
    refine z_aload_n d_X12_keepsBack_29 rfl rfl ?_
    refine z_getf (v := qR (m + 14)) d_X12_keepsBack_30 fl_X12_53 rput_o rfl ?_
    refine z_iload_n d_X12_keepsBack_33 rfl rfl ?_
    refine z_ild (167 + i) d_X12_keepsBack_34 (rput_a2 14 (t := 0) (n := 1002) (F := (qmx i (fun k => g 14 (k + 167)) (g 14))) rfl rfl rfl (by decide) (by decide)) (by omega) (by omega) ?_
    refine z_ist i d_X12_keepsBack_35 (rput_a2 14 (t := 0) (n := 1002) (F := (qmx i (fun k => g 14 (k + 167)) (g 14))) rfl rfl rfl (by decide) (by decide)) (by omega) (by omega) (by omega) ?_
    refine z_eq rfl rfl ((rput_sa 14 rfl rfl (by decide) (by decide)).trans (rput_cg rfl (gup_gup _ _ _))) ?_
    refine z_iinc (ls' := [qR m, qI ((167 + (i : Int)) + 1)]) d_X12_keepsBack_36 rfl (by decide) (by omega) rfl ?_
    refine z_goto 13 d_X12_keepsBack_39 (by decide) ?_
    exact z_eq (qc rfl (qc (qi (by omega)) rfl)) rfl (rput_cg rfl (gup_cg (F' := (qmx (i + 1) (fun k => g 14 (k + 167)) (g 14))) rfl (by rw [qmx_ge (show ¬ 167 + i < i by omega), Nat.add_comm 167 i]; exact qmx_s i (fun k => g 14 (k + 167)) (g 14)))) (kki trivial)
  · show qEx M_X12_keepsBack 13 [qR m, qI (167 + (835 : Int))] [] (rput h m f (gup g 14 (qmx 835 (fun k => g 14 (k + 167)) (g 14)))) r hr
    refine z_iload_n d_X12_keepsBack_13 rfl rfl ?_
    refine z_sipush d_X12_keepsBack_14 (by decide) ?_
    refine z_icmp_ge 42 d_X12_keepsBack_17 (by decide) (fun hc3 => ?_) (fun hc3 => absurd hc3 (by omega))
    refine z_aload_n d_X12_keepsBack_42 rfl rfl ?_
    refine z_dup d_X12_keepsBack_43 rfl ?_
    refine z_getf (v := qI (f 25)) d_X12_keepsBack_44 fl_X12_256 rput_o rfl ?_
    refine z_eq rfl (qc (qi hb) rfl) rfl ?_
    refine z_iconst d_X12_keepsBack_47 (by decide) ?_
    refine z_isub d_X12_keepsBack_48 (by decide) ?_
    show qEx _ _ _ (qI 5 :: _) _ _ _
    refine z_putf (fs' := [qI (f 0), qI (f 1), qI (f 2), qI (f 3), qI (f 4), qI (f 5), qI (f 6), qI (f 7), qR (m + 1), qR (m + 2), qR (m + 3), qR (m + 4), qR (m + 5), qR (m + 6), qR (m + 7), qR (m + 8), qR (m + 9), qR (m + 10), qI (f 18), qI (f 19), qI (f 20), qR (m + 11), qR (m + 12), qR (m + 13), qR (m + 14), qI 5, qR (m + 15), qI (f 27), qR (m + 16), qR (m + 17), qR (m + 18), qR (m + 19), qR (m + 20), qR (m + 21), qR (m + 22), qR (m + 23), qR (m + 24), qI (f 37), qI (f 38), qI (f 39), qI (f 40), qR (m + 25), qR (m + 26), qR (m + 27), qR (m + 28), qR (m + 29), qR (m + 30), qR (m + 31), qI (f 48), qR (m + 32), qR (m + 33), qR (m + 34), qR (m + 35), qR (m + 36), qR (m + 37)]) d_X12_keepsBack_49 fp_X12_256 rput_o (fun _ => rfl) (fun _ => rfl) (Nat.le_of_ble_eq_true rfl) rfl ?_
    refine z_eq rfl rfl (rput_sf (f' := (qup f 25 5)) rfl) ?_
    refine z_iconst d_X12_keepsBack_52 (by decide) ?_
    refine z_istore_n (ls' := [qR m, qI 0]) d_X12_keepsBack_53 rfl (by decide) rfl ?_
    refine z_eq (qc rfl (qc (qi (by omega)) rfl)) rfl (rput_cg rfl (gup_cg (F' := (qcpy (g 11) (qmx 835 (fun k => g 14 (k + 167)) (g 14)) 0 835 0)) rfl (qcpy_0 _ _ _ _).symm)) (z_for 167 (fun i => [qR m, qI (i : Int)]) (fun i => (rput h m (qup f 25 5) (gup g 14 (qcpy (g 11) (qmx 835 (fun k => g 14 (k + 167)) (g 14)) 0 835 i)))) (fun i => True) trivial (fun i hii hp kki => ?_) (fun hp => ?_))
    · show qEx M_X12_keepsBack 54 [qR m, qI (i : Int)] [] (rput h m (qup f 25 5) (gup g 14 (qcpy (g 11) (qmx 835 (fun k => g 14 (k + 167)) (g 14)) 0 835 i))) r hr
      refine z_iload_n d_X12_keepsBack_54 rfl rfl ?_
      refine z_sipush d_X12_keepsBack_55 (by decide) ?_
      refine z_icmp_ge 88 d_X12_keepsBack_58 (by decide) (fun hc4 => absurd hc4 (by omega)) (fun hc4 => ?_)
      refine z_aload_n d_X12_keepsBack_61 rfl rfl ?_
      refine z_getf (v := qR (m + 14)) d_X12_keepsBack_62 fl_X12_53 rput_o rfl ?_
      refine z_sipush d_X12_keepsBack_65 (by decide) ?_
      refine z_aload_n d_X12_keepsBack_68 rfl rfl ?_
      refine z_getf (v := qI 5) d_X12_keepsBack_69 fl_X12_256 rput_o rfl ?_
      refine z_imul d_X12_keepsBack_72 (by decide) ?_
      show qEx _ _ _ (qI 835 :: _) _ _ _
      refine z_iload_n d_X12_keepsBack_73 rfl rfl ?_
      refine z_iadd d_X12_keepsBack_74 (by omega) ?_
      refine z_aload_n d_X12_keepsBack_75 rfl rfl ?_
      refine z_getf (v := qR (m + 11)) d_X12_keepsBack_76 fl_X12_44 rput_o rfl ?_
      refine z_iload_n d_X12_keepsBack_79 rfl rfl ?_
      refine z_ild i d_X12_keepsBack_80 (rput_a2 11 (t := 0) (n := 167) (F := (g 11)) rfl rfl rfl (by decide) (by decide)) rfl (by omega) ?_
      refine z_ist (835 + i) d_X12_keepsBack_81 (rput_a2 14 (t := 0) (n := 1002) (F := (qcpy (g 11) (qmx 835 (fun k => g 14 (k + 167)) (g 14)) 0 835 i)) rfl rfl rfl (by decide) (by decide)) (by omega) (by omega) (by omega) ?_
      refine z_eq rfl rfl ((rput_sa 14 rfl rfl (by decide) (by decide)).trans (rput_cg rfl (gup_gup _ _ _))) ?_
      refine z_iinc (ls' := [qR m, qI ((i : Int) + 1)]) d_X12_keepsBack_82 rfl (by decide) (by omega) rfl ?_
      refine z_goto 54 d_X12_keepsBack_85 (by decide) ?_
      exact z_eq (qc rfl (qc (qi (by omega)) rfl)) rfl (rput_cg rfl (gup_cg (F' := (qcpy (g 11) (qmx 835 (fun k => g 14 (k + 167)) (g 14)) 0 835 (i + 1))) rfl (by have := qcpy_s (g 11) (qmx 835 (fun k => g 14 (k + 167)) (g 14)) 0 835 i; rw [Nat.zero_add] at this; exact this))) (kki trivial)
    · show qEx M_X12_keepsBack 54 [qR m, qI (167 : Int)] [] (rput h m (qup f 25 5) (gup g 14 (qcpy (g 11) (qmx 835 (fun k => g 14 (k + 167)) (g 14)) 0 835 167))) r hr
      refine z_iload_n d_X12_keepsBack_54 rfl rfl ?_
      refine z_sipush d_X12_keepsBack_55 (by decide) ?_
      refine z_icmp_ge 88 d_X12_keepsBack_58 (by decide) (fun hc5 => ?_) (fun hc5 => absurd hc5 (by omega))
      refine z_aload_n d_X12_keepsBack_88 rfl rfl ?_
      refine z_dup d_X12_keepsBack_89 rfl ?_
      refine z_getf (v := qI 5) d_X12_keepsBack_90 fl_X12_256 rput_o rfl ?_
      refine z_iconst d_X12_keepsBack_93 (by decide) ?_
      refine z_iadd d_X12_keepsBack_94 (by decide) ?_
      show qEx _ _ _ (qI 6 :: _) _ _ _
      refine z_putf (fs' := [qI (f 0), qI (f 1), qI (f 2), qI (f 3), qI (f 4), qI (f 5), qI (f 6), qI (f 7), qR (m + 1), qR (m + 2), qR (m + 3), qR (m + 4), qR (m + 5), qR (m + 6), qR (m + 7), qR (m + 8), qR (m + 9), qR (m + 10), qI (f 18), qI (f 19), qI (f 20), qR (m + 11), qR (m + 12), qR (m + 13), qR (m + 14), qI 6, qR (m + 15), qI (f 27), qR (m + 16), qR (m + 17), qR (m + 18), qR (m + 19), qR (m + 20), qR (m + 21), qR (m + 22), qR (m + 23), qR (m + 24), qI (f 37), qI (f 38), qI (f 39), qI (f 40), qR (m + 25), qR (m + 26), qR (m + 27), qR (m + 28), qR (m + 29), qR (m + 30), qR (m + 31), qI (f 48), qR (m + 32), qR (m + 33), qR (m + 34), qR (m + 35), qR (m + 36), qR (m + 37)]) d_X12_keepsBack_95 fp_X12_256 rput_o (fun _ => rfl) (fun _ => rfl) (Nat.le_of_ble_eq_true rfl) rfl ?_
      refine z_eq rfl rfl ((rput_sf (f' := qup (qup f 25 5) 25 6) rfl).trans (rput_cg (qup_qup _ _ _ _) rfl)) ?_
      exact z_vret d_X12_keepsBack_98 rfl er eh
set_option maxRecDepth 20000 in
set_option maxHeartbeats 4000000 in
theorem c_keepsBack {h : qH} {m : Nat} {f : Nat → Int} {g : Nat → Nat → Int} {b : Nat} (hm : 2 ≤ m) (hb : f 25 = (b : Int)) (hb6 : b < 6) : qEx M_X12_keepsBack 0 [qR m, qU] [] (rput h m f g) none (rput h m (qup f 25 ((b : Int) + 1)) (gup g 14 (qcpy (g 11) (g 14) 0 (167 * b) 167))) := by
  refine q_gen (fun r hr er eh => ?_)
  refine z_aload_n d_X12_keepsBack_0 rfl rfl ?_
  refine z_getf (v := qI (f 25)) d_X12_keepsBack_1 fl_X12_256 rput_o rfl ?_
  refine z_eq rfl (qc (qi hb) rfl) rfl ?_
  refine z_bipush d_X12_keepsBack_4 (by decide) ?_
  refine z_icmp_ne 52 d_X12_keepsBack_6 (by decide) (fun hc1 => ?_) (fun hc1 => absurd hc1 (by omega))
  refine z_iconst d_X12_keepsBack_52 (by decide) ?_
  refine z_istore_n (ls' := [qR m, qI 0]) d_X12_keepsBack_53 rfl (by decide) rfl ?_
  refine z_eq (qc rfl (qc (qi (by omega)) rfl)) rfl (rput_cg rfl (gup_self (qcpy_0 _ _ _ _).symm).symm) (z_for 167 (fun i => [qR m, qI (i : Int)]) (fun i => (rput h m f (gup g 14 (qcpy (g 11) (g 14) 0 (167 * b) i)))) (fun i => True) trivial (fun i hii hp kki => ?_) (fun hp => ?_))
  · show qEx M_X12_keepsBack 54 [qR m, qI (i : Int)] [] (rput h m f (gup g 14 (qcpy (g 11) (g 14) 0 (167 * b) i))) r hr
    refine z_iload_n d_X12_keepsBack_54 rfl rfl ?_
    refine z_sipush d_X12_keepsBack_55 (by decide) ?_
    refine z_icmp_ge 88 d_X12_keepsBack_58 (by decide) (fun hc2 => absurd hc2 (by omega)) (fun hc2 => ?_)
    refine z_aload_n d_X12_keepsBack_61 rfl rfl ?_
    refine z_getf (v := qR (m + 14)) d_X12_keepsBack_62 fl_X12_53 rput_o rfl ?_
    refine z_sipush d_X12_keepsBack_65 (by decide) ?_
    refine z_aload_n d_X12_keepsBack_68 rfl rfl ?_
    refine z_getf (v := qI (f 25)) d_X12_keepsBack_69 fl_X12_256 rput_o rfl ?_
    refine z_eq rfl (qc (qi hb) rfl) rfl ?_
    refine z_imul d_X12_keepsBack_72 (by omega) ?_
    refine z_iload_n d_X12_keepsBack_73 rfl rfl ?_
    refine z_iadd d_X12_keepsBack_74 (by omega) ?_
    refine z_aload_n d_X12_keepsBack_75 rfl rfl ?_
    refine z_getf (v := qR (m + 11)) d_X12_keepsBack_76 fl_X12_44 rput_o rfl ?_
    refine z_iload_n d_X12_keepsBack_79 rfl rfl ?_
    refine z_ild i d_X12_keepsBack_80 (rput_a2 11 (t := 0) (n := 167) (F := (g 11)) rfl rfl rfl (by decide) (by decide)) rfl (by omega) ?_
    refine z_ist (167 * b + i) d_X12_keepsBack_81 (rput_a2 14 (t := 0) (n := 1002) (F := (qcpy (g 11) (g 14) 0 (167 * b) i)) rfl rfl rfl (by decide) (by decide)) (by omega) (by omega) (by omega) ?_
    refine z_eq rfl rfl ((rput_sa 14 rfl rfl (by decide) (by decide)).trans (rput_cg rfl (gup_gup _ _ _))) ?_
    refine z_iinc (ls' := [qR m, qI ((i : Int) + 1)]) d_X12_keepsBack_82 rfl (by decide) (by omega) rfl ?_
    refine z_goto 54 d_X12_keepsBack_85 (by decide) ?_
    exact z_eq (qc rfl (qc (qi (by omega)) rfl)) rfl (rput_cg rfl (gup_cg (F' := (qcpy (g 11) (g 14) 0 (167 * b) (i + 1))) rfl (by have := qcpy_s (g 11) (g 14) 0 (167 * b) i; rw [Nat.zero_add] at this; exact this))) (kki trivial)
  · show qEx M_X12_keepsBack 54 [qR m, qI (167 : Int)] [] (rput h m f (gup g 14 (qcpy (g 11) (g 14) 0 (167 * b) 167))) r hr
    refine z_iload_n d_X12_keepsBack_54 rfl rfl ?_
    refine z_sipush d_X12_keepsBack_55 (by decide) ?_
    refine z_icmp_ge 88 d_X12_keepsBack_58 (by decide) (fun hc3 => ?_) (fun hc3 => absurd hc3 (by omega))
    refine z_aload_n d_X12_keepsBack_88 rfl rfl ?_
    refine z_dup d_X12_keepsBack_89 rfl ?_
    refine z_getf (v := qI (f 25)) d_X12_keepsBack_90 fl_X12_256 rput_o rfl ?_
    refine z_eq rfl (qc (qi hb) rfl) rfl ?_
    refine z_iconst d_X12_keepsBack_93 (by decide) ?_
    refine z_iadd d_X12_keepsBack_94 (by omega) ?_
    refine z_putf (fs' := [qI (f 0), qI (f 1), qI (f 2), qI (f 3), qI (f 4), qI (f 5), qI (f 6), qI (f 7), qR (m + 1), qR (m + 2), qR (m + 3), qR (m + 4), qR (m + 5), qR (m + 6), qR (m + 7), qR (m + 8), qR (m + 9), qR (m + 10), qI (f 18), qI (f 19), qI (f 20), qR (m + 11), qR (m + 12), qR (m + 13), qR (m + 14), qI ((b : Int) + 1), qR (m + 15), qI (f 27), qR (m + 16), qR (m + 17), qR (m + 18), qR (m + 19), qR (m + 20), qR (m + 21), qR (m + 22), qR (m + 23), qR (m + 24), qI (f 37), qI (f 38), qI (f 39), qI (f 40), qR (m + 25), qR (m + 26), qR (m + 27), qR (m + 28), qR (m + 29), qR (m + 30), qR (m + 31), qI (f 48), qR (m + 32), qR (m + 33), qR (m + 34), qR (m + 35), qR (m + 36), qR (m + 37)]) d_X12_keepsBack_95 fp_X12_256 rput_o (fun _ => rfl) (fun _ => rfl) (Nat.le_of_ble_eq_true rfl) rfl ?_
    refine z_eq rfl rfl (rput_sf (f' := (qup f 25 ((b : Int) + 1))) rfl) ?_
    exact z_vret d_X12_keepsBack_98 rfl er eh
set_option maxRecDepth 20000 in
set_option maxHeartbeats 4000000 in
theorem c_undo_no {h : qH} {m : Nat} {f : Nat → Int} {g : Nat → Nat → Int}  (hm : 2 ≤ m) (h0 : f 0 = 0) (hb : f 25 = 0) : qEx M_X12_undo 0 [qR m, qU] [] (rput h m f g) (some (qI 0)) (rput h m f g) := by
  refine q_gen (fun r hr er eh => ?_)
  refine z_aload_n d_X12_undo_0 rfl rfl ?_
  refine z_iconst d_X12_undo_1 (by decide) ?_
  refine z_putf (fs' := [qI 0, qI (f 1), qI (f 2), qI (f 3), qI (f 4), qI (f 5), qI (f 6), qI (f 7), qR (m + 1), qR (m + 2), qR (m + 3), qR (m + 4), qR (m + 5), qR (m + 6), qR (m + 7), qR (m + 8), qR (m + 9), qR (m + 10), qI (f 18), qI (f 19), qI (f 20), qR (m + 11), qR (m + 12), qR (m + 13), qR (m + 14), qI (f 25), qR (m + 15), qI (f 27), qR (m + 16), qR (m + 17), qR (m + 18), qR (m + 19), qR (m + 20), qR (m + 21), qR (m + 22), qR (m + 23), qR (m + 24), qI (f 37), qI (f 38), qI (f 39), qI (f 40), qR (m + 25), qR (m + 26), qR (m + 27), qR (m + 28), qR (m + 29), qR (m + 30), qR (m + 31), qI (f 48), qR (m + 32), qR (m + 33), qR (m + 34), qR (m + 35), qR (m + 36), qR (m + 37)]) d_X12_undo_2 fp_X12_127 rput_o (fun _ => rfl) (fun _ => rfl) (Nat.le_of_ble_eq_true rfl) rfl ?_
  refine z_eq rfl rfl ((rput_sf (f' := qup f 0 0) rfl).trans (rput_cg (qup_self h0) rfl)) ?_
  refine z_aload_n d_X12_undo_5 rfl rfl ?_
  refine z_getf (v := qI (f 25)) d_X12_undo_6 fl_X12_256 rput_o rfl ?_
  refine z_eq rfl (qc (qi hb) rfl) rfl ?_
  refine z_if_ne 14 d_X12_undo_9 (by decide) (fun hc1 => absurd hc1 (by decide)) (fun hc1 => ?_)
  refine z_iconst d_X12_undo_12 (by decide) ?_
  exact z_zret d_X12_undo_13 rfl (by first | exact qb_01 _ | decide | omega) er eh
set_option maxRecDepth 20000 in
set_option maxHeartbeats 4000000 in
theorem c_undo_yes {h : qH} {m : Nat} {f : Nat → Int} {g : Nat → Nat → Int} {b : Nat} (hm : 2 ≤ m) (h0 : f 0 = 0) (hb : f 25 = (b : Int)) (hb0 : 0 < b) (hb6 : b ≤ 6) : qEx M_X12_undo 0 [qR m, qU] [] (rput h m f g) (some (qI 1)) (rput h m (qup f 25 ((b : Int) - 1)) (gup g 11 (qmx 167 (fun k => g 14 (167 * (b - 1) + k)) (g 11)))) := by
  refine q_gen (fun r hr er eh => ?_)
  refine z_aload_n d_X12_undo_0 rfl rfl ?_
  refine z_iconst d_X12_undo_1 (by decide) ?_
  refine z_putf (fs' := [qI 0, qI (f 1), qI (f 2), qI (f 3), qI (f 4), qI (f 5), qI (f 6), qI (f 7), qR (m + 1), qR (m + 2), qR (m + 3), qR (m + 4), qR (m + 5), qR (m + 6), qR (m + 7), qR (m + 8), qR (m + 9), qR (m + 10), qI (f 18), qI (f 19), qI (f 20), qR (m + 11), qR (m + 12), qR (m + 13), qR (m + 14), qI (f 25), qR (m + 15), qI (f 27), qR (m + 16), qR (m + 17), qR (m + 18), qR (m + 19), qR (m + 20), qR (m + 21), qR (m + 22), qR (m + 23), qR (m + 24), qI (f 37), qI (f 38), qI (f 39), qI (f 40), qR (m + 25), qR (m + 26), qR (m + 27), qR (m + 28), qR (m + 29), qR (m + 30), qR (m + 31), qI (f 48), qR (m + 32), qR (m + 33), qR (m + 34), qR (m + 35), qR (m + 36), qR (m + 37)]) d_X12_undo_2 fp_X12_127 rput_o (fun _ => rfl) (fun _ => rfl) (Nat.le_of_ble_eq_true rfl) rfl ?_
  refine z_eq rfl rfl ((rput_sf (f' := qup f 0 0) rfl).trans (rput_cg (qup_self h0) rfl)) ?_
  refine z_aload_n d_X12_undo_5 rfl rfl ?_
  refine z_getf (v := qI (f 25)) d_X12_undo_6 fl_X12_256 rput_o rfl ?_
  refine z_eq rfl (qc (qi hb) rfl) rfl ?_
  refine z_if_ne 14 d_X12_undo_9 (by decide) (fun hc1 => ?_) (fun hc1 => absurd hc1 (by omega))
  refine z_aload_n d_X12_undo_14 rfl rfl ?_
  refine z_dup d_X12_undo_15 rfl ?_
  refine z_getf (v := qI (f 25)) d_X12_undo_16 fl_X12_256 rput_o rfl ?_
  refine z_eq rfl (qc (qi hb) rfl) rfl ?_
  refine z_iconst d_X12_undo_19 (by decide) ?_
  refine z_isub d_X12_undo_20 (by omega) ?_
  refine z_putf (fs' := [qI (f 0), qI (f 1), qI (f 2), qI (f 3), qI (f 4), qI (f 5), qI (f 6), qI (f 7), qR (m + 1), qR (m + 2), qR (m + 3), qR (m + 4), qR (m + 5), qR (m + 6), qR (m + 7), qR (m + 8), qR (m + 9), qR (m + 10), qI (f 18), qI (f 19), qI (f 20), qR (m + 11), qR (m + 12), qR (m + 13), qR (m + 14), qI ((b : Int) - 1), qR (m + 15), qI (f 27), qR (m + 16), qR (m + 17), qR (m + 18), qR (m + 19), qR (m + 20), qR (m + 21), qR (m + 22), qR (m + 23), qR (m + 24), qI (f 37), qI (f 38), qI (f 39), qI (f 40), qR (m + 25), qR (m + 26), qR (m + 27), qR (m + 28), qR (m + 29), qR (m + 30), qR (m + 31), qI (f 48), qR (m + 32), qR (m + 33), qR (m + 34), qR (m + 35), qR (m + 36), qR (m + 37)]) d_X12_undo_21 fp_X12_256 rput_o (fun _ => rfl) (fun _ => rfl) (Nat.le_of_ble_eq_true rfl) rfl ?_
  refine z_eq rfl rfl (rput_sf (f' := (qup f 25 ((b : Int) - 1))) rfl) ?_
  refine z_iconst d_X12_undo_24 (by decide) ?_
  refine z_istore_n (ls' := [qR m, qI 0]) d_X12_undo_25 rfl (by decide) rfl ?_
  refine z_eq (qc rfl (qc (qi (by omega)) rfl)) rfl (rput_cg rfl (gup_self (qmx_0 _ _).symm).symm) (z_for 167 (fun i => [qR m, qI (i : Int)]) (fun i => (rput h m (qup f 25 ((b : Int) - 1)) (gup g 11 (qmx i (fun k => g 14 (167 * (b - 1) + k)) (g 11))))) (fun i => True) trivial (fun i hii hp kki => ?_) (fun hp => ?_))
  · show qEx M_X12_undo 26 [qR m, qI (i : Int)] [] (rput h m (qup f 25 ((b : Int) - 1)) (gup g 11 (qmx i (fun k => g 14 (167 * (b - 1) + k)) (g 11)))) r hr
    refine z_iload_n d_X12_undo_26 rfl rfl ?_
    refine z_sipush d_X12_undo_27 (by decide) ?_
    refine z_icmp_ge 60 d_X12_undo_30 (by decide) (fun hc2 => absurd hc2 (by omega)) (fun hc2 => ?_)
    refine z_aload_n d_X12_undo_33 rfl rfl ?_
    refine z_getf (v := qR (m + 11)) d_X12_undo_34 fl_X12_44 rput_o rfl ?_
    refine z_iload_n d_X12_undo_37 rfl rfl ?_
    refine z_aload_n d_X12_undo_38 rfl rfl ?_
    refine z_getf (v := qR (m + 14)) d_X12_undo_39 fl_X12_53 rput_o rfl ?_
    refine z_sipush d_X12_undo_42 (by decide) ?_
    refine z_aload_n d_X12_undo_45 rfl rfl ?_
    refine z_getf (v := qI ((b : Int) - 1)) d_X12_undo_46 fl_X12_256 rput_o rfl ?_
    refine z_imul d_X12_undo_49 (by omega) ?_
    refine z_iload_n d_X12_undo_50 rfl rfl ?_
    refine z_iadd d_X12_undo_51 (by omega) ?_
    refine z_ild (167 * (b - 1) + i) d_X12_undo_52 (rput_a2 14 (t := 0) (n := 1002) (F := (g 14)) rfl rfl rfl (by decide) (by decide)) (by omega) (by omega) ?_
    refine z_ist i d_X12_undo_53 (rput_a2 11 (t := 0) (n := 167) (F := (qmx i (fun k => g 14 (167 * (b - 1) + k)) (g 11))) rfl rfl rfl (by decide) (by decide)) (by omega) rfl (by omega) ?_
    refine z_eq rfl rfl ((rput_sa 11 rfl rfl (by decide) (by decide)).trans (rput_cg rfl (gup_gup _ _ _))) ?_
    refine z_iinc (ls' := [qR m, qI ((i : Int) + 1)]) d_X12_undo_54 rfl (by decide) (by omega) rfl ?_
    refine z_goto 26 d_X12_undo_57 (by decide) ?_
    exact z_eq (qc rfl (qc (qi (by omega)) rfl)) rfl (rput_cg rfl (gup_cg (F' := (qmx (i + 1) (fun k => g 14 (167 * (b - 1) + k)) (g 11))) rfl (qmx_s i (fun k => g 14 (167 * (b - 1) + k)) (g 11)))) (kki trivial)
  · show qEx M_X12_undo 26 [qR m, qI (167 : Int)] [] (rput h m (qup f 25 ((b : Int) - 1)) (gup g 11 (qmx 167 (fun k => g 14 (167 * (b - 1) + k)) (g 11)))) r hr
    refine z_iload_n d_X12_undo_26 rfl rfl ?_
    refine z_sipush d_X12_undo_27 (by decide) ?_
    refine z_icmp_ge 60 d_X12_undo_30 (by decide) (fun hc3 => ?_) (fun hc3 => absurd hc3 (by omega))
    refine z_iconst d_X12_undo_60 (by decide) ?_
    exact z_zret d_X12_undo_61 rfl (by first | exact qb_01 _ | decide | omega) er eh
set_option maxRecDepth 20000 in
set_option maxHeartbeats 4000000 in
theorem c_log {h : qH} {m : Nat} {f : Nat → Int} {g : Nat → Nat → Int} {L : Nat} (i k : Int) (hm : 2 ≤ m) (h0 : f 0 = 0) (hL : g 11 166 = (L : Int)) (hL2 : L ≤ 150) : qEx M_X12_log 0 [qR m, qI i, qI k] [] (rput h m f g) (some (qI (qif (0 ≤ i ∧ i < L ∧ 0 ≤ k ∧ k ≤ 3) (g 13 (4 * i + k).toNat) (-1)))) (rput h m f g) := by
  refine q_gen (fun r hr er eh => ?_)
  refine z_aload_n d_X12_log_0 rfl rfl ?_
  refine z_iconst d_X12_log_1 (by decide) ?_
  refine z_putf (fs' := [qI 0, qI (f 1), qI (f 2), qI (f 3), qI (f 4), qI (f 5), qI (f 6), qI (f 7), qR (m + 1), qR (m + 2), qR (m + 3), qR (m + 4), qR (m + 5), qR (m + 6), qR (m + 7), qR (m + 8), qR (m + 9), qR (m + 10), qI (f 18), qI (f 19), qI (f 20), qR (m + 11), qR (m + 12), qR (m + 13), qR (m + 14), qI (f 25), qR (m + 15), qI (f 27), qR (m + 16), qR (m + 17), qR (m + 18), qR (m + 19), qR (m + 20), qR (m + 21), qR (m + 22), qR (m + 23), qR (m + 24), qI (f 37), qI (f 38), qI (f 39), qI (f 40), qR (m + 25), qR (m + 26), qR (m + 27), qR (m + 28), qR (m + 29), qR (m + 30), qR (m + 31), qI (f 48), qR (m + 32), qR (m + 33), qR (m + 34), qR (m + 35), qR (m + 36), qR (m + 37)]) d_X12_log_2 fp_X12_127 rput_o (fun _ => rfl) (fun _ => rfl) (Nat.le_of_ble_eq_true rfl) rfl ?_
  refine z_eq rfl rfl ((rput_sf (f' := qup f 0 0) rfl).trans (rput_cg (qup_self h0) rfl)) ?_
  refine z_iload_n d_X12_log_5 rfl rfl ?_
  refine z_iconst d_X12_log_6 (by decide) ?_
  refine z_aload_n d_X12_log_7 rfl rfl ?_
  refine z_getf (v := qR (m + 11)) d_X12_log_8 fl_X12_44 rput_o rfl ?_
  refine z_sipush d_X12_log_11 (by decide) ?_
  refine z_ild 166 d_X12_log_14 (rput_a2 11 (t := 0) (n := 167) (F := (g 11)) rfl rfl rfl (by decide) (by decide)) rfl (by omega) ?_
  refine z_eq rfl (qc (qi hL) rfl) rfl ?_
  refine z_iconst d_X12_log_15 (by decide) ?_
  refine z_isub d_X12_log_16 (by omega) ?_
  refine z_cs (M1 := M_X12_in) d_X12_log_17 ls_X12_137 k_X12_in [qI i, qI 0, qI ((L : Int) - 1)] rfl rfl (Nat.le_of_ble_eq_true rfl) (by decide) (by decide) (Nat.le_of_ble_eq_true rfl) (c_in i 0 ((L : Int) - 1)) ?_
  refine z_ifeqB 45 d_X12_log_20 (by decide) (fun ha => ?_) (fun ha => ?_)
  · refine z_iconst d_X12_log_45 (by decide) ?_
    exact z_iret d_X12_log_46 rfl (qer er (qif_f (by omega))) eh
  · refine z_iload_n d_X12_log_23 rfl rfl ?_
    refine z_iconst d_X12_log_24 (by decide) ?_
    refine z_iconst d_X12_log_25 (by decide) ?_
    refine z_cs (M1 := M_X12_in) d_X12_log_26 ls_X12_137 k_X12_in [qI k, qI 0, qI 3] rfl rfl (Nat.le_of_ble_eq_true rfl) (by decide) (by decide) (Nat.le_of_ble_eq_true rfl) (c_in k 0 3) ?_
    refine z_ifeqB 45 d_X12_log_29 (by decide) (fun hb => ?_) (fun hb => ?_)
    · refine z_iconst d_X12_log_45 (by decide) ?_
      exact z_iret d_X12_log_46 rfl (qer er (qif_f (by omega))) eh
    · refine z_aload_n d_X12_log_32 rfl rfl ?_
      refine z_getf (v := qR (m + 13)) d_X12_log_33 fl_X12_50 rput_o rfl ?_
      refine z_iconst d_X12_log_36 (by decide) ?_
      refine z_iload_n d_X12_log_37 rfl rfl ?_
      refine z_imul d_X12_log_38 (by omega) ?_
      refine z_iload_n d_X12_log_39 rfl rfl ?_
      refine z_iadd d_X12_log_40 (by omega) ?_
      refine z_ild (((4 * i) + k).toNat) d_X12_log_41 (rput_a2 13 (t := 0) (n := 600) (F := (g 13)) rfl rfl rfl (by decide) (by decide)) (by omega) (by omega) ?_
      refine z_goto 46 d_X12_log_42 (by decide) ?_
      exact z_iret d_X12_log_46 rfl (qer er (qif_t (by omega))) eh
