/-! ===== CONTRACTS: BeaconWall: of, fault, look ===== -/
set_option maxRecDepth 20000 in
set_option maxHeartbeats 4000000 in
theorem xc_of0 {h : qH} {F G : Nat → Nat → Int} {n : Nat} (k : Nat) {N : Nat → Int} (hW : wlR F G 56 N) (hO : wOk N) (hN : N 160 = (n : Int)) (hk : k < n) : qEx M_X11_of 0 [qR 2, qI (k : Int), qI 0, qU] [] (xput h F G) (some (qI (N k))) (xput h F G) := by
  refine q_gen (fun r hr er eh => ?_)
  have hn : n ≤ 32 := by have := wOk_n hO; omega
  refine z_aload_n d_X11_of_0 rfl rfl ?_
  refine z_getf (v := qR 3) d_X11_of_1 fl_X11_12 (xput_ob (c := (F 2)) xi_2 rfl (xsh_11 xo_2)) rfl ?_
  refine z_getf (v := qR 56) d_X11_of_4 fl_X11_66 (xput_ob (c := (F 3)) xi_3 rfl (xsh_8 xo_3)) rfl ?_
  refine z_astore_n (ls' := [qR 2, qI (k : Int), qI 0, qR 56]) d_X11_of_7 rfl (by decide) rfl ?_
  refine z_aload_n d_X11_of_8 rfl rfl ?_
  refine z_iload_n d_X11_of_9 rfl rfl ?_
  refine z_cv (M1 := M_X10_has) d_X11_of_10 lv_X11_83 k_X10_has [qI (k : Int)] rfl rfl (xput_ob (c := (F 56)) xi_56 rfl (xsh_10 xo_56)) ⟨_, _, rfl⟩ (Nat.le_of_ble_eq_true rfl) (by decide) (by decide) (Nat.le_of_ble_eq_true rfl) (c_wlHas (wl := 56) (n := n) (k : Int) (by decide) xo_56 hW hO hN) ?_
  refine z_ifneB 18 d_X11_of_13 (by decide) (fun hc1 => ?_) (fun hc1 => absurd hc1 (by omega))
  refine z_iload_n d_X11_of_18 rfl rfl ?_
  refine z_tableIn 60 d_X11_of_19 (by decide) (by decide) (off := 41) rfl (by decide) ?_
  refine z_aload_n d_X11_of_60 rfl rfl ?_
  refine z_getf (v := qR 57) d_X11_of_61 fl_X11_106 (xput_ob (c := (F 56)) xi_56 rfl (xsh_10 xo_56)) rfl ?_
  refine z_iload_n d_X11_of_64 rfl rfl ?_
  refine z_ild k d_X11_of_65 (xput_ar (g := (G 57)) xa_57 rfl) rfl (by omega) ?_
  exact z_iret d_X11_of_66 rfl (qer er (hW.2.1 k (by omega)).1.symm) eh
set_option maxRecDepth 20000 in
set_option maxHeartbeats 4000000 in
theorem xc_of1 {h : qH} {F G : Nat → Nat → Int} {n : Nat} (k : Nat) {N : Nat → Int} (hW : wlR F G 56 N) (hO : wOk N) (hN : N 160 = (n : Int)) (hk : k < n) : qEx M_X11_of 0 [qR 2, qI (k : Int), qI 1, qU] [] (xput h F G) (some (qI (N (32 + k)))) (xput h F G) := by
  refine q_gen (fun r hr er eh => ?_)
  have hn : n ≤ 32 := by have := wOk_n hO; omega
  refine z_aload_n d_X11_of_0 rfl rfl ?_
  refine z_getf (v := qR 3) d_X11_of_1 fl_X11_12 (xput_ob (c := (F 2)) xi_2 rfl (xsh_11 xo_2)) rfl ?_
  refine z_getf (v := qR 56) d_X11_of_4 fl_X11_66 (xput_ob (c := (F 3)) xi_3 rfl (xsh_8 xo_3)) rfl ?_
  refine z_astore_n (ls' := [qR 2, qI (k : Int), qI 1, qR 56]) d_X11_of_7 rfl (by decide) rfl ?_
  refine z_aload_n d_X11_of_8 rfl rfl ?_
  refine z_iload_n d_X11_of_9 rfl rfl ?_
  refine z_cv (M1 := M_X10_has) d_X11_of_10 lv_X11_83 k_X10_has [qI (k : Int)] rfl rfl (xput_ob (c := (F 56)) xi_56 rfl (xsh_10 xo_56)) ⟨_, _, rfl⟩ (Nat.le_of_ble_eq_true rfl) (by decide) (by decide) (Nat.le_of_ble_eq_true rfl) (c_wlHas (wl := 56) (n := n) (k : Int) (by decide) xo_56 hW hO hN) ?_
  refine z_ifneB 18 d_X11_of_13 (by decide) (fun hc1 => ?_) (fun hc1 => absurd hc1 (by omega))
  refine z_iload_n d_X11_of_18 rfl rfl ?_
  refine z_tableIn 67 d_X11_of_19 (by decide) (by decide) (off := 48) rfl (by decide) ?_
  refine z_aload_n d_X11_of_67 rfl rfl ?_
  refine z_getf (v := qR 58) d_X11_of_68 fl_X11_109 (xput_ob (c := (F 56)) xi_56 rfl (xsh_10 xo_56)) rfl ?_
  refine z_iload_n d_X11_of_71 rfl rfl ?_
  refine z_ild k d_X11_of_72 (xput_ar (g := (G 58)) xa_58 rfl) rfl (by omega) ?_
  exact z_iret d_X11_of_73 rfl (qer er (hW.2.1 k (by omega)).2.1.symm) eh
set_option maxRecDepth 20000 in
set_option maxHeartbeats 4000000 in
theorem xc_of2 {h : qH} {F G : Nat → Nat → Int} {n : Nat} (k : Nat) {N : Nat → Int} (hW : wlR F G 56 N) (hO : wOk N) (hN : N 160 = (n : Int)) (hk : k < n) : qEx M_X11_of 0 [qR 2, qI (k : Int), qI 2, qU] [] (xput h F G) (some (qI (N (64 + k)))) (xput h F G) := by
  refine q_gen (fun r hr er eh => ?_)
  have hn : n ≤ 32 := by have := wOk_n hO; omega
  refine z_aload_n d_X11_of_0 rfl rfl ?_
  refine z_getf (v := qR 3) d_X11_of_1 fl_X11_12 (xput_ob (c := (F 2)) xi_2 rfl (xsh_11 xo_2)) rfl ?_
  refine z_getf (v := qR 56) d_X11_of_4 fl_X11_66 (xput_ob (c := (F 3)) xi_3 rfl (xsh_8 xo_3)) rfl ?_
  refine z_astore_n (ls' := [qR 2, qI (k : Int), qI 2, qR 56]) d_X11_of_7 rfl (by decide) rfl ?_
  refine z_aload_n d_X11_of_8 rfl rfl ?_
  refine z_iload_n d_X11_of_9 rfl rfl ?_
  refine z_cv (M1 := M_X10_has) d_X11_of_10 lv_X11_83 k_X10_has [qI (k : Int)] rfl rfl (xput_ob (c := (F 56)) xi_56 rfl (xsh_10 xo_56)) ⟨_, _, rfl⟩ (Nat.le_of_ble_eq_true rfl) (by decide) (by decide) (Nat.le_of_ble_eq_true rfl) (c_wlHas (wl := 56) (n := n) (k : Int) (by decide) xo_56 hW hO hN) ?_
  refine z_ifneB 18 d_X11_of_13 (by decide) (fun hc1 => ?_) (fun hc1 => absurd hc1 (by omega))
  refine z_iload_n d_X11_of_18 rfl rfl ?_
  refine z_tableIn 74 d_X11_of_19 (by decide) (by decide) (off := 55) rfl (by decide) ?_
  refine z_aload_n d_X11_of_74 rfl rfl ?_
  refine z_iload_n d_X11_of_75 rfl rfl ?_
  refine z_cv (M1 := M_X10_isDeaf) d_X11_of_76 lv_X11_112 k_X10_isDeaf [qI (k : Int)] rfl rfl (xput_ob (c := (F 56)) xi_56 rfl (xsh_10 xo_56)) ⟨_, _, rfl⟩ (Nat.le_of_ble_eq_true rfl) (by decide) (by decide) (Nat.le_of_ble_eq_true rfl) (c_wlDeaf (wl := 56) k (by decide) xo_56 hW hO hN (by omega)) ?_
  suffices kJ79 : qEx M_X11_of 87 [qR 2, qI (k : Int), qI 2, qR 56] [qI (qb (N (64 + k) = 1))] (xput h F G) r hr by
    refine z_ifeqB 86 d_X11_of_79 (by decide) (fun hc2 => ?_) (fun hc2 => ?_)
    · refine z_iconst d_X11_of_86 (by decide) ?_
      exact z_eq rfl (qc (qi (qb_f (by omega)).symm) rfl) rfl kJ79
    · refine z_iconst d_X11_of_82 (by decide) ?_
      refine z_goto 87 d_X11_of_83 (by decide) ?_
      exact z_eq rfl (qc (qi (qb_t (by omega)).symm) rfl) rfl kJ79
  exact z_iret d_X11_of_87 rfl (qer er (by have hd := hO.1 (64 + k) (by omega); rw [rw_lo (by omega), rw_h1 (by omega) (by omega)] at hd; by_cases z : N (64 + k) = 1; (first | rw [qb_t z] | rw [qif_t z] | rw [qif_f (fun y => y z)]); exact z; (first | rw [qb_f z] | rw [qif_f z] | rw [qif_t z]); omega)) eh
set_option maxRecDepth 20000 in
set_option maxHeartbeats 4000000 in
theorem xc_of3 {h : qH} {F G : Nat → Nat → Int} {n : Nat} (k : Nat) {N : Nat → Int} (hW : wlR F G 56 N) (hO : wOk N) (hN : N 160 = (n : Int)) (hk : k < n) : qEx M_X11_of 0 [qR 2, qI (k : Int), qI 3, qU] [] (xput h F G) (some (qI (N (96 + k)))) (xput h F G) := by
  refine q_gen (fun r hr er eh => ?_)
  have hn : n ≤ 32 := by have := wOk_n hO; omega
  refine z_aload_n d_X11_of_0 rfl rfl ?_
  refine z_getf (v := qR 3) d_X11_of_1 fl_X11_12 (xput_ob (c := (F 2)) xi_2 rfl (xsh_11 xo_2)) rfl ?_
  refine z_getf (v := qR 56) d_X11_of_4 fl_X11_66 (xput_ob (c := (F 3)) xi_3 rfl (xsh_8 xo_3)) rfl ?_
  refine z_astore_n (ls' := [qR 2, qI (k : Int), qI 3, qR 56]) d_X11_of_7 rfl (by decide) rfl ?_
  refine z_aload_n d_X11_of_8 rfl rfl ?_
  refine z_iload_n d_X11_of_9 rfl rfl ?_
  refine z_cv (M1 := M_X10_has) d_X11_of_10 lv_X11_83 k_X10_has [qI (k : Int)] rfl rfl (xput_ob (c := (F 56)) xi_56 rfl (xsh_10 xo_56)) ⟨_, _, rfl⟩ (Nat.le_of_ble_eq_true rfl) (by decide) (by decide) (Nat.le_of_ble_eq_true rfl) (c_wlHas (wl := 56) (n := n) (k : Int) (by decide) xo_56 hW hO hN) ?_
  refine z_ifneB 18 d_X11_of_13 (by decide) (fun hc1 => ?_) (fun hc1 => absurd hc1 (by omega))
  refine z_iload_n d_X11_of_18 rfl rfl ?_
  refine z_tableIn 88 d_X11_of_19 (by decide) (by decide) (off := 69) rfl (by decide) ?_
  refine z_aload_n d_X11_of_88 rfl rfl ?_
  refine z_iload_n d_X11_of_89 rfl rfl ?_
  refine z_cv (M1 := M_X10_isLate) d_X11_of_90 lv_X11_115 k_X10_isLate [qI (k : Int)] rfl rfl (xput_ob (c := (F 56)) xi_56 rfl (xsh_10 xo_56)) ⟨_, _, rfl⟩ (Nat.le_of_ble_eq_true rfl) (by decide) (by decide) (Nat.le_of_ble_eq_true rfl) (c_wlLate (wl := 56) k (by decide) xo_56 hW hO hN (by omega)) ?_
  suffices kJ93 : qEx M_X11_of 101 [qR 2, qI (k : Int), qI 3, qR 56] [qI (qb (N (96 + k) = 1))] (xput h F G) r hr by
    refine z_ifeqB 100 d_X11_of_93 (by decide) (fun hc2 => ?_) (fun hc2 => ?_)
    · refine z_iconst d_X11_of_100 (by decide) ?_
      exact z_eq rfl (qc (qi (qb_f (by omega)).symm) rfl) rfl kJ93
    · refine z_iconst d_X11_of_96 (by decide) ?_
      refine z_goto 101 d_X11_of_97 (by decide) ?_
      exact z_eq rfl (qc (qi (qb_t (by omega)).symm) rfl) rfl kJ93
  exact z_iret d_X11_of_101 rfl (qer er (by have hd := hO.1 (96 + k) (by omega); rw [rw_lo (by omega), rw_h1 (by omega) (by omega)] at hd; by_cases z : N (96 + k) = 1; (first | rw [qb_t z] | rw [qif_t z] | rw [qif_f (fun y => y z)]); exact z; (first | rw [qb_f z] | rw [qif_f z] | rw [qif_t z]); omega)) eh
set_option maxRecDepth 20000 in
set_option maxHeartbeats 4000000 in
theorem xc_of4 {h : qH} {F G : Nat → Nat → Int} {n : Nat} (k : Nat) {N : Nat → Int} (hW : wlR F G 56 N) (hO : wOk N) (hN : N 160 = (n : Int)) (hk : k < n) : qEx M_X11_of 0 [qR 2, qI (k : Int), qI 4, qU] [] (xput h F G) (some (qI (N (128 + k)))) (xput h F G) := by
  refine q_gen (fun r hr er eh => ?_)
  have hn : n ≤ 32 := by have := wOk_n hO; omega
  refine z_aload_n d_X11_of_0 rfl rfl ?_
  refine z_getf (v := qR 3) d_X11_of_1 fl_X11_12 (xput_ob (c := (F 2)) xi_2 rfl (xsh_11 xo_2)) rfl ?_
  refine z_getf (v := qR 56) d_X11_of_4 fl_X11_66 (xput_ob (c := (F 3)) xi_3 rfl (xsh_8 xo_3)) rfl ?_
  refine z_astore_n (ls' := [qR 2, qI (k : Int), qI 4, qR 56]) d_X11_of_7 rfl (by decide) rfl ?_
  refine z_aload_n d_X11_of_8 rfl rfl ?_
  refine z_iload_n d_X11_of_9 rfl rfl ?_
  refine z_cv (M1 := M_X10_has) d_X11_of_10 lv_X11_83 k_X10_has [qI (k : Int)] rfl rfl (xput_ob (c := (F 56)) xi_56 rfl (xsh_10 xo_56)) ⟨_, _, rfl⟩ (Nat.le_of_ble_eq_true rfl) (by decide) (by decide) (Nat.le_of_ble_eq_true rfl) (c_wlHas (wl := 56) (n := n) (k : Int) (by decide) xo_56 hW hO hN) ?_
  refine z_ifneB 18 d_X11_of_13 (by decide) (fun hc1 => ?_) (fun hc1 => absurd hc1 (by omega))
  refine z_iload_n d_X11_of_18 rfl rfl ?_
  refine z_tableIn 102 d_X11_of_19 (by decide) (by decide) (off := 83) rfl (by decide) ?_
  refine z_aload_n d_X11_of_102 rfl rfl ?_
  refine z_getf (v := qR 59) d_X11_of_103 fl_X11_118 (xput_ob (c := (F 56)) xi_56 rfl (xsh_10 xo_56)) rfl ?_
  refine z_iload_n d_X11_of_106 rfl rfl ?_
  refine z_ild k d_X11_of_107 (xput_ar (g := (G 59)) xa_59 rfl) rfl (by omega) ?_
  exact z_iret d_X11_of_108 rfl (qer er (hW.2.1 k (by omega)).2.2.symm) eh
set_option maxRecDepth 20000 in
set_option maxHeartbeats 4000000 in
theorem xc_fault0 {h : qH} {F G : Nat → Nat → Int}   : qEx M_X11_fault 0 [qR 2, qI 0] [] (xput h F G) (some (qI ((F 160) 7))) (xput h F G) := by
  refine q_gen (fun r hr er eh => ?_)
  refine z_iload_n d_X11_fault_0 rfl rfl ?_
  refine z_if_ne 12 d_X11_fault_1 (by decide) (fun hc1 => absurd hc1 (by decide)) (fun hc1 => ?_)
  refine z_aload_n d_X11_fault_4 rfl rfl ?_
  refine z_getf (v := qR 160) d_X11_fault_5 fl_X11_33 (xput_ob (c := (F 2)) xi_2 rfl (xsh_11 xo_2)) rfl ?_
  refine z_getf (v := qI ((F 160) 7)) d_X11_fault_8 fl_X11_233 (xput_ob (c := (F 160)) xi_160 rfl (xsh_4 xo_160)) rfl ?_
  exact z_iret d_X11_fault_11 rfl er eh
set_option maxRecDepth 20000 in
set_option maxHeartbeats 4000000 in
theorem xc_fault1 {h : qH} {F G : Nat → Nat → Int}   : qEx M_X11_fault 0 [qR 2, qI 1] [] (xput h F G) (some (qI ((F 160) 8))) (xput h F G) := by
  refine q_gen (fun r hr er eh => ?_)
  refine z_iload_n d_X11_fault_0 rfl rfl ?_
  refine z_if_ne 12 d_X11_fault_1 (by decide) (fun hc1 => ?_) (fun hc1 => absurd (by decide) hc1)
  refine z_iload_n d_X11_fault_12 rfl rfl ?_
  refine z_iconst d_X11_fault_13 (by decide) ?_
  refine z_icmp_ne 27 d_X11_fault_14 (by decide) (fun hc2 => absurd hc2 (by decide)) (fun hc2 => ?_)
  refine z_aload_n d_X11_fault_17 rfl rfl ?_
  refine z_getf (v := qR 160) d_X11_fault_18 fl_X11_33 (xput_ob (c := (F 2)) xi_2 rfl (xsh_11 xo_2)) rfl ?_
  refine z_getf (v := qI ((F 160) 8)) d_X11_fault_21 fl_X11_236 (xput_ob (c := (F 160)) xi_160 rfl (xsh_4 xo_160)) rfl ?_
  refine z_goto 28 d_X11_fault_24 (by decide) ?_
  exact z_iret d_X11_fault_28 rfl er eh
set_option maxRecDepth 20000 in
set_option maxHeartbeats 4000000 in
theorem xc_fault_no {h : qH} {F G : Nat → Nat → Int} (k : Int) (hk : k ≠ 0 ∧ k ≠ 1) : qEx M_X11_fault 0 [qR 2, qI k] [] (xput h F G) (some (qI (-1))) (xput h F G) := by
  refine q_gen (fun r hr er eh => ?_)
  refine z_iload_n d_X11_fault_0 rfl rfl ?_
  refine z_if_ne 12 d_X11_fault_1 (by decide) (fun hc1 => ?_) (fun hc1 => absurd hc1 (by omega))
  refine z_iload_n d_X11_fault_12 rfl rfl ?_
  refine z_iconst d_X11_fault_13 (by decide) ?_
  refine z_icmp_ne 27 d_X11_fault_14 (by decide) (fun hc2 => ?_) (fun hc2 => absurd hc2 (by omega))
  refine z_iconst d_X11_fault_27 (by decide) ?_
  exact z_iret d_X11_fault_28 rfl er eh
set_option maxRecDepth 20000 in
set_option maxHeartbeats 4000000 in
theorem xc_look0 {h : qH} {F G : Nat → Nat → Int} {N : Nat → Int} (hW : wlR F G 56 N) : qEx M_X11_look 0 [qR 2, qI 0, qU] [] (xput h F G) (some (qI (N 160))) (xput h F G) := by
  refine q_gen (fun r hr er eh => ?_)
  refine z_aload_n d_X11_look_0 rfl rfl ?_
  refine z_getf (v := qR 3) d_X11_look_1 fl_X11_12 (xput_ob (c := (F 2)) xi_2 rfl (xsh_11 xo_2)) rfl ?_
  refine z_getf (v := qR 56) d_X11_look_4 fl_X11_66 (xput_ob (c := (F 3)) xi_3 rfl (xsh_8 xo_3)) rfl ?_
  refine z_astore_n (ls' := [qR 2, qI 0, qR 56]) d_X11_look_7 rfl (by decide) rfl ?_
  refine z_iload_n d_X11_look_8 rfl rfl ?_
  refine z_bipush d_X11_look_9 (by decide) ?_
  refine z_bipush d_X11_look_11 (by decide) ?_
  refine z_cs (M1 := M_X11_isWithin) d_X11_look_13 ls_X11_62 k_X11_isWithin [qI 0, qI 8, qI 11] rfl rfl (Nat.le_of_ble_eq_true rfl) (by decide) (by decide) (Nat.le_of_ble_eq_true rfl) (c_isWithin 0 8 11) ?_
  refine z_ifeqB 38 d_X11_look_16 (by decide) (fun hc1 => ?_) (fun hc1 => absurd hc1 (by omega))
  refine z_iload_n d_X11_look_38 rfl rfl ?_
  refine z_tableIn 116 d_X11_look_39 (by decide) (by decide) (off := 77) rfl (by decide) ?_
  refine z_aload_n d_X11_look_116 rfl rfl ?_
  refine z_getf (v := qI ((F 56) 0)) d_X11_look_117 fl_X11_159 (xput_ob (c := (F 56)) xi_56 rfl (xsh_10 xo_56)) rfl ?_
  exact z_iret d_X11_look_120 rfl (qer er hW.1.1.symm) eh
set_option maxRecDepth 20000 in
set_option maxHeartbeats 4000000 in
theorem xc_look2 {h : qH} {F G : Nat → Nat → Int} {N : Nat → Int} (hW : wlR F G 56 N) : qEx M_X11_look 0 [qR 2, qI 2, qU] [] (xput h F G) (some (qI (N 162))) (xput h F G) := by
  refine q_gen (fun r hr er eh => ?_)
  refine z_aload_n d_X11_look_0 rfl rfl ?_
  refine z_getf (v := qR 3) d_X11_look_1 fl_X11_12 (xput_ob (c := (F 2)) xi_2 rfl (xsh_11 xo_2)) rfl ?_
  refine z_getf (v := qR 56) d_X11_look_4 fl_X11_66 (xput_ob (c := (F 3)) xi_3 rfl (xsh_8 xo_3)) rfl ?_
  refine z_astore_n (ls' := [qR 2, qI 2, qR 56]) d_X11_look_7 rfl (by decide) rfl ?_
  refine z_iload_n d_X11_look_8 rfl rfl ?_
  refine z_bipush d_X11_look_9 (by decide) ?_
  refine z_bipush d_X11_look_11 (by decide) ?_
  refine z_cs (M1 := M_X11_isWithin) d_X11_look_13 ls_X11_62 k_X11_isWithin [qI 2, qI 8, qI 11] rfl rfl (Nat.le_of_ble_eq_true rfl) (by decide) (by decide) (Nat.le_of_ble_eq_true rfl) (c_isWithin 2 8 11) ?_
  refine z_ifeqB 38 d_X11_look_16 (by decide) (fun hc1 => ?_) (fun hc1 => absurd hc1 (by omega))
  refine z_iload_n d_X11_look_38 rfl rfl ?_
  refine z_tableIn 134 d_X11_look_39 (by decide) (by decide) (off := 95) rfl (by decide) ?_
  refine z_aload_n d_X11_look_134 rfl rfl ?_
  refine z_getf (v := qI ((F 56) 8)) d_X11_look_135 fl_X11_95 (xput_ob (c := (F 56)) xi_56 rfl (xsh_10 xo_56)) rfl ?_
  exact z_iret d_X11_look_138 rfl (qer er hW.1.2.2.1.symm) eh
set_option maxRecDepth 20000 in
set_option maxHeartbeats 4000000 in
theorem xc_look3 {h : qH} {F G : Nat → Nat → Int} {N : Nat → Int} (hW : wlR F G 56 N) : qEx M_X11_look 0 [qR 2, qI 3, qU] [] (xput h F G) (some (qI (N 163))) (xput h F G) := by
  refine q_gen (fun r hr er eh => ?_)
  refine z_aload_n d_X11_look_0 rfl rfl ?_
  refine z_getf (v := qR 3) d_X11_look_1 fl_X11_12 (xput_ob (c := (F 2)) xi_2 rfl (xsh_11 xo_2)) rfl ?_
  refine z_getf (v := qR 56) d_X11_look_4 fl_X11_66 (xput_ob (c := (F 3)) xi_3 rfl (xsh_8 xo_3)) rfl ?_
  refine z_astore_n (ls' := [qR 2, qI 3, qR 56]) d_X11_look_7 rfl (by decide) rfl ?_
  refine z_iload_n d_X11_look_8 rfl rfl ?_
  refine z_bipush d_X11_look_9 (by decide) ?_
  refine z_bipush d_X11_look_11 (by decide) ?_
  refine z_cs (M1 := M_X11_isWithin) d_X11_look_13 ls_X11_62 k_X11_isWithin [qI 3, qI 8, qI 11] rfl rfl (Nat.le_of_ble_eq_true rfl) (by decide) (by decide) (Nat.le_of_ble_eq_true rfl) (c_isWithin 3 8 11) ?_
  refine z_ifeqB 38 d_X11_look_16 (by decide) (fun hc1 => ?_) (fun hc1 => absurd hc1 (by omega))
  refine z_iload_n d_X11_look_38 rfl rfl ?_
  refine z_tableIn 139 d_X11_look_39 (by decide) (by decide) (off := 100) rfl (by decide) ?_
  refine z_aload_n d_X11_look_139 rfl rfl ?_
  refine z_getf (v := qI ((F 56) 9)) d_X11_look_140 fl_X11_165 (xput_ob (c := (F 56)) xi_56 rfl (xsh_10 xo_56)) rfl ?_
  exact z_iret d_X11_look_143 rfl (qer er hW.1.2.2.2.1.symm) eh
set_option maxRecDepth 20000 in
set_option maxHeartbeats 4000000 in
theorem xc_look4 {h : qH} {F G : Nat → Nat → Int} {N : Nat → Int} (hW : wlR F G 56 N) : qEx M_X11_look 0 [qR 2, qI 4, qU] [] (xput h F G) (some (qI (N 164))) (xput h F G) := by
  refine q_gen (fun r hr er eh => ?_)
  refine z_aload_n d_X11_look_0 rfl rfl ?_
  refine z_getf (v := qR 3) d_X11_look_1 fl_X11_12 (xput_ob (c := (F 2)) xi_2 rfl (xsh_11 xo_2)) rfl ?_
  refine z_getf (v := qR 56) d_X11_look_4 fl_X11_66 (xput_ob (c := (F 3)) xi_3 rfl (xsh_8 xo_3)) rfl ?_
  refine z_astore_n (ls' := [qR 2, qI 4, qR 56]) d_X11_look_7 rfl (by decide) rfl ?_
  refine z_iload_n d_X11_look_8 rfl rfl ?_
  refine z_bipush d_X11_look_9 (by decide) ?_
  refine z_bipush d_X11_look_11 (by decide) ?_
  refine z_cs (M1 := M_X11_isWithin) d_X11_look_13 ls_X11_62 k_X11_isWithin [qI 4, qI 8, qI 11] rfl rfl (Nat.le_of_ble_eq_true rfl) (by decide) (by decide) (Nat.le_of_ble_eq_true rfl) (c_isWithin 4 8 11) ?_
  refine z_ifeqB 38 d_X11_look_16 (by decide) (fun hc1 => ?_) (fun hc1 => absurd hc1 (by omega))
  refine z_iload_n d_X11_look_38 rfl rfl ?_
  refine z_tableIn 144 d_X11_look_39 (by decide) (by decide) (off := 105) rfl (by decide) ?_
  refine z_aload_n d_X11_look_144 rfl rfl ?_
  refine z_getf (v := qI ((F 56) 10)) d_X11_look_145 fl_X11_168 (xput_ob (c := (F 56)) xi_56 rfl (xsh_10 xo_56)) rfl ?_
  exact z_iret d_X11_look_148 rfl (qer er hW.1.2.2.2.2.1.symm) eh
set_option maxRecDepth 20000 in
set_option maxHeartbeats 4000000 in
theorem xc_look5 {h : qH} {F G : Nat → Nat → Int} {N : Nat → Int} (hW : wlR F G 56 N) : qEx M_X11_look 0 [qR 2, qI 5, qU] [] (xput h F G) (some (qI (N 165))) (xput h F G) := by
  refine q_gen (fun r hr er eh => ?_)
  refine z_aload_n d_X11_look_0 rfl rfl ?_
  refine z_getf (v := qR 3) d_X11_look_1 fl_X11_12 (xput_ob (c := (F 2)) xi_2 rfl (xsh_11 xo_2)) rfl ?_
  refine z_getf (v := qR 56) d_X11_look_4 fl_X11_66 (xput_ob (c := (F 3)) xi_3 rfl (xsh_8 xo_3)) rfl ?_
  refine z_astore_n (ls' := [qR 2, qI 5, qR 56]) d_X11_look_7 rfl (by decide) rfl ?_
  refine z_iload_n d_X11_look_8 rfl rfl ?_
  refine z_bipush d_X11_look_9 (by decide) ?_
  refine z_bipush d_X11_look_11 (by decide) ?_
  refine z_cs (M1 := M_X11_isWithin) d_X11_look_13 ls_X11_62 k_X11_isWithin [qI 5, qI 8, qI 11] rfl rfl (Nat.le_of_ble_eq_true rfl) (by decide) (by decide) (Nat.le_of_ble_eq_true rfl) (c_isWithin 5 8 11) ?_
  refine z_ifeqB 38 d_X11_look_16 (by decide) (fun hc1 => ?_) (fun hc1 => absurd hc1 (by omega))
  refine z_iload_n d_X11_look_38 rfl rfl ?_
  refine z_tableIn 149 d_X11_look_39 (by decide) (by decide) (off := 110) rfl (by decide) ?_
  refine z_aload_n d_X11_look_149 rfl rfl ?_
  refine z_getf (v := qI ((F 56) 11)) d_X11_look_150 fl_X11_171 (xput_ob (c := (F 56)) xi_56 rfl (xsh_10 xo_56)) rfl ?_
  exact z_iret d_X11_look_153 rfl (qer er hW.1.2.2.2.2.2.symm) eh
set_option maxRecDepth 20000 in
set_option maxHeartbeats 4000000 in
theorem xc_look6 {h : qH} {F G : Nat → Nat → Int} {n : Nat} {N : Nat → Int} (hW : wlR F G 56 N) (hO : wOk N) (hN : N 160 = (n : Int)) : qEx M_X11_look 0 [qR 2, qI 6, qU] [] (xput h F G) (some (qI (cnt (fun k => N k = 7) n))) (xput h F G) := by
  refine q_gen (fun r hr er eh => ?_)
  refine z_aload_n d_X11_look_0 rfl rfl ?_
  refine z_getf (v := qR 3) d_X11_look_1 fl_X11_12 (xput_ob (c := (F 2)) xi_2 rfl (xsh_11 xo_2)) rfl ?_
  refine z_getf (v := qR 56) d_X11_look_4 fl_X11_66 (xput_ob (c := (F 3)) xi_3 rfl (xsh_8 xo_3)) rfl ?_
  refine z_astore_n (ls' := [qR 2, qI 6, qR 56]) d_X11_look_7 rfl (by decide) rfl ?_
  refine z_iload_n d_X11_look_8 rfl rfl ?_
  refine z_bipush d_X11_look_9 (by decide) ?_
  refine z_bipush d_X11_look_11 (by decide) ?_
  refine z_cs (M1 := M_X11_isWithin) d_X11_look_13 ls_X11_62 k_X11_isWithin [qI 6, qI 8, qI 11] rfl rfl (Nat.le_of_ble_eq_true rfl) (by decide) (by decide) (Nat.le_of_ble_eq_true rfl) (c_isWithin 6 8 11) ?_
  refine z_ifeqB 38 d_X11_look_16 (by decide) (fun hc1 => ?_) (fun hc1 => absurd hc1 (by omega))
  refine z_iload_n d_X11_look_38 rfl rfl ?_
  refine z_tableIn 154 d_X11_look_39 (by decide) (by decide) (off := 115) rfl (by decide) ?_
  refine z_aload_n d_X11_look_154 rfl rfl ?_
  refine z_cv (M1 := M_X10_litCount) d_X11_look_155 lv_X11_102 k_X10_litCount [] rfl rfl (xput_ob (c := (F 56)) xi_56 rfl (xsh_10 xo_56)) ⟨_, _, rfl⟩ (Nat.le_of_ble_eq_true rfl) (by decide) (by decide) (Nat.le_of_ble_eq_true rfl) (c_wlLit (wl := 56) (n := n) (by decide) xo_56 hW hO hN) ?_
  exact z_iret d_X11_look_158 rfl er eh
set_option maxRecDepth 20000 in
set_option maxHeartbeats 4000000 in
theorem xc_look7 {h : qH} {F G : Nat → Nat → Int}   : qEx M_X11_look 0 [qR 2, qI 7, qU] [] (xput h F G) (some (qI ((F 61) 2))) (xput h F G) := by
  refine q_gen (fun r hr er eh => ?_)
  refine z_aload_n d_X11_look_0 rfl rfl ?_
  refine z_getf (v := qR 3) d_X11_look_1 fl_X11_12 (xput_ob (c := (F 2)) xi_2 rfl (xsh_11 xo_2)) rfl ?_
  refine z_getf (v := qR 56) d_X11_look_4 fl_X11_66 (xput_ob (c := (F 3)) xi_3 rfl (xsh_8 xo_3)) rfl ?_
  refine z_astore_n (ls' := [qR 2, qI 7, qR 56]) d_X11_look_7 rfl (by decide) rfl ?_
  refine z_iload_n d_X11_look_8 rfl rfl ?_
  refine z_bipush d_X11_look_9 (by decide) ?_
  refine z_bipush d_X11_look_11 (by decide) ?_
  refine z_cs (M1 := M_X11_isWithin) d_X11_look_13 ls_X11_62 k_X11_isWithin [qI 7, qI 8, qI 11] rfl rfl (Nat.le_of_ble_eq_true rfl) (by decide) (by decide) (Nat.le_of_ble_eq_true rfl) (c_isWithin 7 8 11) ?_
  refine z_ifeqB 38 d_X11_look_16 (by decide) (fun hc1 => ?_) (fun hc1 => absurd hc1 (by omega))
  refine z_iload_n d_X11_look_38 rfl rfl ?_
  refine z_tableIn 159 d_X11_look_39 (by decide) (by decide) (off := 120) rfl (by decide) ?_
  refine z_aload_n d_X11_look_159 rfl rfl ?_
  refine z_getf (v := qR 3) d_X11_look_160 fl_X11_12 (xput_ob (c := (F 2)) xi_2 rfl (xsh_11 xo_2)) rfl ?_
  refine z_getf (v := qR 61) d_X11_look_163 fl_X11_128 (xput_ob (c := (F 3)) xi_3 rfl (xsh_8 xo_3)) rfl ?_
  refine z_getf (v := qI ((F 61) 2)) d_X11_look_166 fl_X11_174 (xput_ob (c := (F 61)) xi_61 rfl (xsh_6 xo_61)) rfl ?_
  exact z_iret d_X11_look_169 rfl er eh
set_option maxRecDepth 20000 in
set_option maxHeartbeats 4000000 in
theorem xc_look12 {h : qH} {F G : Nat → Nat → Int}   : qEx M_X11_look 0 [qR 2, qI 12, qU] [] (xput h F G) (some (qI ((F 52) 2))) (xput h F G) := by
  refine q_gen (fun r hr er eh => ?_)
  refine z_aload_n d_X11_look_0 rfl rfl ?_
  refine z_getf (v := qR 3) d_X11_look_1 fl_X11_12 (xput_ob (c := (F 2)) xi_2 rfl (xsh_11 xo_2)) rfl ?_
  refine z_getf (v := qR 56) d_X11_look_4 fl_X11_66 (xput_ob (c := (F 3)) xi_3 rfl (xsh_8 xo_3)) rfl ?_
  refine z_astore_n (ls' := [qR 2, qI 12, qR 56]) d_X11_look_7 rfl (by decide) rfl ?_
  refine z_iload_n d_X11_look_8 rfl rfl ?_
  refine z_bipush d_X11_look_9 (by decide) ?_
  refine z_bipush d_X11_look_11 (by decide) ?_
  refine z_cs (M1 := M_X11_isWithin) d_X11_look_13 ls_X11_62 k_X11_isWithin [qI 12, qI 8, qI 11] rfl rfl (Nat.le_of_ble_eq_true rfl) (by decide) (by decide) (Nat.le_of_ble_eq_true rfl) (c_isWithin 12 8 11) ?_
  refine z_ifeqB 38 d_X11_look_16 (by decide) (fun hc1 => ?_) (fun hc1 => absurd hc1 (by omega))
  refine z_iload_n d_X11_look_38 rfl rfl ?_
  refine z_tableIn 170 d_X11_look_39 (by decide) (by decide) (off := 131) rfl (by decide) ?_
  refine z_aload_n d_X11_look_170 rfl rfl ?_
  refine z_getf (v := qR 3) d_X11_look_171 fl_X11_12 (xput_ob (c := (F 2)) xi_2 rfl (xsh_11 xo_2)) rfl ?_
  refine z_getf (v := qR 52) d_X11_look_174 fl_X11_175 (xput_ob (c := (F 3)) xi_3 rfl (xsh_8 xo_3)) rfl ?_
  refine z_getf (v := qI ((F 52) 2)) d_X11_look_177 fl_X11_174 (xput_ob (c := (F 52)) xi_52 rfl (xsh_6 xo_52)) rfl ?_
  exact z_iret d_X11_look_180 rfl er eh
set_option maxRecDepth 20000 in
set_option maxHeartbeats 4000000 in
theorem xc_look13 {h : qH} {F G : Nat → Nat → Int}   : qEx M_X11_look 0 [qR 2, qI 13, qU] [] (xput h F G) (some (qI ((F 54) 2))) (xput h F G) := by
  refine q_gen (fun r hr er eh => ?_)
  refine z_aload_n d_X11_look_0 rfl rfl ?_
  refine z_getf (v := qR 3) d_X11_look_1 fl_X11_12 (xput_ob (c := (F 2)) xi_2 rfl (xsh_11 xo_2)) rfl ?_
  refine z_getf (v := qR 56) d_X11_look_4 fl_X11_66 (xput_ob (c := (F 3)) xi_3 rfl (xsh_8 xo_3)) rfl ?_
  refine z_astore_n (ls' := [qR 2, qI 13, qR 56]) d_X11_look_7 rfl (by decide) rfl ?_
  refine z_iload_n d_X11_look_8 rfl rfl ?_
  refine z_bipush d_X11_look_9 (by decide) ?_
  refine z_bipush d_X11_look_11 (by decide) ?_
  refine z_cs (M1 := M_X11_isWithin) d_X11_look_13 ls_X11_62 k_X11_isWithin [qI 13, qI 8, qI 11] rfl rfl (Nat.le_of_ble_eq_true rfl) (by decide) (by decide) (Nat.le_of_ble_eq_true rfl) (c_isWithin 13 8 11) ?_
  refine z_ifeqB 38 d_X11_look_16 (by decide) (fun hc1 => ?_) (fun hc1 => absurd hc1 (by omega))
  refine z_iload_n d_X11_look_38 rfl rfl ?_
  refine z_tableIn 181 d_X11_look_39 (by decide) (by decide) (off := 142) rfl (by decide) ?_
  refine z_aload_n d_X11_look_181 rfl rfl ?_
  refine z_getf (v := qR 3) d_X11_look_182 fl_X11_12 (xput_ob (c := (F 2)) xi_2 rfl (xsh_11 xo_2)) rfl ?_
  refine z_getf (v := qR 54) d_X11_look_185 fl_X11_178 (xput_ob (c := (F 3)) xi_3 rfl (xsh_8 xo_3)) rfl ?_
  refine z_getf (v := qI ((F 54) 2)) d_X11_look_188 fl_X11_174 (xput_ob (c := (F 54)) xi_54 rfl (xsh_6 xo_54)) rfl ?_
  exact z_iret d_X11_look_191 rfl er eh
set_option maxRecDepth 20000 in
set_option maxHeartbeats 4000000 in
theorem xc_look15 {h : qH} {F G : Nat → Nat → Int}   : qEx M_X11_look 0 [qR 2, qI 15, qU] [] (xput h F G) (some (qI ((F 127) 3))) (xput h F G) := by
  refine q_gen (fun r hr er eh => ?_)
  refine z_aload_n d_X11_look_0 rfl rfl ?_
  refine z_getf (v := qR 3) d_X11_look_1 fl_X11_12 (xput_ob (c := (F 2)) xi_2 rfl (xsh_11 xo_2)) rfl ?_
  refine z_getf (v := qR 56) d_X11_look_4 fl_X11_66 (xput_ob (c := (F 3)) xi_3 rfl (xsh_8 xo_3)) rfl ?_
  refine z_astore_n (ls' := [qR 2, qI 15, qR 56]) d_X11_look_7 rfl (by decide) rfl ?_
  refine z_iload_n d_X11_look_8 rfl rfl ?_
  refine z_bipush d_X11_look_9 (by decide) ?_
  refine z_bipush d_X11_look_11 (by decide) ?_
  refine z_cs (M1 := M_X11_isWithin) d_X11_look_13 ls_X11_62 k_X11_isWithin [qI 15, qI 8, qI 11] rfl rfl (Nat.le_of_ble_eq_true rfl) (by decide) (by decide) (Nat.le_of_ble_eq_true rfl) (c_isWithin 15 8 11) ?_
  refine z_ifeqB 38 d_X11_look_16 (by decide) (fun hc1 => ?_) (fun hc1 => absurd hc1 (by omega))
  refine z_iload_n d_X11_look_38 rfl rfl ?_
  refine z_tableIn 203 d_X11_look_39 (by decide) (by decide) (off := 164) rfl (by decide) ?_
  refine z_aload_n d_X11_look_203 rfl rfl ?_
  refine z_getf (v := qR 127) d_X11_look_204 fl_X11_26 (xput_ob (c := (F 2)) xi_2 rfl (xsh_11 xo_2)) rfl ?_
  refine z_getf (v := qI ((F 127) 3)) d_X11_look_207 fl_X11_187 (xput_ob (c := (F 127)) xi_127 rfl (xsh_3 xo_127)) rfl ?_
  exact z_iret d_X11_look_210 rfl er eh
