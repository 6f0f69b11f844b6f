/-! ===== CONTRACTS: BeaconWall: works ===== -/
set_option maxRecDepth 20000 in
set_option maxHeartbeats 4000000 in
theorem xc_works0 {h : qH} {F G : Nat → Nat → Int} {to : Nat} {T : Nat → Int} (ht : 1 ≤ to ∧ to ≤ 24) (hT : ∀ c, c < 648 → G 6 c = T c) (hB : ∀ c, c < 648 → 0 ≤ T c ∧ T c ≤ 7) : ∃ F' G', (xfr 173 176 F G F' G') ∧ qEx M_X11_works 0 [qR 2, qI (to : Int), qI 0, qU] [] (xput h F G) (some (qI (fbR T to))) (xput h F' G') := by
  refine x_in (fun Q hQ => ?_)
  refine qy (fun _ _ k9 => z_iload_n d_X11_works_0 rfl rfl k9) ?_
  refine qy (fun _ _ k9 => z_cs (M1 := M_X11_isLength) d_X11_works_1 ls_X11_308 k_X11_isLength [qI (to : Int)] rfl rfl (Nat.le_of_ble_eq_true rfl) (by decide) (by decide) (Nat.le_of_ble_eq_true rfl) (c_isLength (to : Int)) k9) ?_
  refine qy2n (fun _ _ => z_ifeqB 16 d_X11_works_4 (by decide)) (fun hc1 => absurd hc1 (by omega)) (fun hc1 => ?_)
  refine qy (fun _ _ k9 => z_iload_n d_X11_works_7 rfl rfl k9) ?_
  refine qy (fun _ _ k9 => z_iconst d_X11_works_8 (by decide) k9) ?_
  refine qy (fun _ _ k9 => z_iconst d_X11_works_9 (by decide) k9) ?_
  refine qy (fun _ _ k9 => z_cs (M1 := M_X11_isWithin) d_X11_works_10 ls_X11_62 k_X11_isWithin [qI 0, qI 0, qI 2] rfl rfl (Nat.le_of_ble_eq_true rfl) (by decide) (by decide) (Nat.le_of_ble_eq_true rfl) (c_isWithin 0 0 2) k9) ?_
  refine qy2 (fun _ _ => z_ifneB 18 d_X11_works_13 (by decide)) (fun hc2 => ?_) (fun hc2 => absurd hc2 (by omega))
  refine qy (fun _ _ k9 => z_aload_n d_X11_works_18 rfl rfl k9) ?_
  refine qy (fun _ _ k9 => z_getf (v := qR 172) d_X11_works_19 fl_X11_40 (xput_ob (c := (F 2)) xi_2 rfl (xsh_11 xo_2)) rfl k9) ?_
  refine qy (fun _ _ k9 => z_aload_n d_X11_works_22 rfl rfl k9) ?_
  refine qy (fun _ _ k9 => z_getf (v := qR 3) d_X11_works_23 fl_X11_12 (xput_ob (c := (F 2)) xi_2 rfl (xsh_11 xo_2)) rfl k9) ?_
  refine qy (fun _ _ k9 => z_getf (v := qR 4) d_X11_works_26 fl_X11_144 (xput_ob (c := (F 3)) xi_3 rfl (xsh_8 xo_3)) rfl k9) ?_
  refine qy (fun _ _ k9 => z_getf (v := qR 6) d_X11_works_29 fl_X11_243 (xput_ob (c := (F 4)) xi_4 rfl (xsh_0 xo_4)) rfl k9) ?_
  refine qy (fun _ _ k9 => z_iload_n d_X11_works_32 rfl rfl k9) ?_
  obtain ⟨F1, G1, ⟨hv1, hq1⟩, hx1⟩ := xc_firstBad (h := h) (F := F) (G := G) (d := 6) (to := to) (T := T) xa_6 (by decide) (by omega) hT hB
  refine qy (fun _ _ k9 => z_cv (M1 := M_X9_firstBad) d_X11_works_33 lv_X11_311 k_X9_firstBad [qR 6, qI (to : Int)] rfl rfl (xput_ob (c := (F 172)) xi_172 rfl (xsh_9 xo_172)) ⟨_, _, rfl⟩ (Nat.le_of_ble_eq_true rfl) (by decide) (by decide) (Nat.le_of_ble_eq_true rfl) hx1 k9) ?_
  refine qy (fun _ _ k9 => z_istore_n (ls' := [qR 2, qI (to : Int), qI 0, qI (fbR T to)]) d_X11_works_36 rfl (by decide) rfl k9) ?_
  refine qy (fun _ _ k9 => z_iload_n d_X11_works_37 rfl rfl k9) ?_
  refine qy (fun _ _ k9 => z_iconst d_X11_works_38 (by decide) k9) ?_
  refine qy2 (fun _ _ => z_icmp_eq 46 d_X11_works_39 (by decide)) (fun hc3 => ?_) (fun hc3 => ?_)
  · refine qy (fun _ _ k9 => z_iload_n d_X11_works_46 rfl rfl k9) ?_
    exact y_ret (hQ F1 G1 hv1) (z_iret d_X11_works_47 rfl rfl rfl)
  · refine qy (fun _ _ k9 => z_iload_n d_X11_works_42 rfl rfl k9) ?_
    refine qy2 (fun _ _ => z_if_ne 48 d_X11_works_43 (by decide)) (fun hc4 => absurd hc4 (by decide)) (fun hc4 => ?_)
    refine qy (fun _ _ k9 => z_iload_n d_X11_works_46 rfl rfl k9) ?_
    exact y_ret (hQ F1 G1 hv1) (z_iret d_X11_works_47 rfl rfl rfl)
set_option maxRecDepth 20000 in
set_option maxHeartbeats 4000000 in
theorem xc_works1_all {h : qH} {F G : Nat → Nat → Int} {to : Nat} {T : Nat → Int} (ht : 1 ≤ to ∧ to ≤ 24) (hg : fbR T to = -1) (hT : ∀ c, c < 648 → G 6 c = T c) (hB : ∀ c, c < 648 → 0 ≤ T c ∧ T c ≤ 7) : ∃ F' G', (xfr 173 176 F G F' G') ∧ qEx M_X11_works 0 [qR 2, qI (to : Int), qI 1, qU] [] (xput h F G) (some (qI (-1))) (xput h F' G') := by
  refine x_in (fun Q hQ => ?_)
  refine qy (fun _ _ k9 => z_iload_n d_X11_works_0 rfl rfl k9) ?_
  refine qy (fun _ _ k9 => z_cs (M1 := M_X11_isLength) d_X11_works_1 ls_X11_308 k_X11_isLength [qI (to : Int)] rfl rfl (Nat.le_of_ble_eq_true rfl) (by decide) (by decide) (Nat.le_of_ble_eq_true rfl) (c_isLength (to : Int)) k9) ?_
  refine qy2n (fun _ _ => z_ifeqB 16 d_X11_works_4 (by decide)) (fun hc1 => absurd hc1 (by omega)) (fun hc1 => ?_)
  refine qy (fun _ _ k9 => z_iload_n d_X11_works_7 rfl rfl k9) ?_
  refine qy (fun _ _ k9 => z_iconst d_X11_works_8 (by decide) k9) ?_
  refine qy (fun _ _ k9 => z_iconst d_X11_works_9 (by decide) k9) ?_
  refine qy (fun _ _ k9 => z_cs (M1 := M_X11_isWithin) d_X11_works_10 ls_X11_62 k_X11_isWithin [qI 1, qI 0, qI 2] rfl rfl (Nat.le_of_ble_eq_true rfl) (by decide) (by decide) (Nat.le_of_ble_eq_true rfl) (c_isWithin 1 0 2) k9) ?_
  refine qy2 (fun _ _ => z_ifneB 18 d_X11_works_13 (by decide)) (fun hc2 => ?_) (fun hc2 => absurd hc2 (by omega))
  refine qy (fun _ _ k9 => z_aload_n d_X11_works_18 rfl rfl k9) ?_
  refine qy (fun _ _ k9 => z_getf (v := qR 172) d_X11_works_19 fl_X11_40 (xput_ob (c := (F 2)) xi_2 rfl (xsh_11 xo_2)) rfl k9) ?_
  refine qy (fun _ _ k9 => z_aload_n d_X11_works_22 rfl rfl k9) ?_
  refine qy (fun _ _ k9 => z_getf (v := qR 3) d_X11_works_23 fl_X11_12 (xput_ob (c := (F 2)) xi_2 rfl (xsh_11 xo_2)) rfl k9) ?_
  refine qy (fun _ _ k9 => z_getf (v := qR 4) d_X11_works_26 fl_X11_144 (xput_ob (c := (F 3)) xi_3 rfl (xsh_8 xo_3)) rfl k9) ?_
  refine qy (fun _ _ k9 => z_getf (v := qR 6) d_X11_works_29 fl_X11_243 (xput_ob (c := (F 4)) xi_4 rfl (xsh_0 xo_4)) rfl k9) ?_
  refine qy (fun _ _ k9 => z_iload_n d_X11_works_32 rfl rfl k9) ?_
  obtain ⟨F1, G1, ⟨hv1, hq1⟩, hx1⟩ := xc_firstBad (h := h) (F := F) (G := G) (d := 6) (to := to) (T := T) xa_6 (by decide) (by omega) hT hB
  refine qy (fun _ _ k9 => z_cv (M1 := M_X9_firstBad) d_X11_works_33 lv_X11_311 k_X9_firstBad [qR 6, qI (to : Int)] rfl rfl (xput_ob (c := (F 172)) xi_172 rfl (xsh_9 xo_172)) ⟨_, _, rfl⟩ (Nat.le_of_ble_eq_true rfl) (by decide) (by decide) (Nat.le_of_ble_eq_true rfl) hx1 k9) ?_
  refine qy (fun _ _ k9 => z_istore_n (ls' := [qR 2, qI (to : Int), qI 1, qI (fbR T to)]) d_X11_works_36 rfl (by decide) rfl k9) ?_
  refine qy (fun _ _ k9 => z_iload_n d_X11_works_37 rfl rfl k9) ?_
  refine qy (fun _ _ k9 => z_iconst d_X11_works_38 (by decide) k9) ?_
  refine qy2 (fun _ _ => z_icmp_eq 46 d_X11_works_39 (by decide)) (fun hc3 => ?_) (fun hc3 => absurd hc3 (by omega))
  refine qy (fun _ _ k9 => z_iload_n d_X11_works_46 rfl rfl k9) ?_
  exact y_ret (hQ F1 G1 hv1) (z_iret d_X11_works_47 rfl (qsi hg.symm) rfl)
set_option maxRecDepth 20000 in
set_option maxHeartbeats 4000000 in
theorem xc_works1 {h : qH} {F G : Nat → Nat → Int} {to : Nat} {T : Nat → Int} (ht : 1 ≤ to ∧ to ≤ 24) (hbad : fbR T to ≠ -1) (hT : ∀ c, c < 648 → G 6 c = T c) (hB : ∀ c, c < 648 → 0 ≤ T c ∧ T c ≤ 7) : ∃ F' G', (xfr 173 176 F G F' G') ∧ qEx M_X11_works 0 [qR 2, qI (to : Int), qI 1, qU] [] (xput h F G) (some (qI (rnT T (fbN T to) 0 0))) (xput h F' G') := by
  refine x_in (fun Q hQ => ?_)
  have hN9 := fbR_N hbad
  refine qy (fun _ _ k9 => z_iload_n d_X11_works_0 rfl rfl k9) ?_
  refine qy (fun _ _ k9 => z_cs (M1 := M_X11_isLength) d_X11_works_1 ls_X11_308 k_X11_isLength [qI (to : Int)] rfl rfl (Nat.le_of_ble_eq_true rfl) (by decide) (by decide) (Nat.le_of_ble_eq_true rfl) (c_isLength (to : Int)) k9) ?_
  refine qy2n (fun _ _ => z_ifeqB 16 d_X11_works_4 (by decide)) (fun hc1 => absurd hc1 (by omega)) (fun hc1 => ?_)
  refine qy (fun _ _ k9 => z_iload_n d_X11_works_7 rfl rfl k9) ?_
  refine qy (fun _ _ k9 => z_iconst d_X11_works_8 (by decide) k9) ?_
  refine qy (fun _ _ k9 => z_iconst d_X11_works_9 (by decide) k9) ?_
  refine qy (fun _ _ k9 => z_cs (M1 := M_X11_isWithin) d_X11_works_10 ls_X11_62 k_X11_isWithin [qI 1, qI 0, qI 2] rfl rfl (Nat.le_of_ble_eq_true rfl) (by decide) (by decide) (Nat.le_of_ble_eq_true rfl) (c_isWithin 1 0 2) k9) ?_
  refine qy2 (fun _ _ => z_ifneB 18 d_X11_works_13 (by decide)) (fun hc2 => ?_) (fun hc2 => absurd hc2 (by omega))
  refine qy (fun _ _ k9 => z_aload_n d_X11_works_18 rfl rfl k9) ?_
  refine qy (fun _ _ k9 => z_getf (v := qR 172) d_X11_works_19 fl_X11_40 (xput_ob (c := (F 2)) xi_2 rfl (xsh_11 xo_2)) rfl k9) ?_
  refine qy (fun _ _ k9 => z_aload_n d_X11_works_22 rfl rfl k9) ?_
  refine qy (fun _ _ k9 => z_getf (v := qR 3) d_X11_works_23 fl_X11_12 (xput_ob (c := (F 2)) xi_2 rfl (xsh_11 xo_2)) rfl k9) ?_
  refine qy (fun _ _ k9 => z_getf (v := qR 4) d_X11_works_26 fl_X11_144 (xput_ob (c := (F 3)) xi_3 rfl (xsh_8 xo_3)) rfl k9) ?_
  refine qy (fun _ _ k9 => z_getf (v := qR 6) d_X11_works_29 fl_X11_243 (xput_ob (c := (F 4)) xi_4 rfl (xsh_0 xo_4)) rfl k9) ?_
  refine qy (fun _ _ k9 => z_iload_n d_X11_works_32 rfl rfl k9) ?_
  obtain ⟨F1, G1, ⟨hv1, hq1⟩, hx1⟩ := xc_firstBad (h := h) (F := F) (G := G) (d := 6) (to := to) (T := T) xa_6 (by decide) (by omega) hT hB
  refine qy (fun _ _ k9 => z_cv (M1 := M_X9_firstBad) d_X11_works_33 lv_X11_311 k_X9_firstBad [qR 6, qI (to : Int)] rfl rfl (xput_ob (c := (F 172)) xi_172 rfl (xsh_9 xo_172)) ⟨_, _, rfl⟩ (Nat.le_of_ble_eq_true rfl) (by decide) (by decide) (Nat.le_of_ble_eq_true rfl) hx1 k9) ?_
  refine qy (fun _ _ k9 => z_istore_n (ls' := [qR 2, qI (to : Int), qI 1, qI (fbR T to)]) d_X11_works_36 rfl (by decide) rfl k9) ?_
  refine qy (fun _ _ k9 => z_iload_n d_X11_works_37 rfl rfl k9) ?_
  refine qy (fun _ _ k9 => z_iconst d_X11_works_38 (by decide) k9) ?_
  refine qy2 (fun _ _ => z_icmp_eq 46 d_X11_works_39 (by decide)) (fun hc3 => absurd hc3 (by omega)) (fun hc3 => ?_)
  refine qy (fun _ _ k9 => z_iload_n d_X11_works_42 rfl rfl k9) ?_
  refine qy2 (fun _ _ => z_if_ne 48 d_X11_works_43 (by decide)) (fun hc4 => ?_) (fun hc4 => absurd (by decide) hc4)
  refine qy (fun _ _ k9 => z_aload_n d_X11_works_48 rfl rfl k9) ?_
  refine qy (fun _ _ k9 => z_getf (v := qR 172) d_X11_works_49 fl_X11_40 (xput_ob (c := (F1 2)) xi_2 rfl (xsh_11 xo_2)) rfl k9) ?_
  refine qy (fun _ _ k9 => z_getf (v := qR 173) d_X11_works_52 fl_X11_293 (xput_ob (c := (F1 172)) xi_172 rfl (xsh_9 xo_172)) rfl k9) ?_
  refine qy (fun _ _ k9 => z_iload_n d_X11_works_55 rfl rfl k9) ?_
  refine qy (fun _ _ k9 => z_iconst d_X11_works_56 (by decide) k9) ?_
  refine qy2 (fun _ _ => z_icmp_ne 64 d_X11_works_57 (by decide)) (fun hc5 => absurd hc5 (by decide)) (fun hc5 => ?_)
  refine qy (fun _ _ k9 => z_iconst d_X11_works_60 (by decide) k9) ?_
  refine qy (fun _ _ k9 => z_goto 65 d_X11_works_61 (by decide) k9) ?_
  obtain ⟨t9, ch9, hw9, he9⟩ := hq1 hbad
  refine qy (fun _ _ k9 => z_cv (M1 := M_X7_outcome) d_X11_works_65 lv_X11_288 k_X7_outcome [qI 0] rfl rfl (xput_ob (c := (F1 173)) xi_173 rfl (xsh_7 xo_173)) ⟨_, _, rfl⟩ (Nat.le_of_ble_eq_true rfl) (by decide) (by decide) (Nat.le_of_ble_eq_true rfl) (c_rnOut0 (by decide) xo_173 (by omega) hw9) k9) ?_
  exact y_ret (hQ F1 G1 hv1) (z_iret d_X11_works_68 rfl (qsi (by by_cases z : cnt (fun k => (rnE T (fbN T to) 0 0) k = 7) (fbN T to) = 0; (rw [qif_f (fun y => y z)]; exact he9.2.2.mpr z); (rw [qif_t z]; exact he9.2.1 (fun y => z (he9.2.2.mp y))))) rfl)
set_option maxRecDepth 20000 in
set_option maxHeartbeats 4000000 in
theorem xc_works2_all {h : qH} {F G : Nat → Nat → Int} {to : Nat} {T : Nat → Int} (ht : 1 ≤ to ∧ to ≤ 24) (hg : fbR T to = -1) (hT : ∀ c, c < 648 → G 6 c = T c) (hB : ∀ c, c < 648 → 0 ≤ T c ∧ T c ≤ 7) : ∃ F' G', (xfr 173 176 F G F' G') ∧ qEx M_X11_works 0 [qR 2, qI (to : Int), qI 2, qU] [] (xput h F G) (some (qI (-1))) (xput h F' G') := by
  refine x_in (fun Q hQ => ?_)
  refine qy (fun _ _ k9 => z_iload_n d_X11_works_0 rfl rfl k9) ?_
  refine qy (fun _ _ k9 => z_cs (M1 := M_X11_isLength) d_X11_works_1 ls_X11_308 k_X11_isLength [qI (to : Int)] rfl rfl (Nat.le_of_ble_eq_true rfl) (by decide) (by decide) (Nat.le_of_ble_eq_true rfl) (c_isLength (to : Int)) k9) ?_
  refine qy2n (fun _ _ => z_ifeqB 16 d_X11_works_4 (by decide)) (fun hc1 => absurd hc1 (by omega)) (fun hc1 => ?_)
  refine qy (fun _ _ k9 => z_iload_n d_X11_works_7 rfl rfl k9) ?_
  refine qy (fun _ _ k9 => z_iconst d_X11_works_8 (by decide) k9) ?_
  refine qy (fun _ _ k9 => z_iconst d_X11_works_9 (by decide) k9) ?_
  refine qy (fun _ _ k9 => z_cs (M1 := M_X11_isWithin) d_X11_works_10 ls_X11_62 k_X11_isWithin [qI 2, qI 0, qI 2] rfl rfl (Nat.le_of_ble_eq_true rfl) (by decide) (by decide) (Nat.le_of_ble_eq_true rfl) (c_isWithin 2 0 2) k9) ?_
  refine qy2 (fun _ _ => z_ifneB 18 d_X11_works_13 (by decide)) (fun hc2 => ?_) (fun hc2 => absurd hc2 (by omega))
  refine qy (fun _ _ k9 => z_aload_n d_X11_works_18 rfl rfl k9) ?_
  refine qy (fun _ _ k9 => z_getf (v := qR 172) d_X11_works_19 fl_X11_40 (xput_ob (c := (F 2)) xi_2 rfl (xsh_11 xo_2)) rfl k9) ?_
  refine qy (fun _ _ k9 => z_aload_n d_X11_works_22 rfl rfl k9) ?_
  refine qy (fun _ _ k9 => z_getf (v := qR 3) d_X11_works_23 fl_X11_12 (xput_ob (c := (F 2)) xi_2 rfl (xsh_11 xo_2)) rfl k9) ?_
  refine qy (fun _ _ k9 => z_getf (v := qR 4) d_X11_works_26 fl_X11_144 (xput_ob (c := (F 3)) xi_3 rfl (xsh_8 xo_3)) rfl k9) ?_
  refine qy (fun _ _ k9 => z_getf (v := qR 6) d_X11_works_29 fl_X11_243 (xput_ob (c := (F 4)) xi_4 rfl (xsh_0 xo_4)) rfl k9) ?_
  refine qy (fun _ _ k9 => z_iload_n d_X11_works_32 rfl rfl k9) ?_
  obtain ⟨F1, G1, ⟨hv1, hq1⟩, hx1⟩ := xc_firstBad (h := h) (F := F) (G := G) (d := 6) (to := to) (T := T) xa_6 (by decide) (by omega) hT hB
  refine qy (fun _ _ k9 => z_cv (M1 := M_X9_firstBad) d_X11_works_33 lv_X11_311 k_X9_firstBad [qR 6, qI (to : Int)] rfl rfl (xput_ob (c := (F 172)) xi_172 rfl (xsh_9 xo_172)) ⟨_, _, rfl⟩ (Nat.le_of_ble_eq_true rfl) (by decide) (by decide) (Nat.le_of_ble_eq_true rfl) hx1 k9) ?_
  refine qy (fun _ _ k9 => z_istore_n (ls' := [qR 2, qI (to : Int), qI 2, qI (fbR T to)]) d_X11_works_36 rfl (by decide) rfl k9) ?_
  refine qy (fun _ _ k9 => z_iload_n d_X11_works_37 rfl rfl k9) ?_
  refine qy (fun _ _ k9 => z_iconst d_X11_works_38 (by decide) k9) ?_
  refine qy2 (fun _ _ => z_icmp_eq 46 d_X11_works_39 (by decide)) (fun hc3 => ?_) (fun hc3 => absurd hc3 (by omega))
  refine qy (fun _ _ k9 => z_iload_n d_X11_works_46 rfl rfl k9) ?_
  exact y_ret (hQ F1 G1 hv1) (z_iret d_X11_works_47 rfl (qsi hg.symm) rfl)
set_option maxRecDepth 20000 in
set_option maxHeartbeats 4000000 in
theorem xc_works2 {h : qH} {F G : Nat → Nat → Int} {to : Nat} {T : Nat → Int} (ht : 1 ≤ to ∧ to ≤ 24) (hbad : fbR T to ≠ -1) (hT : ∀ c, c < 648 → G 6 c = T c) (hB : ∀ c, c < 648 → 0 ≤ T c ∧ T c ≤ 7) : ∃ F' G', (xfr 173 176 F G F' G') ∧ qEx M_X11_works 0 [qR 2, qI (to : Int), qI 2, qU] [] (xput h F G) (some (qI (fst (fun k => ¬ (rnE T (fbN T to) 0 0) k = 7) (fbN T to)))) (xput h F' G') := by
  refine x_in (fun Q hQ => ?_)
  have hN9 := fbR_N hbad
  refine qy (fun _ _ k9 => z_iload_n d_X11_works_0 rfl rfl k9) ?_
  refine qy (fun _ _ k9 => z_cs (M1 := M_X11_isLength) d_X11_works_1 ls_X11_308 k_X11_isLength [qI (to : Int)] rfl rfl (Nat.le_of_ble_eq_true rfl) (by decide) (by decide) (Nat.le_of_ble_eq_true rfl) (c_isLength (to : Int)) k9) ?_
  refine qy2n (fun _ _ => z_ifeqB 16 d_X11_works_4 (by decide)) (fun hc1 => absurd hc1 (by omega)) (fun hc1 => ?_)
  refine qy (fun _ _ k9 => z_iload_n d_X11_works_7 rfl rfl k9) ?_
  refine qy (fun _ _ k9 => z_iconst d_X11_works_8 (by decide) k9) ?_
  refine qy (fun _ _ k9 => z_iconst d_X11_works_9 (by decide) k9) ?_
  refine qy (fun _ _ k9 => z_cs (M1 := M_X11_isWithin) d_X11_works_10 ls_X11_62 k_X11_isWithin [qI 2, qI 0, qI 2] rfl rfl (Nat.le_of_ble_eq_true rfl) (by decide) (by decide) (Nat.le_of_ble_eq_true rfl) (c_isWithin 2 0 2) k9) ?_
  refine qy2 (fun _ _ => z_ifneB 18 d_X11_works_13 (by decide)) (fun hc2 => ?_) (fun hc2 => absurd hc2 (by omega))
  refine qy (fun _ _ k9 => z_aload_n d_X11_works_18 rfl rfl k9) ?_
  refine qy (fun _ _ k9 => z_getf (v := qR 172) d_X11_works_19 fl_X11_40 (xput_ob (c := (F 2)) xi_2 rfl (xsh_11 xo_2)) rfl k9) ?_
  refine qy (fun _ _ k9 => z_aload_n d_X11_works_22 rfl rfl k9) ?_
  refine qy (fun _ _ k9 => z_getf (v := qR 3) d_X11_works_23 fl_X11_12 (xput_ob (c := (F 2)) xi_2 rfl (xsh_11 xo_2)) rfl k9) ?_
  refine qy (fun _ _ k9 => z_getf (v := qR 4) d_X11_works_26 fl_X11_144 (xput_ob (c := (F 3)) xi_3 rfl (xsh_8 xo_3)) rfl k9) ?_
  refine qy (fun _ _ k9 => z_getf (v := qR 6) d_X11_works_29 fl_X11_243 (xput_ob (c := (F 4)) xi_4 rfl (xsh_0 xo_4)) rfl k9) ?_
  refine qy (fun _ _ k9 => z_iload_n d_X11_works_32 rfl rfl k9) ?_
  obtain ⟨F1, G1, ⟨hv1, hq1⟩, hx1⟩ := xc_firstBad (h := h) (F := F) (G := G) (d := 6) (to := to) (T := T) xa_6 (by decide) (by omega) hT hB
  refine qy (fun _ _ k9 => z_cv (M1 := M_X9_firstBad) d_X11_works_33 lv_X11_311 k_X9_firstBad [qR 6, qI (to : Int)] rfl rfl (xput_ob (c := (F 172)) xi_172 rfl (xsh_9 xo_172)) ⟨_, _, rfl⟩ (Nat.le_of_ble_eq_true rfl) (by decide) (by decide) (Nat.le_of_ble_eq_true rfl) hx1 k9) ?_
  refine qy (fun _ _ k9 => z_istore_n (ls' := [qR 2, qI (to : Int), qI 2, qI (fbR T to)]) d_X11_works_36 rfl (by decide) rfl k9) ?_
  refine qy (fun _ _ k9 => z_iload_n d_X11_works_37 rfl rfl k9) ?_
  refine qy (fun _ _ k9 => z_iconst d_X11_works_38 (by decide) k9) ?_
  refine qy2 (fun _ _ => z_icmp_eq 46 d_X11_works_39 (by decide)) (fun hc3 => absurd hc3 (by omega)) (fun hc3 => ?_)
  refine qy (fun _ _ k9 => z_iload_n d_X11_works_42 rfl rfl k9) ?_
  refine qy2 (fun _ _ => z_if_ne 48 d_X11_works_43 (by decide)) (fun hc4 => ?_) (fun hc4 => absurd (by decide) hc4)
  refine qy (fun _ _ k9 => z_aload_n d_X11_works_48 rfl rfl k9) ?_
  refine qy (fun _ _ k9 => z_getf (v := qR 172) d_X11_works_49 fl_X11_40 (xput_ob (c := (F1 2)) xi_2 rfl (xsh_11 xo_2)) rfl k9) ?_
  refine qy (fun _ _ k9 => z_getf (v := qR 173) d_X11_works_52 fl_X11_293 (xput_ob (c := (F1 172)) xi_172 rfl (xsh_9 xo_172)) rfl k9) ?_
  refine qy (fun _ _ k9 => z_iload_n d_X11_works_55 rfl rfl k9) ?_
  refine qy (fun _ _ k9 => z_iconst d_X11_works_56 (by decide) k9) ?_
  refine qy2 (fun _ _ => z_icmp_ne 64 d_X11_works_57 (by decide)) (fun hc5 => ?_) (fun hc5 => absurd (by decide) hc5)
  refine qy (fun _ _ k9 => z_iconst d_X11_works_64 (by decide) k9) ?_
  obtain ⟨t9, ch9, hw9, he9⟩ := hq1 hbad
  refine qy (fun _ _ k9 => z_cv (M1 := M_X7_outcome) d_X11_works_65 lv_X11_288 k_X7_outcome [qI 2] rfl rfl (xput_ob (c := (F1 173)) xi_173 rfl (xsh_7 xo_173)) ⟨_, _, rfl⟩ (Nat.le_of_ble_eq_true rfl) (by decide) (by decide) (Nat.le_of_ble_eq_true rfl) (c_rnOut2 (by decide) xo_173 (by omega) hw9) k9) ?_
  exact y_ret (hQ F1 G1 hv1) (z_iret d_X11_works_68 rfl rfl rfl)
