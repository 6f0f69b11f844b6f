/-! ===== CONTRACTS: BeaconWall: keeps, mends, more, enough, mixed, before, round, rules, used ===== -/
theorem dcP_cg {A A' D D' : Nat → Int} {q : Int} (h1 : ∀ c, c < 567 → A c = A' c) (h2 : ∀ c, c < 567 → D c = D' c) : dcP A D q ↔ dcP A' D' q := by
  constructor
  · rintro ⟨c, hc, ha, hd⟩
    exact ⟨c, hc, by rw [← h1 c hc]; exact ha, by rw [← h2 c hc]; exact hd⟩
  · rintro ⟨c, hc, ha, hd⟩
    exact ⟨c, hc, by rw [h1 c hc]; exact ha, by rw [h2 c hc]; exact hd⟩
theorem umP_cg {T S : Nat → Int} (h : ∀ c, c < 648 → T c = S c) : cnt (umP T) 648 = cnt (umP S) 648 := by
  refine cnt_congr (fun c hc => ?_)
  unfold umP
  rw [h c hc, h (mir c) (by unfold mir; omega)]
set_option maxRecDepth 20000 in
set_option maxHeartbeats 4000000 in
theorem xc_keeps {h : qH} {F G : Nat → Nat → Int} {R C : Nat → Int} (hR : bkR F G 4 R C) : ∃ F' G', (xfr 28 51 F G F' G' ∧ bkR F' G' 28 R C ∧ (∀ j, j < 648 → G' 30 j = G 6 j) ∧ ∀ j, j < 648 → G' 31 j = G 7 j) ∧ qEx M_X11_keeps 0 [qR 2] [] (xput h F G) (some (qI (sm C 4))) (xput h F' G') := by
  refine x_in (fun Q hQ => ?_)
  refine qy (fun _ _ k9 => z_aload_n d_X11_keeps_0 rfl rfl k9) ?_
  refine qy (fun _ _ k9 => z_getf (v := qR 3) d_X11_keeps_1 fl_X11_12 (xput_ob (c := (F 2)) xi_2 rfl (xsh_11 xo_2)) rfl k9) ?_
  refine qy (fun _ _ k9 => z_getf (v := qR 28) d_X11_keeps_4 fl_X11_181 (xput_ob (c := (F 3)) xi_3 rfl (xsh_8 xo_3)) rfl k9) ?_
  refine qy (fun _ _ k9 => z_aload_n d_X11_keeps_7 rfl rfl k9) ?_
  refine qy (fun _ _ k9 => z_getf (v := qR 3) d_X11_keeps_8 fl_X11_12 (xput_ob (c := (F 2)) xi_2 rfl (xsh_11 xo_2)) rfl k9) ?_
  refine qy (fun _ _ k9 => z_getf (v := qR 4) d_X11_keeps_11 fl_X11_144 (xput_ob (c := (F 3)) xi_3 rfl (xsh_8 xo_3)) rfl k9) ?_
  obtain ⟨F1, G1, ⟨hv1, hw1, hp1, hq1⟩, hx1⟩ := c_bkCopy (h := h) (F := F) (G := G) (b := 28) (c := 4) (R := R) (C := C) (by decide) xo_28 (by decide) xo_4 (by decide) hR
  refine qy (fun _ _ k9 => z_cv0 (M1 := M_X0_copyFrom) d_X11_keeps_14 lv_X11_249 k_X0_copyFrom [qR 4] rfl rfl (xput_ob (c := (F 28)) xi_28 rfl (xsh_0 xo_28)) ⟨_, _, rfl⟩ (Nat.le_of_ble_eq_true rfl) (by decide) (by decide) (Nat.le_of_ble_eq_true rfl) hx1 k9) ?_
  refine qy (fun _ _ k9 => z_aload_n d_X11_keeps_17 rfl rfl k9) ?_
  refine qy (fun _ _ k9 => z_getf (v := qR 3) d_X11_keeps_18 fl_X11_12 (xput_ob (c := (F1 2)) xi_2 rfl (xsh_11 xo_2)) rfl k9) ?_
  refine qy (fun _ _ k9 => z_getf (v := qR 28) d_X11_keeps_21 fl_X11_181 (xput_ob (c := (F1 3)) xi_3 rfl (xsh_8 xo_3)) rfl k9) ?_
  refine qy (fun _ _ k9 => z_cv (M1 := M_X0_ruleCount) d_X11_keeps_24 lv_X11_184 k_X0_ruleCount [] rfl rfl (xput_ob (c := (F1 28)) xi_28 rfl (xsh_0 xo_28)) ⟨_, _, rfl⟩ (Nat.le_of_ble_eq_true rfl) (by decide) (by decide) (Nat.le_of_ble_eq_true rfl) (c_bkCount (b := 28) (by decide) xo_28 hw1) k9) ?_
  exact y_ret (hQ F1 G1 (⟨hv1, hw1, hp1, hq1⟩)) (z_iret d_X11_keeps_27 rfl rfl rfl)
set_option maxRecDepth 20000 in
set_option maxHeartbeats 4000000 in
theorem xc_worn_no {h : qH} {F G : Nat → Nat → Int} {R C : Nat → Int} (i to : Int) (hR : bkR F G 4 R C) (hno : ¬ ((0 ≤ i ∧ i ≤ 95 ∧ i % 24 < C (i.toNat / 24)) ∧ 1 ≤ to ∧ to ≤ 24)) : qEx M_X11_worn 0 [qR 2, qI i, qI to] [] (xput h F G) (some (qI (-1))) (xput h F G) := by
  refine q_gen (fun r hr er eh => ?_)
  refine z_aload_n d_X11_worn_0 rfl rfl ?_
  refine z_getf (v := qR 3) d_X11_worn_1 fl_X11_12 (xput_ob (c := (F 2)) xi_2 rfl (xsh_11 xo_2)) rfl ?_
  refine z_getf (v := qR 4) d_X11_worn_4 fl_X11_144 (xput_ob (c := (F 3)) xi_3 rfl (xsh_8 xo_3)) rfl ?_
  refine z_iload_n d_X11_worn_7 rfl rfl ?_
  refine z_cv (M1 := M_X0_has) d_X11_worn_8 lv_X11_362 k_X0_has [qI i] rfl rfl (xput_ob (c := (F 4)) xi_4 rfl (xsh_0 xo_4)) ⟨_, _, rfl⟩ (Nat.le_of_ble_eq_true rfl) (by decide) (by decide) (Nat.le_of_ble_eq_true rfl) (c_bkHasI (b := 4) i (by decide) xo_4 hR) ?_
  refine z_ifeqB 21 d_X11_worn_11 (by decide) (fun q11 => ?_) (fun q11 => ?_)
  · refine z_iconst d_X11_worn_21 (by decide) ?_
    exact z_iret d_X11_worn_22 rfl er eh
  · refine z_iload_n d_X11_worn_14 rfl rfl ?_
    refine z_cs (M1 := M_X11_isLength) d_X11_worn_15 ls_X11_308 k_X11_isLength [qI to] rfl rfl (Nat.le_of_ble_eq_true rfl) (by decide) (by decide) (Nat.le_of_ble_eq_true rfl) (c_isLength to) ?_
    refine z_ifneB 23 d_X11_worn_18 (by decide) (fun q18 => ?_) (fun q18 => ?_)
    · exact absurd ⟨q11, q18⟩ hno
    · refine z_iconst d_X11_worn_21 (by decide) ?_
      exact z_iret d_X11_worn_22 rfl er eh
set_option maxRecDepth 20000 in
set_option maxHeartbeats 4000000 in
theorem xc_mends_no {h : qH} {F G : Nat → Nat → Int} {R C : Nat → Int} (i to : Int) (hR : bkR F G 4 R C) (hno : ¬ ((0 ≤ i ∧ i ≤ 95 ∧ i % 24 < C (i.toNat / 24)) ∧ 1 ≤ to ∧ to ≤ 24)) : qEx M_X11_mends 0 [qR 2, qI i, qI to] [] (xput h F G) (some (qI (-1))) (xput h F G) := by
  refine q_gen (fun r hr er eh => ?_)
  refine z_aload_n d_X11_mends_0 rfl rfl ?_
  refine z_getf (v := qR 3) d_X11_mends_1 fl_X11_12 (xput_ob (c := (F 2)) xi_2 rfl (xsh_11 xo_2)) rfl ?_
  refine z_getf (v := qR 4) d_X11_mends_4 fl_X11_144 (xput_ob (c := (F 3)) xi_3 rfl (xsh_8 xo_3)) rfl ?_
  refine z_iload_n d_X11_mends_7 rfl rfl ?_
  refine z_cv (M1 := M_X0_has) d_X11_mends_8 lv_X11_362 k_X0_has [qI i] rfl rfl (xput_ob (c := (F 4)) xi_4 rfl (xsh_0 xo_4)) ⟨_, _, rfl⟩ (Nat.le_of_ble_eq_true rfl) (by decide) (by decide) (Nat.le_of_ble_eq_true rfl) (c_bkHasI (b := 4) i (by decide) xo_4 hR) ?_
  refine z_ifeqB 21 d_X11_mends_11 (by decide) (fun q11 => ?_) (fun q11 => ?_)
  · refine z_iconst d_X11_mends_21 (by decide) ?_
    exact z_iret d_X11_mends_22 rfl er eh
  · refine z_iload_n d_X11_mends_14 rfl rfl ?_
    refine z_cs (M1 := M_X11_isLength) d_X11_mends_15 ls_X11_308 k_X11_isLength [qI to] rfl rfl (Nat.le_of_ble_eq_true rfl) (by decide) (by decide) (Nat.le_of_ble_eq_true rfl) (c_isLength to) ?_
    refine z_ifneB 23 d_X11_mends_18 (by decide) (fun q18 => ?_) (fun q18 => ?_)
    · exact absurd ⟨q11, q18⟩ hno
    · refine z_iconst d_X11_mends_21 (by decide) ?_
      exact z_iret d_X11_mends_22 rfl er eh
set_option maxRecDepth 20000 in
set_option maxHeartbeats 4000000 in
theorem xc_mends {h : qH} {F G : Nat → Nat → Int} {i to : Nat} {R C : Nat → Int} (ht : 1 ≤ to ∧ to ≤ 24) (hR : bkR F G 4 R C) (hO : bkOk R C) (hS7 : ∀ c, 567 ≤ c → c < 648 → G 6 c = 7 ∧ G 7 c = -1) (hi : i < 96) (hi2 : ((i % 24 : Nat) : Int) < C (i / 24)) (hrl : rlP C i) : ∃ F' G', (xfr 172 205 F G F' G' ∧ thi G') ∧ qEx M_X11_mends 0 [qR 2, qI (i : Int), qI (to : Int)] [] (xput h F G) (some (qI (bst (fun k : Nat => k < 9 ∧ fbR (bkTc (qup R (4 * i + 3) (k : Int)) C 15 (-1) (-1) 0) to = -1)))) (xput h F' G') := by
  refine x_in (fun Q hQ => ?_)
  refine qy (fun _ _ k9 => z_aload_n d_X11_mends_0 rfl rfl k9) ?_
  refine qy (fun _ _ k9 => z_getf (v := qR 3) d_X11_mends_1 fl_X11_12 (xput_ob (c := (F 2)) xi_2 rfl (xsh_11 xo_2)) rfl k9) ?_
  refine qy (fun _ _ k9 => z_getf (v := qR 4) d_X11_mends_4 fl_X11_144 (xput_ob (c := (F 3)) xi_3 rfl (xsh_8 xo_3)) rfl k9) ?_
  refine qy (fun _ _ k9 => z_iload_n d_X11_mends_7 rfl rfl k9) ?_
  refine qy (fun _ _ k9 => z_cv (M1 := M_X0_has) d_X11_mends_8 lv_X11_362 k_X0_has [qI (i : Int)] rfl rfl (xput_ob (c := (F 4)) xi_4 rfl (xsh_0 xo_4)) ⟨_, _, rfl⟩ (Nat.le_of_ble_eq_true rfl) (by decide) (by decide) (Nat.le_of_ble_eq_true rfl) (c_bkHas (b := 4) i (by decide) xo_4 hi hR) k9) ?_
  refine qy2n (fun _ _ => z_ifeqB 21 d_X11_mends_11 (by decide)) (fun hc1 => absurd hc1 (by exact not_not_intro hrl)) (fun hc1 => ?_)
  refine qy (fun _ _ k9 => z_iload_n d_X11_mends_14 rfl rfl k9) ?_
  refine qy (fun _ _ k9 => z_cs (M1 := M_X11_isLength) d_X11_mends_15 ls_X11_308 k_X11_isLength [qI (to : Int)] rfl rfl (Nat.le_of_ble_eq_true rfl) (by decide) (by decide) (Nat.le_of_ble_eq_true rfl) (c_isLength (to : Int)) k9) ?_
  refine qy2 (fun _ _ => z_ifneB 23 d_X11_mends_18 (by decide)) (fun hc2 => ?_) (fun hc2 => absurd hc2 (by omega))
  refine qy (fun _ _ k9 => z_aload_n d_X11_mends_23 rfl rfl k9) ?_
  refine qy (fun _ _ k9 => z_getf (v := qR 172) d_X11_mends_24 fl_X11_40 (xput_ob (c := (F 2)) xi_2 rfl (xsh_11 xo_2)) rfl k9) ?_
  refine qy (fun _ _ k9 => z_aload_n d_X11_mends_27 rfl rfl k9) ?_
  refine qy (fun _ _ k9 => z_getf (v := qR 3) d_X11_mends_28 fl_X11_12 (xput_ob (c := (F 2)) xi_2 rfl (xsh_11 xo_2)) rfl k9) ?_
  refine qy (fun _ _ k9 => z_getf (v := qR 4) d_X11_mends_31 fl_X11_144 (xput_ob (c := (F 3)) xi_3 rfl (xsh_8 xo_3)) rfl k9) ?_
  refine qy (fun _ _ k9 => z_iload_n d_X11_mends_34 rfl rfl k9) ?_
  refine qy (fun _ _ k9 => z_iload_n d_X11_mends_35 rfl rfl k9) ?_
  obtain ⟨F1, G1, ⟨hv1, hq1⟩, hx1⟩ := c_mendMinds (h := h) (F := F) (G := G) (b := 4) (to := to) (R := R) (C := C) i (by decide) xo_4 (by decide) (by omega) hR hO hS7 hi hi2
  refine qy (fun _ _ k9 => z_cv (M1 := M_X9_mendingMinds) d_X11_mends_36 lv_X11_367 k_X9_mendingMinds [qR 4, qI (i : Int), qI (to : Int)] rfl rfl (xput_ob (c := (F 172)) xi_172 rfl (xsh_9 xo_172)) ⟨_, _, rfl⟩ (Nat.le_of_ble_eq_true rfl) (by decide) (by decide) (Nat.le_of_ble_eq_true rfl) hx1 k9) ?_
  exact y_ret (hQ F1 G1 (⟨hv1, hq1⟩)) (z_iret d_X11_mends_39 rfl rfl rfl)
set_option maxRecDepth 20000 in
set_option maxHeartbeats 4000000 in
theorem xc_more0 {h : qH} {F G : Nat → Nat → Int} {to : Nat} {T : Nat → Int} {S0 : Nat → Prop} (ht : 1 ≤ to ∧ to ≤ 8) (hT : ∀ c, c < 648 → G 6 c = T c) (hB : ∀ c, c < 648 → 0 ≤ T c ∧ T c ≤ 7) (hT7 : ∀ c, 567 ≤ c → c < 648 → T c = 7) (hth : thi G) (h4 : F 172 4 = bst S0) : ∃ F' G', (xfr 172 205 F G F' G' ∧ thi G') ∧ qEx M_X11_more 0 [qR 2, qI (to : Int), qI 0] [] (xput h F G) (some (qI (cnt (moP T to) 4536))) (xput h F' G') := by
  refine x_in (fun Q hQ => ?_)
  refine qy (fun _ _ k9 => z_iload_n d_X11_more_0 rfl rfl k9) ?_
  refine qy (fun _ _ k9 => z_iconst d_X11_more_1 (by decide) k9) ?_
  refine qy (fun _ _ k9 => z_bipush d_X11_more_2 (by decide) k9) ?_
  refine qy (fun _ _ k9 => z_cs (M1 := M_X11_isWithin) d_X11_more_4 ls_X11_62 k_X11_isWithin [qI (to : Int), qI 1, qI 8] rfl rfl (Nat.le_of_ble_eq_true rfl) (by decide) (by decide) (Nat.le_of_ble_eq_true rfl) (c_isWithin (to : Int) 1 8) k9) ?_
  refine qy2n (fun _ _ => z_ifeqB 19 d_X11_more_7 (by decide)) (fun hc1 => absurd hc1 (by omega)) (fun hc1 => ?_)
  refine qy (fun _ _ k9 => z_iload_n d_X11_more_10 rfl rfl k9) ?_
  refine qy (fun _ _ k9 => z_iconst d_X11_more_11 (by decide) k9) ?_
  refine qy (fun _ _ k9 => z_iconst d_X11_more_12 (by decide) k9) ?_
  refine qy (fun _ _ k9 => z_cs (M1 := M_X11_isWithin) d_X11_more_13 ls_X11_62 k_X11_isWithin [qI 0, qI 0, qI 1] rfl rfl (Nat.le_of_ble_eq_true rfl) (by decide) (by decide) (Nat.le_of_ble_eq_true rfl) (c_isWithin 0 0 1) k9) ?_
  refine qy2 (fun _ _ => z_ifneB 21 d_X11_more_16 (by decide)) (fun hc2 => ?_) (fun hc2 => absurd hc2 (by omega))
  refine qy (fun _ _ k9 => z_aload_n d_X11_more_21 rfl rfl k9) ?_
  refine qy (fun _ _ k9 => z_getf (v := qR 172) d_X11_more_22 fl_X11_40 (xput_ob (c := (F 2)) xi_2 rfl (xsh_11 xo_2)) rfl k9) ?_
  refine qy (fun _ _ k9 => z_aload_n d_X11_more_25 rfl rfl k9) ?_
  refine qy (fun _ _ k9 => z_getf (v := qR 3) d_X11_more_26 fl_X11_12 (xput_ob (c := (F 2)) xi_2 rfl (xsh_11 xo_2)) rfl k9) ?_
  refine qy (fun _ _ k9 => z_getf (v := qR 4) d_X11_more_29 fl_X11_144 (xput_ob (c := (F 3)) xi_3 rfl (xsh_8 xo_3)) rfl k9) ?_
  refine qy (fun _ _ k9 => z_iload_n d_X11_more_32 rfl rfl k9) ?_
  obtain ⟨F1, G1, ⟨hv1, hq1, h51, h61, hs1⟩, hx1⟩ := c_tryMore (h := h) (F := F) (G := G) (b := 4) (to := to) (T := T) (S0 := S0) (by decide) xo_4 (by decide) (by omega) hT hB hT7 hth h4
  refine qy (fun _ _ k9 => z_cv0 (M1 := M_X9_tryOneRuleMore) d_X11_more_33 lv_X11_370 k_X9_tryOneRuleMore [qR 4, qI (to : Int)] rfl rfl (xput_ob (c := (F 172)) xi_172 rfl (xsh_9 xo_172)) ⟨_, _, rfl⟩ (Nat.le_of_ble_eq_true rfl) (by decide) (by decide) (Nat.le_of_ble_eq_true rfl) hx1 k9) ?_
  refine qy (fun _ _ k9 => z_iload_n d_X11_more_36 rfl rfl k9) ?_
  refine qy2 (fun _ _ => z_if_ne 50 d_X11_more_37 (by decide)) (fun hc3 => absurd hc3 (by decide)) (fun hc3 => ?_)
  refine qy (fun _ _ k9 => z_aload_n d_X11_more_40 rfl rfl k9) ?_
  refine qy (fun _ _ k9 => z_getf (v := qR 172) d_X11_more_41 fl_X11_40 (xput_ob (c := (F1 2)) xi_2 rfl (xsh_11 xo_2)) rfl k9) ?_
  refine qy (fun _ _ k9 => z_getf (v := qI ((F1 172) 5)) d_X11_more_44 fl_X11_374 (xput_ob (c := (F1 172)) xi_172 rfl (xsh_9 xo_172)) rfl k9) ?_
  refine qy (fun _ _ k9 => z_goto 57 d_X11_more_47 (by decide) k9) ?_
  exact y_ret (hQ F1 G1 (⟨hv1, hq1⟩)) (z_iret d_X11_more_57 rfl (qsi h51.symm) rfl)
set_option maxRecDepth 20000 in
set_option maxHeartbeats 4000000 in
theorem xc_more1 {h : qH} {F G : Nat → Nat → Int} {to : Nat} {T : Nat → Int} {S0 : Nat → Prop} (ht : 1 ≤ to ∧ to ≤ 8) (hT : ∀ c, c < 648 → G 6 c = T c) (hB : ∀ c, c < 648 → 0 ≤ T c ∧ T c ≤ 7) (hT7 : ∀ c, 567 ≤ c → c < 648 → T c = 7) (hth : thi G) (h4 : F 172 4 = bst S0) : ∃ F' G', (xfr 172 205 F G F' G' ∧ thi G') ∧ qEx M_X11_more 0 [qR 2, qI (to : Int), qI 1] [] (xput h F G) (some (qI (moF T to 4536))) (xput h F' G') := by
  refine x_in (fun Q hQ => ?_)
  refine qy (fun _ _ k9 => z_iload_n d_X11_more_0 rfl rfl k9) ?_
  refine qy (fun _ _ k9 => z_iconst d_X11_more_1 (by decide) k9) ?_
  refine qy (fun _ _ k9 => z_bipush d_X11_more_2 (by decide) k9) ?_
  refine qy (fun _ _ k9 => z_cs (M1 := M_X11_isWithin) d_X11_more_4 ls_X11_62 k_X11_isWithin [qI (to : Int), qI 1, qI 8] rfl rfl (Nat.le_of_ble_eq_true rfl) (by decide) (by decide) (Nat.le_of_ble_eq_true rfl) (c_isWithin (to : Int) 1 8) k9) ?_
  refine qy2n (fun _ _ => z_ifeqB 19 d_X11_more_7 (by decide)) (fun hc1 => absurd hc1 (by omega)) (fun hc1 => ?_)
  refine qy (fun _ _ k9 => z_iload_n d_X11_more_10 rfl rfl k9) ?_
  refine qy (fun _ _ k9 => z_iconst d_X11_more_11 (by decide) k9) ?_
  refine qy (fun _ _ k9 => z_iconst d_X11_more_12 (by decide) k9) ?_
  refine qy (fun _ _ k9 => z_cs (M1 := M_X11_isWithin) d_X11_more_13 ls_X11_62 k_X11_isWithin [qI 1, qI 0, qI 1] rfl rfl (Nat.le_of_ble_eq_true rfl) (by decide) (by decide) (Nat.le_of_ble_eq_true rfl) (c_isWithin 1 0 1) k9) ?_
  refine qy2 (fun _ _ => z_ifneB 21 d_X11_more_16 (by decide)) (fun hc2 => ?_) (fun hc2 => absurd hc2 (by omega))
  refine qy (fun _ _ k9 => z_aload_n d_X11_more_21 rfl rfl k9) ?_
  refine qy (fun _ _ k9 => z_getf (v := qR 172) d_X11_more_22 fl_X11_40 (xput_ob (c := (F 2)) xi_2 rfl (xsh_11 xo_2)) rfl k9) ?_
  refine qy (fun _ _ k9 => z_aload_n d_X11_more_25 rfl rfl k9) ?_
  refine qy (fun _ _ k9 => z_getf (v := qR 3) d_X11_more_26 fl_X11_12 (xput_ob (c := (F 2)) xi_2 rfl (xsh_11 xo_2)) rfl k9) ?_
  refine qy (fun _ _ k9 => z_getf (v := qR 4) d_X11_more_29 fl_X11_144 (xput_ob (c := (F 3)) xi_3 rfl (xsh_8 xo_3)) rfl k9) ?_
  refine qy (fun _ _ k9 => z_iload_n d_X11_more_32 rfl rfl k9) ?_
  obtain ⟨F1, G1, ⟨hv1, hq1, h51, h61, hs1⟩, hx1⟩ := c_tryMore (h := h) (F := F) (G := G) (b := 4) (to := to) (T := T) (S0 := S0) (by decide) xo_4 (by decide) (by omega) hT hB hT7 hth h4
  refine qy (fun _ _ k9 => z_cv0 (M1 := M_X9_tryOneRuleMore) d_X11_more_33 lv_X11_370 k_X9_tryOneRuleMore [qR 4, qI (to : Int)] rfl rfl (xput_ob (c := (F 172)) xi_172 rfl (xsh_9 xo_172)) ⟨_, _, rfl⟩ (Nat.le_of_ble_eq_true rfl) (by decide) (by decide) (Nat.le_of_ble_eq_true rfl) hx1 k9) ?_
  refine qy (fun _ _ k9 => z_iload_n d_X11_more_36 rfl rfl k9) ?_
  refine qy2 (fun _ _ => z_if_ne 50 d_X11_more_37 (by decide)) (fun hc3 => ?_) (fun hc3 => absurd (by decide) hc3)
  refine qy (fun _ _ k9 => z_aload_n d_X11_more_50 rfl rfl k9) ?_
  refine qy (fun _ _ k9 => z_getf (v := qR 172) d_X11_more_51 fl_X11_40 (xput_ob (c := (F1 2)) xi_2 rfl (xsh_11 xo_2)) rfl k9) ?_
  refine qy (fun _ _ k9 => z_getf (v := qI ((F1 172) 6)) d_X11_more_54 fl_X11_377 (xput_ob (c := (F1 172)) xi_172 rfl (xsh_9 xo_172)) rfl k9) ?_
  exact y_ret (hQ F1 G1 (⟨hv1, hq1⟩)) (z_iret d_X11_more_57 rfl (qsi h61.symm) rfl)
set_option maxRecDepth 20000 in
set_option maxHeartbeats 4000000 in
theorem xc_more_no {h : qH} {F G : Nat → Nat → Int} (to what : Int) (hno : ¬ ((1 ≤ to ∧ to ≤ 8) ∧ 0 ≤ what ∧ what ≤ 1)) : qEx M_X11_more 0 [qR 2, qI to, qI what] [] (xput h F G) (some (qI (-1))) (xput h F G) := by
  refine q_gen (fun r hr er eh => ?_)
  refine z_iload_n d_X11_more_0 rfl rfl ?_
  refine z_iconst d_X11_more_1 (by decide) ?_
  refine z_bipush d_X11_more_2 (by decide) ?_
  refine z_cs (M1 := M_X11_isWithin) d_X11_more_4 ls_X11_62 k_X11_isWithin [qI to, qI 1, qI 8] rfl rfl (Nat.le_of_ble_eq_true rfl) (by decide) (by decide) (Nat.le_of_ble_eq_true rfl) (c_isWithin to 1 8) ?_
  refine z_ifeqB 19 d_X11_more_7 (by decide) (fun q7 => ?_) (fun q7 => ?_)
  · refine z_iconst d_X11_more_19 (by decide) ?_
    exact z_iret d_X11_more_20 rfl er eh
  · refine z_iload_n d_X11_more_10 rfl rfl ?_
    refine z_iconst d_X11_more_11 (by decide) ?_
    refine z_iconst d_X11_more_12 (by decide) ?_
    refine z_cs (M1 := M_X11_isWithin) d_X11_more_13 ls_X11_62 k_X11_isWithin [qI what, qI 0, qI 1] rfl rfl (Nat.le_of_ble_eq_true rfl) (by decide) (by decide) (Nat.le_of_ble_eq_true rfl) (c_isWithin what 0 1) ?_
    refine z_ifneB 21 d_X11_more_16 (by decide) (fun q16 => ?_) (fun q16 => ?_)
    · exact absurd ⟨q7, q16⟩ hno
    · refine z_iconst d_X11_more_19 (by decide) ?_
      exact z_iret d_X11_more_20 rfl er eh
set_option maxRecDepth 20000 in
set_option maxHeartbeats 4000000 in
theorem xc_enough {h : qH} {F G : Nat → Nat → Int} {to : Nat} {R C : Nat → Int} (ht : 1 ≤ to ∧ to ≤ 24) (hR : bkR F G 4 R C) (hO : bkOk R C) (hth : thi G) : ∃ F' G', (xfr 172 205 F G F' G' ∧ thi G') ∧ qEx M_X11_enough 0 [qR 2, qI (to : Int)] [] (xput h F G) (some (qI (enC R C to 16))) (xput h F' G') := by
  refine x_in (fun Q hQ => ?_)
  refine qy (fun _ _ k9 => z_iload_n d_X11_enough_0 rfl rfl k9) ?_
  refine qy (fun _ _ k9 => z_cs (M1 := M_X11_isLength) d_X11_enough_1 ls_X11_308 k_X11_isLength [qI (to : Int)] rfl rfl (Nat.le_of_ble_eq_true rfl) (by decide) (by decide) (Nat.le_of_ble_eq_true rfl) (c_isLength (to : Int)) k9) ?_
  refine qy2n (fun _ _ => z_ifeqB 25 d_X11_enough_4 (by decide)) (fun hc1 => absurd hc1 (by omega)) (fun hc1 => ?_)
  refine qy (fun _ _ k9 => z_aload_n d_X11_enough_7 rfl rfl k9) ?_
  refine qy (fun _ _ k9 => z_getf (v := qR 172) d_X11_enough_8 fl_X11_40 (xput_ob (c := (F 2)) xi_2 rfl (xsh_11 xo_2)) rfl k9) ?_
  refine qy (fun _ _ k9 => z_aload_n d_X11_enough_11 rfl rfl k9) ?_
  refine qy (fun _ _ k9 => z_getf (v := qR 3) d_X11_enough_12 fl_X11_12 (xput_ob (c := (F 2)) xi_2 rfl (xsh_11 xo_2)) rfl k9) ?_
  refine qy (fun _ _ k9 => z_getf (v := qR 4) d_X11_enough_15 fl_X11_144 (xput_ob (c := (F 3)) xi_3 rfl (xsh_8 xo_3)) rfl k9) ?_
  refine qy (fun _ _ k9 => z_iload_n d_X11_enough_18 rfl rfl k9) ?_
  obtain ⟨F1, G1, ⟨hv1, hq1⟩, hx1⟩ := c_fewest (h := h) (F := F) (G := G) (b := 4) (to := to) (R := R) (C := C) (by decide) xo_4 (by decide) (by omega) hR hO hth
  refine qy (fun _ _ k9 => z_cv (M1 := M_X9_fewestPages) d_X11_enough_19 lv_X11_384 k_X9_fewestPages [qR 4, qI (to : Int)] rfl rfl (xput_ob (c := (F 172)) xi_172 rfl (xsh_9 xo_172)) ⟨_, _, rfl⟩ (Nat.le_of_ble_eq_true rfl) (by decide) (by decide) (Nat.le_of_ble_eq_true rfl) hx1 k9) ?_
  refine qy (fun _ _ k9 => z_goto 26 d_X11_enough_22 (by decide) k9) ?_
  exact y_ret (hQ F1 G1 (⟨hv1, hq1⟩)) (z_iret d_X11_enough_26 rfl rfl rfl)
set_option maxRecDepth 20000 in
set_option maxHeartbeats 4000000 in
theorem xc_enough_no {h : qH} {F G : Nat → Nat → Int} (to : Int) (hno : ¬ (1 ≤ to ∧ to ≤ 24)) : qEx M_X11_enough 0 [qR 2, qI to] [] (xput h F G) (some (qI (-1))) (xput h F G) := by
  refine q_gen (fun r hr er eh => ?_)
  refine z_iload_n d_X11_enough_0 rfl rfl ?_
  refine z_cs (M1 := M_X11_isLength) d_X11_enough_1 ls_X11_308 k_X11_isLength [qI to] rfl rfl (Nat.le_of_ble_eq_true rfl) (by decide) (by decide) (Nat.le_of_ble_eq_true rfl) (c_isLength to) ?_
  refine z_ifeqB 25 d_X11_enough_4 (by decide) (fun hc1 => ?_) (fun hc1 => absurd hc1 (by exact hno))
  refine z_iconst d_X11_enough_25 (by decide) ?_
  exact z_iret d_X11_enough_26 rfl er eh
set_option maxRecDepth 20000 in
set_option maxHeartbeats 4000000 in
theorem xc_mixed0 {h : qH} {F G : Nat → Nat → Int} {to : Nat} {R C R2 C2 : Nat → Int} (ht : 1 ≤ to ∧ to ≤ 24) (hR : bkR F G 4 R C) (hS : bkR F G 28 R2 C2) (hO : bkOk R C) (hO2 : bkOk R2 C2) (hth : thi G) : ∃ F' G', (xfr 172 205 F G F' G' ∧ thi G') ∧ qEx M_X11_mixed 0 [qR 2, qI (to : Int), qI 0] [] (xput h F G) (some (qI (cnt (fun q : Nat => fbR (bkTc (mxRR R R2 (q : Int)) (mxCC C C2 (q : Int)) 15 (-1) (-1) 0) to = -1) 16))) (xput h F' G') := by
  refine x_in (fun Q hQ => ?_)
  refine qy (fun _ _ k9 => z_iload_n d_X11_mixed_0 rfl rfl k9) ?_
  refine qy (fun _ _ k9 => z_cs (M1 := M_X11_isLength) d_X11_mixed_1 ls_X11_308 k_X11_isLength [qI (to : Int)] rfl rfl (Nat.le_of_ble_eq_true rfl) (by decide) (by decide) (Nat.le_of_ble_eq_true rfl) (c_isLength (to : Int)) k9) ?_
  refine qy2n (fun _ _ => z_ifeqB 16 d_X11_mixed_4 (by decide)) (fun hc1 => absurd hc1 (by omega)) (fun hc1 => ?_)
  refine qy (fun _ _ k9 => z_iload_n d_X11_mixed_7 rfl rfl k9) ?_
  refine qy (fun _ _ k9 => z_iconst d_X11_mixed_8 (by decide) k9) ?_
  refine qy (fun _ _ k9 => z_iconst d_X11_mixed_9 (by decide) k9) ?_
  refine qy (fun _ _ k9 => z_cs (M1 := M_X11_isWithin) d_X11_mixed_10 ls_X11_62 k_X11_isWithin [qI 0, qI 0, qI 1] rfl rfl (Nat.le_of_ble_eq_true rfl) (by decide) (by decide) (Nat.le_of_ble_eq_true rfl) (c_isWithin 0 0 1) k9) ?_
  refine qy2 (fun _ _ => z_ifneB 18 d_X11_mixed_13 (by decide)) (fun hc2 => ?_) (fun hc2 => absurd hc2 (by omega))
  refine qy (fun _ _ k9 => z_aload_n d_X11_mixed_18 rfl rfl k9) ?_
  refine qy (fun _ _ k9 => z_getf (v := qR 172) d_X11_mixed_19 fl_X11_40 (xput_ob (c := (F 2)) xi_2 rfl (xsh_11 xo_2)) rfl k9) ?_
  refine qy (fun _ _ k9 => z_aload_n d_X11_mixed_22 rfl rfl k9) ?_
  refine qy (fun _ _ k9 => z_getf (v := qR 3) d_X11_mixed_23 fl_X11_12 (xput_ob (c := (F 2)) xi_2 rfl (xsh_11 xo_2)) rfl k9) ?_
  refine qy (fun _ _ k9 => z_getf (v := qR 4) d_X11_mixed_26 fl_X11_144 (xput_ob (c := (F 3)) xi_3 rfl (xsh_8 xo_3)) rfl k9) ?_
  refine qy (fun _ _ k9 => z_aload_n d_X11_mixed_29 rfl rfl k9) ?_
  refine qy (fun _ _ k9 => z_getf (v := qR 3) d_X11_mixed_30 fl_X11_12 (xput_ob (c := (F 2)) xi_2 rfl (xsh_11 xo_2)) rfl k9) ?_
  refine qy (fun _ _ k9 => z_getf (v := qR 28) d_X11_mixed_33 fl_X11_181 (xput_ob (c := (F 3)) xi_3 rfl (xsh_8 xo_3)) rfl k9) ?_
  refine qy (fun _ _ k9 => z_iload_n d_X11_mixed_36 rfl rfl k9) ?_
  obtain ⟨F1, G1, ⟨hv1, hq1, h51, h61⟩, hx1⟩ := c_tryMixed (h := h) (F := F) (G := G) (b := 4) (c := 28) (to := to) (R := R) (C := C) (R2 := R2) (C2 := C2) (by decide) xo_4 (by decide) (by decide) xo_28 (by decide) (by omega) hR hS hO hO2 hth
  refine qy (fun _ _ k9 => z_cv0 (M1 := M_X9_tryMixedBooks) d_X11_mixed_37 lv_X11_388 k_X9_tryMixedBooks [qR 4, qR 28, qI (to : Int)] rfl rfl (xput_ob (c := (F 172)) xi_172 rfl (xsh_9 xo_172)) ⟨_, _, rfl⟩ (Nat.le_of_ble_eq_true rfl) (by decide) (by decide) (Nat.le_of_ble_eq_true rfl) hx1 k9) ?_
  refine qy (fun _ _ k9 => z_iload_n d_X11_mixed_40 rfl rfl k9) ?_
  refine qy2 (fun _ _ => z_if_ne 54 d_X11_mixed_41 (by decide)) (fun hc3 => absurd hc3 (by decide)) (fun hc3 => ?_)
  refine qy (fun _ _ k9 => z_aload_n d_X11_mixed_44 rfl rfl k9) ?_
  refine qy (fun _ _ k9 => z_getf (v := qR 172) d_X11_mixed_45 fl_X11_40 (xput_ob (c := (F1 2)) xi_2 rfl (xsh_11 xo_2)) rfl k9) ?_
  refine qy (fun _ _ k9 => z_getf (v := qI ((F1 172) 5)) d_X11_mixed_48 fl_X11_374 (xput_ob (c := (F1 172)) xi_172 rfl (xsh_9 xo_172)) rfl k9) ?_
  refine qy (fun _ _ k9 => z_goto 61 d_X11_mixed_51 (by decide) k9) ?_
  exact y_ret (hQ F1 G1 (⟨hv1, hq1⟩)) (z_iret d_X11_mixed_61 rfl (qsi h51.symm) rfl)
set_option maxRecDepth 20000 in
set_option maxHeartbeats 4000000 in
theorem xc_mixed1 {h : qH} {F G : Nat → Nat → Int} {to : Nat} {R C R2 C2 : Nat → Int} (ht : 1 ≤ to ∧ to ≤ 24) (hR : bkR F G 4 R C) (hS : bkR F G 28 R2 C2) (hO : bkOk R C) (hO2 : bkOk R2 C2) (hth : thi G) : ∃ F' G', (xfr 172 205 F G F' G' ∧ thi G') ∧ qEx M_X11_mixed 0 [qR 2, qI (to : Int), qI 1] [] (xput h F G) (some (qI (fst (fun q : Nat => fbR (bkTc (mxRR R R2 (q : Int)) (mxCC C C2 (q : Int)) 15 (-1) (-1) 0) to = -1) 16))) (xput h F' G') := by
  refine x_in (fun Q hQ => ?_)
  refine qy (fun _ _ k9 => z_iload_n d_X11_mixed_0 rfl rfl k9) ?_
  refine qy (fun _ _ k9 => z_cs (M1 := M_X11_isLength) d_X11_mixed_1 ls_X11_308 k_X11_isLength [qI (to : Int)] rfl rfl (Nat.le_of_ble_eq_true rfl) (by decide) (by decide) (Nat.le_of_ble_eq_true rfl) (c_isLength (to : Int)) k9) ?_
  refine qy2n (fun _ _ => z_ifeqB 16 d_X11_mixed_4 (by decide)) (fun hc1 => absurd hc1 (by omega)) (fun hc1 => ?_)
  refine qy (fun _ _ k9 => z_iload_n d_X11_mixed_7 rfl rfl k9) ?_
  refine qy (fun _ _ k9 => z_iconst d_X11_mixed_8 (by decide) k9) ?_
  refine qy (fun _ _ k9 => z_iconst d_X11_mixed_9 (by decide) k9) ?_
  refine qy (fun _ _ k9 => z_cs (M1 := M_X11_isWithin) d_X11_mixed_10 ls_X11_62 k_X11_isWithin [qI 1, qI 0, qI 1] rfl rfl (Nat.le_of_ble_eq_true rfl) (by decide) (by decide) (Nat.le_of_ble_eq_true rfl) (c_isWithin 1 0 1) k9) ?_
  refine qy2 (fun _ _ => z_ifneB 18 d_X11_mixed_13 (by decide)) (fun hc2 => ?_) (fun hc2 => absurd hc2 (by omega))
  refine qy (fun _ _ k9 => z_aload_n d_X11_mixed_18 rfl rfl k9) ?_
  refine qy (fun _ _ k9 => z_getf (v := qR 172) d_X11_mixed_19 fl_X11_40 (xput_ob (c := (F 2)) xi_2 rfl (xsh_11 xo_2)) rfl k9) ?_
  refine qy (fun _ _ k9 => z_aload_n d_X11_mixed_22 rfl rfl k9) ?_
  refine qy (fun _ _ k9 => z_getf (v := qR 3) d_X11_mixed_23 fl_X11_12 (xput_ob (c := (F 2)) xi_2 rfl (xsh_11 xo_2)) rfl k9) ?_
  refine qy (fun _ _ k9 => z_getf (v := qR 4) d_X11_mixed_26 fl_X11_144 (xput_ob (c := (F 3)) xi_3 rfl (xsh_8 xo_3)) rfl k9) ?_
  refine qy (fun _ _ k9 => z_aload_n d_X11_mixed_29 rfl rfl k9) ?_
  refine qy (fun _ _ k9 => z_getf (v := qR 3) d_X11_mixed_30 fl_X11_12 (xput_ob (c := (F 2)) xi_2 rfl (xsh_11 xo_2)) rfl k9) ?_
  refine qy (fun _ _ k9 => z_getf (v := qR 28) d_X11_mixed_33 fl_X11_181 (xput_ob (c := (F 3)) xi_3 rfl (xsh_8 xo_3)) rfl k9) ?_
  refine qy (fun _ _ k9 => z_iload_n d_X11_mixed_36 rfl rfl k9) ?_
  obtain ⟨F1, G1, ⟨hv1, hq1, h51, h61⟩, hx1⟩ := c_tryMixed (h := h) (F := F) (G := G) (b := 4) (c := 28) (to := to) (R := R) (C := C) (R2 := R2) (C2 := C2) (by decide) xo_4 (by decide) (by decide) xo_28 (by decide) (by omega) hR hS hO hO2 hth
  refine qy (fun _ _ k9 => z_cv0 (M1 := M_X9_tryMixedBooks) d_X11_mixed_37 lv_X11_388 k_X9_tryMixedBooks [qR 4, qR 28, qI (to : Int)] rfl rfl (xput_ob (c := (F 172)) xi_172 rfl (xsh_9 xo_172)) ⟨_, _, rfl⟩ (Nat.le_of_ble_eq_true rfl) (by decide) (by decide) (Nat.le_of_ble_eq_true rfl) hx1 k9) ?_
  refine qy (fun _ _ k9 => z_iload_n d_X11_mixed_40 rfl rfl k9) ?_
  refine qy2 (fun _ _ => z_if_ne 54 d_X11_mixed_41 (by decide)) (fun hc3 => ?_) (fun hc3 => absurd (by decide) hc3)
  refine qy (fun _ _ k9 => z_aload_n d_X11_mixed_54 rfl rfl k9) ?_
  refine qy (fun _ _ k9 => z_getf (v := qR 172) d_X11_mixed_55 fl_X11_40 (xput_ob (c := (F1 2)) xi_2 rfl (xsh_11 xo_2)) rfl k9) ?_
  refine qy (fun _ _ k9 => z_getf (v := qI ((F1 172) 6)) d_X11_mixed_58 fl_X11_377 (xput_ob (c := (F1 172)) xi_172 rfl (xsh_9 xo_172)) rfl k9) ?_
  exact y_ret (hQ F1 G1 (⟨hv1, hq1⟩)) (z_iret d_X11_mixed_61 rfl (qsi h61.symm) rfl)
set_option maxRecDepth 20000 in
set_option maxHeartbeats 4000000 in
theorem xc_mixed_no {h : qH} {F G : Nat → Nat → Int} (to what : Int) (hno : ¬ ((1 ≤ to ∧ to ≤ 24) ∧ 0 ≤ what ∧ what ≤ 1)) : qEx M_X11_mixed 0 [qR 2, qI to, qI what] [] (xput h F G) (some (qI (-1))) (xput h F G) := by
  refine q_gen (fun r hr er eh => ?_)
  refine z_iload_n d_X11_mixed_0 rfl rfl ?_
  refine z_cs (M1 := M_X11_isLength) d_X11_mixed_1 ls_X11_308 k_X11_isLength [qI to] rfl rfl (Nat.le_of_ble_eq_true rfl) (by decide) (by decide) (Nat.le_of_ble_eq_true rfl) (c_isLength to) ?_
  refine z_ifeqB 16 d_X11_mixed_4 (by decide) (fun q4 => ?_) (fun q4 => ?_)
  · refine z_iconst d_X11_mixed_16 (by decide) ?_
    exact z_iret d_X11_mixed_17 rfl er eh
  · refine z_iload_n d_X11_mixed_7 rfl rfl ?_
    refine z_iconst d_X11_mixed_8 (by decide) ?_
    refine z_iconst d_X11_mixed_9 (by decide) ?_
    refine z_cs (M1 := M_X11_isWithin) d_X11_mixed_10 ls_X11_62 k_X11_isWithin [qI what, qI 0, qI 1] rfl rfl (Nat.le_of_ble_eq_true rfl) (by decide) (by decide) (Nat.le_of_ble_eq_true rfl) (c_isWithin what 0 1) ?_
    refine z_ifneB 18 d_X11_mixed_13 (by decide) (fun q13 => ?_) (fun q13 => ?_)
    · exact absurd ⟨q4, q13⟩ hno
    · refine z_iconst d_X11_mixed_16 (by decide) ?_
      exact z_iret d_X11_mixed_17 rfl er eh
set_option maxRecDepth 20000 in
set_option maxHeartbeats 4000000 in
theorem xc_used_no {h : qH} {F G : Nat → Nat → Int} (to what : Int) (hno : ¬ ((1 ≤ to ∧ to ≤ 24) ∧ 0 ≤ what ∧ what ≤ 2)) : qEx M_X11_used 0 [qR 2, qI to, qI what] [] (xput h F G) (some (qI (-1))) (xput h F G) := by
  refine q_gen (fun r hr er eh => ?_)
  refine z_iload_n d_X11_used_0 rfl rfl ?_
  refine z_cs (M1 := M_X11_isLength) d_X11_used_1 ls_X11_308 k_X11_isLength [qI to] rfl rfl (Nat.le_of_ble_eq_true rfl) (by decide) (by decide) (Nat.le_of_ble_eq_true rfl) (c_isLength to) ?_
  refine z_ifeqB 16 d_X11_used_4 (by decide) (fun q4 => ?_) (fun q4 => ?_)
  · refine z_iconst d_X11_used_16 (by decide) ?_
    exact z_iret d_X11_used_17 rfl er eh
  · refine z_iload_n d_X11_used_7 rfl rfl ?_
    refine z_iconst d_X11_used_8 (by decide) ?_
    refine z_iconst d_X11_used_9 (by decide) ?_
    refine z_cs (M1 := M_X11_isWithin) d_X11_used_10 ls_X11_62 k_X11_isWithin [qI what, qI 0, qI 2] rfl rfl (Nat.le_of_ble_eq_true rfl) (by decide) (by decide) (Nat.le_of_ble_eq_true rfl) (c_isWithin what 0 2) ?_
    refine z_ifneB 18 d_X11_used_13 (by decide) (fun q13 => ?_) (fun q13 => ?_)
    · exact absurd ⟨q4, q13⟩ hno
    · refine z_iconst d_X11_used_16 (by decide) ?_
      exact z_iret d_X11_used_17 rfl er eh
set_option maxRecDepth 20000 in
set_option maxHeartbeats 4000000 in
theorem xc_alike_no {h : qH} {F G : Nat → Nat → Int} (to what : Int) (hno : ¬ ((1 ≤ to ∧ to ≤ 24) ∧ 0 ≤ what ∧ what ≤ 2)) : qEx M_X11_alike 0 [qR 2, qI to, qI what, qU, qU] [] (xput h F G) (some (qI (-1))) (xput h F G) := by
  refine q_gen (fun r hr er eh => ?_)
  refine z_iload_n d_X11_alike_0 rfl rfl ?_
  refine z_cs (M1 := M_X11_isLength) d_X11_alike_1 ls_X11_308 k_X11_isLength [qI to] rfl rfl (Nat.le_of_ble_eq_true rfl) (by decide) (by decide) (Nat.le_of_ble_eq_true rfl) (c_isLength to) ?_
  refine z_ifeqB 16 d_X11_alike_4 (by decide) (fun q4 => ?_) (fun q4 => ?_)
  · refine z_iconst d_X11_alike_16 (by decide) ?_
    exact z_iret d_X11_alike_17 rfl er eh
  · refine z_iload_n d_X11_alike_7 rfl rfl ?_
    refine z_iconst d_X11_alike_8 (by decide) ?_
    refine z_iconst d_X11_alike_9 (by decide) ?_
    refine z_cs (M1 := M_X11_isWithin) d_X11_alike_10 ls_X11_62 k_X11_isWithin [qI what, qI 0, qI 2] rfl rfl (Nat.le_of_ble_eq_true rfl) (by decide) (by decide) (Nat.le_of_ble_eq_true rfl) (c_isWithin what 0 2) ?_
    refine z_ifneB 18 d_X11_alike_13 (by decide) (fun q13 => ?_) (fun q13 => ?_)
    · exact absurd ⟨q4, q13⟩ hno
    · refine z_iconst d_X11_alike_16 (by decide) ?_
      exact z_iret d_X11_alike_17 rfl er eh
set_option maxRecDepth 20000 in
set_option maxHeartbeats 4000000 in
theorem xc_works_no {h : qH} {F G : Nat → Nat → Int} (to what : Int) (hno : ¬ ((1 ≤ to ∧ to ≤ 24) ∧ 0 ≤ what ∧ what ≤ 2)) : qEx M_X11_works 0 [qR 2, qI to, qI what, qU] [] (xput h F G) (some (qI (-1))) (xput h F G) := by
  refine q_gen (fun r hr er eh => ?_)
  refine z_iload_n d_X11_works_0 rfl rfl ?_
  refine z_cs (M1 := M_X11_isLength) d_X11_works_1 ls_X11_308 k_X11_isLength [qI to] rfl rfl (Nat.le_of_ble_eq_true rfl) (by decide) (by decide) (Nat.le_of_ble_eq_true rfl) (c_isLength to) ?_
  refine z_ifeqB 16 d_X11_works_4 (by decide) (fun q4 => ?_) (fun q4 => ?_)
  · refine z_iconst d_X11_works_16 (by decide) ?_
    exact z_iret d_X11_works_17 rfl er eh
  · refine z_iload_n d_X11_works_7 rfl rfl ?_
    refine z_iconst d_X11_works_8 (by decide) ?_
    refine z_iconst d_X11_works_9 (by decide) ?_
    refine z_cs (M1 := M_X11_isWithin) d_X11_works_10 ls_X11_62 k_X11_isWithin [qI what, qI 0, qI 2] rfl rfl (Nat.le_of_ble_eq_true rfl) (by decide) (by decide) (Nat.le_of_ble_eq_true rfl) (c_isWithin what 0 2) ?_
    refine z_ifneB 18 d_X11_works_13 (by decide) (fun q13 => ?_) (fun q13 => ?_)
    · exact absurd ⟨q4, q13⟩ hno
    · refine z_iconst d_X11_works_16 (by decide) ?_
      exact z_iret d_X11_works_17 rfl er eh
set_option maxRecDepth 20000 in
set_option maxHeartbeats 4000000 in
theorem xc_before0 {h : qH} {F G : Nat → Nat → Int} {n : Nat} {T N : Nat → Int} (hn : 1 ≤ n ∧ n ≤ 32) (hT : ∀ c, c < 648 → G 6 c = T c) (hW : wlR F G 56 N) (hN : N 160 = (n : Int)) (hfl : F 216 0 = 0) : ∃ F' G', ((∀ a, a ≠ 216 → F' a = F a) ∧ (∀ a, a ≠ 217 → a ≠ 218 → G' a = G a) ∧ (F' 216 0 = 0 ∨ F' 216 0 = 1)) ∧ qEx M_X11_before 0 [qR 2, qU] [] (xput h F G) (some (qI ((wS T N n 8) % 1000000007))) (xput h F' G') := by
  refine x_in (fun Q hQ => ?_)
  refine qy (fun _ _ k9 => z_aload_n d_X11_before_0 rfl rfl k9) ?_
  refine qy (fun _ _ k9 => z_getf (v := qR 3) d_X11_before_1 fl_X11_12 (xput_ob (c := (F 2)) xi_2 rfl (xsh_11 xo_2)) rfl k9) ?_
  refine qy (fun _ _ k9 => z_getf (v := qR 56) d_X11_before_4 fl_X11_66 (xput_ob (c := (F 3)) xi_3 rfl (xsh_8 xo_3)) rfl k9) ?_
  refine qy (fun _ _ k9 => z_astore_n (ls' := [qR 2, qR 56]) d_X11_before_7 rfl (by decide) rfl k9) ?_
  refine qy (fun _ _ k9 => z_aload_n d_X11_before_8 rfl rfl k9) ?_
  refine qy (fun _ _ k9 => z_getf (v := qI ((F 56) 0)) d_X11_before_9 fl_X11_159 (xput_ob (c := (F 56)) xi_56 rfl (xsh_10 xo_56)) rfl k9) ?_
  refine qy (fun _ _ k9 => z_eq rfl (qc (qi (hW.1.1.trans hN)) rfl) rfl k9) ?_
  refine qy2 (fun _ _ => z_if_ne 19 d_X11_before_12 (by decide)) (fun hc1 => ?_) (fun hc1 => absurd hc1 (by omega))
  refine qy (fun _ _ k9 => z_aload_n d_X11_before_19 rfl rfl k9) ?_
  refine qy (fun _ _ k9 => z_getf (v := qR 216) d_X11_before_20 fl_X11_54 (xput_ob (c := (F 2)) xi_2 rfl (xsh_11 xo_2)) rfl k9) ?_
  refine qy (fun _ _ k9 => z_aload_n d_X11_before_23 rfl rfl k9) ?_
  refine qy (fun _ _ k9 => z_getf (v := qR 57) d_X11_before_24 fl_X11_106 (xput_ob (c := (F 56)) xi_56 rfl (xsh_10 xo_56)) rfl k9) ?_
  refine qy (fun _ _ k9 => z_aload_n d_X11_before_27 rfl rfl k9) ?_
  refine qy (fun _ _ k9 => z_getf (v := qI ((F 56) 0)) d_X11_before_28 fl_X11_159 (xput_ob (c := (F 56)) xi_56 rfl (xsh_10 xo_56)) rfl k9) ?_
  refine qy (fun _ _ k9 => z_eq rfl (qc (qi (hW.1.1.trans hN)) rfl) rfl k9) ?_
  refine qy (fun _ _ k9 => z_aload_n d_X11_before_31 rfl rfl k9) ?_
  refine qy (fun _ _ k9 => z_getf (v := qR 3) d_X11_before_32 fl_X11_12 (xput_ob (c := (F 2)) xi_2 rfl (xsh_11 xo_2)) rfl k9) ?_
  refine qy (fun _ _ k9 => z_getf (v := qR 4) d_X11_before_35 fl_X11_144 (xput_ob (c := (F 3)) xi_3 rfl (xsh_8 xo_3)) rfl k9) ?_
  refine qy (fun _ _ k9 => z_getf (v := qR 6) d_X11_before_38 fl_X11_243 (xput_ob (c := (F 4)) xi_4 rfl (xsh_0 xo_4)) rfl k9) ?_
  obtain ⟨F1, G1, ⟨hv1, hw1, hf1⟩, hx1⟩ := c_fore (h := h) (F := F) (G := G) (n := n) (T := T) (M := N) hn hT (fun k hk => (hW.2.1 k hk).1) (Or.inl hfl)
  refine qy (fun _ _ k9 => z_cv (M1 := M_X1_count) d_X11_before_41 lv_X11_392 k_X1_count [qR 57, qI (n : Int), qR 6] rfl rfl ((xput_ob (c := (F 216)) xi_216 rfl (xsh_1 xo_216)).trans (by rw [hfl]; try rfl)) ⟨_, _, rfl⟩ (Nat.le_of_ble_eq_true rfl) (by decide) (by decide) (Nat.le_of_ble_eq_true rfl) hx1 k9) ?_
  exact y_ret (hQ F1 G1 (⟨hv1, hw1, hf1⟩)) (z_iret d_X11_before_44 rfl rfl rfl)
set_option maxRecDepth 20000 in
set_option maxHeartbeats 4000000 in
theorem xc_before1 {h : qH} {F G : Nat → Nat → Int} {n : Nat} {T N : Nat → Int} (hn : 1 ≤ n ∧ n ≤ 32) (hT : ∀ c, c < 648 → G 6 c = T c) (hW : wlR F G 56 N) (hN : N 160 = (n : Int)) (hfl : F 216 0 = 1) : ∃ F' G', ((∀ a, a ≠ 216 → F' a = F a) ∧ (∀ a, a ≠ 217 → a ≠ 218 → G' a = G a) ∧ (F' 216 0 = 0 ∨ F' 216 0 = 1)) ∧ qEx M_X11_before 0 [qR 2, qU] [] (xput h F G) (some (qI ((wS T N n 8) % 1000000007))) (xput h F' G') := by
  refine x_in (fun Q hQ => ?_)
  refine qy (fun _ _ k9 => z_aload_n d_X11_before_0 rfl rfl k9) ?_
  refine qy (fun _ _ k9 => z_getf (v := qR 3) d_X11_before_1 fl_X11_12 (xput_ob (c := (F 2)) xi_2 rfl (xsh_11 xo_2)) rfl k9) ?_
  refine qy (fun _ _ k9 => z_getf (v := qR 56) d_X11_before_4 fl_X11_66 (xput_ob (c := (F 3)) xi_3 rfl (xsh_8 xo_3)) rfl k9) ?_
  refine qy (fun _ _ k9 => z_astore_n (ls' := [qR 2, qR 56]) d_X11_before_7 rfl (by decide) rfl k9) ?_
  refine qy (fun _ _ k9 => z_aload_n d_X11_before_8 rfl rfl k9) ?_
  refine qy (fun _ _ k9 => z_getf (v := qI ((F 56) 0)) d_X11_before_9 fl_X11_159 (xput_ob (c := (F 56)) xi_56 rfl (xsh_10 xo_56)) rfl k9) ?_
  refine qy (fun _ _ k9 => z_eq rfl (qc (qi (hW.1.1.trans hN)) rfl) rfl k9) ?_
  refine qy2 (fun _ _ => z_if_ne 19 d_X11_before_12 (by decide)) (fun hc1 => ?_) (fun hc1 => absurd hc1 (by omega))
  refine qy (fun _ _ k9 => z_aload_n d_X11_before_19 rfl rfl k9) ?_
  refine qy (fun _ _ k9 => z_getf (v := qR 216) d_X11_before_20 fl_X11_54 (xput_ob (c := (F 2)) xi_2 rfl (xsh_11 xo_2)) rfl k9) ?_
  refine qy (fun _ _ k9 => z_aload_n d_X11_before_23 rfl rfl k9) ?_
  refine qy (fun _ _ k9 => z_getf (v := qR 57) d_X11_before_24 fl_X11_106 (xput_ob (c := (F 56)) xi_56 rfl (xsh_10 xo_56)) rfl k9) ?_
  refine qy (fun _ _ k9 => z_aload_n d_X11_before_27 rfl rfl k9) ?_
  refine qy (fun _ _ k9 => z_getf (v := qI ((F 56) 0)) d_X11_before_28 fl_X11_159 (xput_ob (c := (F 56)) xi_56 rfl (xsh_10 xo_56)) rfl k9) ?_
  refine qy (fun _ _ k9 => z_eq rfl (qc (qi (hW.1.1.trans hN)) rfl) rfl k9) ?_
  refine qy (fun _ _ k9 => z_aload_n d_X11_before_31 rfl rfl k9) ?_
  refine qy (fun _ _ k9 => z_getf (v := qR 3) d_X11_before_32 fl_X11_12 (xput_ob (c := (F 2)) xi_2 rfl (xsh_11 xo_2)) rfl k9) ?_
  refine qy (fun _ _ k9 => z_getf (v := qR 4) d_X11_before_35 fl_X11_144 (xput_ob (c := (F 3)) xi_3 rfl (xsh_8 xo_3)) rfl k9) ?_
  refine qy (fun _ _ k9 => z_getf (v := qR 6) d_X11_before_38 fl_X11_243 (xput_ob (c := (F 4)) xi_4 rfl (xsh_0 xo_4)) rfl k9) ?_
  obtain ⟨F1, G1, ⟨hv1, hw1, hf1⟩, hx1⟩ := c_fore (h := h) (F := F) (G := G) (n := n) (T := T) (M := N) hn hT (fun k hk => (hW.2.1 k hk).1) (Or.inr hfl)
  refine qy (fun _ _ k9 => z_cv (M1 := M_X1_count) d_X11_before_41 lv_X11_392 k_X1_count [qR 57, qI (n : Int), qR 6] rfl rfl ((xput_ob (c := (F 216)) xi_216 rfl (xsh_1 xo_216)).trans (by rw [hfl]; try rfl)) ⟨_, _, rfl⟩ (Nat.le_of_ble_eq_true rfl) (by decide) (by decide) (Nat.le_of_ble_eq_true rfl) hx1 k9) ?_
  exact y_ret (hQ F1 G1 (⟨hv1, hw1, hf1⟩)) (z_iret d_X11_before_44 rfl rfl rfl)
set_option maxRecDepth 20000 in
set_option maxHeartbeats 4000000 in
theorem xc_before_no {h : qH} {F G : Nat → Nat → Int} {N : Nat → Int} (hW : wlR F G 56 N) (hN : N 160 = 0) : qEx M_X11_before 0 [qR 2, qU] [] (xput h F G) (some (qI (-1))) (xput h F G) := by
  refine q_gen (fun r hr er eh => ?_)
  refine z_aload_n d_X11_before_0 rfl rfl ?_
  refine z_getf (v := qR 3) d_X11_before_1 fl_X11_12 (xput_ob (c := (F 2)) xi_2 rfl (xsh_11 xo_2)) rfl ?_
  refine z_getf (v := qR 56) d_X11_before_4 fl_X11_66 (xput_ob (c := (F 3)) xi_3 rfl (xsh_8 xo_3)) rfl ?_
  refine z_astore_n (ls' := [qR 2, qR 56]) d_X11_before_7 rfl (by decide) rfl ?_
  refine z_aload_n d_X11_before_8 rfl rfl ?_
  refine z_getf (v := qI ((F 56) 0)) d_X11_before_9 fl_X11_159 (xput_ob (c := (F 56)) xi_56 rfl (xsh_10 xo_56)) rfl ?_
  refine z_eq rfl (qc (qi (hW.1.1.trans hN)) rfl) rfl ?_
  refine z_if_ne 19 d_X11_before_12 (by decide) (fun hc1 => absurd hc1 (by decide)) (fun hc1 => ?_)
  refine z_iconst d_X11_before_15 (by decide) ?_
  refine z_goto 44 d_X11_before_16 (by decide) ?_
  exact z_iret d_X11_before_44 rfl er eh
set_option maxRecDepth 20000 in
set_option maxHeartbeats 4000000 in
theorem xc_round0 {h : qH} {F G : Nat → Nat → Int} {n : Nat} {T N : Nat → Int} (hW : wlR F G 56 N) (hO : rwOk N) (hN : N 160 = (n : Int)) (hT : ∀ c, c < 648 → G 6 c = T c) (hB : ∀ c, c < 648 → 0 ≤ T c ∧ T c ≤ 7) : ∃ F' G', (xfr 206 215 F G F' G') ∧ qEx M_X11_round 0 [qR 2, qI 0] [] (xput h F G) (some (qI (rdR T N n 0))) (xput h F' G') := by
  refine x_in (fun Q hQ => ?_)
  refine qy (fun _ _ k9 => z_iload_n d_X11_round_0 rfl rfl k9) ?_
  refine qy (fun _ _ k9 => z_iconst d_X11_round_1 (by decide) k9) ?_
  refine qy (fun _ _ k9 => z_iconst d_X11_round_2 (by decide) k9) ?_
  refine qy (fun _ _ k9 => z_cs (M1 := M_X11_isWithin) d_X11_round_3 ls_X11_62 k_X11_isWithin [qI 0, qI 0, qI 1] rfl rfl (Nat.le_of_ble_eq_true rfl) (by decide) (by decide) (Nat.le_of_ble_eq_true rfl) (c_isWithin 0 0 1) k9) ?_
  refine qy2 (fun _ _ => z_ifneB 11 d_X11_round_6 (by decide)) (fun hc1 => ?_) (fun hc1 => absurd hc1 (by omega))
  refine qy (fun _ _ k9 => z_aload_n d_X11_round_11 rfl rfl k9) ?_
  refine qy (fun _ _ k9 => z_getf (v := qR 206) d_X11_round_12 fl_X11_47 (xput_ob (c := (F 2)) xi_2 rfl (xsh_11 xo_2)) rfl k9) ?_
  refine qy (fun _ _ k9 => z_aload_n d_X11_round_15 rfl rfl k9) ?_
  refine qy (fun _ _ k9 => z_getf (v := qR 3) d_X11_round_16 fl_X11_12 (xput_ob (c := (F 2)) xi_2 rfl (xsh_11 xo_2)) rfl k9) ?_
  refine qy (fun _ _ k9 => z_getf (v := qR 56) d_X11_round_19 fl_X11_66 (xput_ob (c := (F 3)) xi_3 rfl (xsh_8 xo_3)) rfl k9) ?_
  refine qy (fun _ _ k9 => z_aload_n d_X11_round_22 rfl rfl k9) ?_
  refine qy (fun _ _ k9 => z_getf (v := qR 3) d_X11_round_23 fl_X11_12 (xput_ob (c := (F 2)) xi_2 rfl (xsh_11 xo_2)) rfl k9) ?_
  refine qy (fun _ _ k9 => z_getf (v := qR 4) d_X11_round_26 fl_X11_144 (xput_ob (c := (F 3)) xi_3 rfl (xsh_8 xo_3)) rfl k9) ?_
  obtain ⟨F1, G1, ⟨hv1, h51, h61⟩, hx1⟩ := c_follow (h := h) (F := F) (G := G) (n := n) (T := T) (N := N) hW hO hN hT hB
  refine qy (fun _ _ k9 => z_cv0 (M1 := M_X5_follow) d_X11_round_29 lv_X11_395 k_X5_follow [qR 56, qR 4] rfl rfl (xput_ob (c := (F 206)) xi_206 rfl (xsh_5 xo_206)) ⟨_, _, rfl⟩ (Nat.le_of_ble_eq_true rfl) (by decide) (by decide) (Nat.le_of_ble_eq_true rfl) hx1 k9) ?_
  refine qy (fun _ _ k9 => z_iload_n d_X11_round_32 rfl rfl k9) ?_
  refine qy2 (fun _ _ => z_if_ne 46 d_X11_round_33 (by decide)) (fun hc2 => absurd hc2 (by decide)) (fun hc2 => ?_)
  refine qy (fun _ _ k9 => z_aload_n d_X11_round_36 rfl rfl k9) ?_
  refine qy (fun _ _ k9 => z_getf (v := qR 206) d_X11_round_37 fl_X11_47 (xput_ob (c := (F1 2)) xi_2 rfl (xsh_11 xo_2)) rfl k9) ?_
  refine qy (fun _ _ k9 => z_getf (v := qI ((F1 206) 5)) d_X11_round_40 fl_X11_399 (xput_ob (c := (F1 206)) xi_206 rfl (xsh_5 xo_206)) rfl k9) ?_
  refine qy (fun _ _ k9 => z_goto 53 d_X11_round_43 (by decide) k9) ?_
  exact y_ret (hQ F1 G1 hv1) (z_iret d_X11_round_53 rfl (qsi h51.symm) rfl)
set_option maxRecDepth 20000 in
set_option maxHeartbeats 4000000 in
theorem xc_round1 {h : qH} {F G : Nat → Nat → Int} {n : Nat} {T N : Nat → Int} (hW : wlR F G 56 N) (hO : rwOk N) (hN : N 160 = (n : Int)) (hT : ∀ c, c < 648 → G 6 c = T c) (hB : ∀ c, c < 648 → 0 ≤ T c ∧ T c ≤ 7) : ∃ F' G', (xfr 206 215 F G F' G') ∧ qEx M_X11_round 0 [qR 2, qI 1] [] (xput h F G) (some (qI (rdR T N n 1))) (xput h F' G') := by
  refine x_in (fun Q hQ => ?_)
  refine qy (fun _ _ k9 => z_iload_n d_X11_round_0 rfl rfl k9) ?_
  refine qy (fun _ _ k9 => z_iconst d_X11_round_1 (by decide) k9) ?_
  refine qy (fun _ _ k9 => z_iconst d_X11_round_2 (by decide) k9) ?_
  refine qy (fun _ _ k9 => z_cs (M1 := M_X11_isWithin) d_X11_round_3 ls_X11_62 k_X11_isWithin [qI 1, qI 0, qI 1] rfl rfl (Nat.le_of_ble_eq_true rfl) (by decide) (by decide) (Nat.le_of_ble_eq_true rfl) (c_isWithin 1 0 1) k9) ?_
  refine qy2 (fun _ _ => z_ifneB 11 d_X11_round_6 (by decide)) (fun hc1 => ?_) (fun hc1 => absurd hc1 (by omega))
  refine qy (fun _ _ k9 => z_aload_n d_X11_round_11 rfl rfl k9) ?_
  refine qy (fun _ _ k9 => z_getf (v := qR 206) d_X11_round_12 fl_X11_47 (xput_ob (c := (F 2)) xi_2 rfl (xsh_11 xo_2)) rfl k9) ?_
  refine qy (fun _ _ k9 => z_aload_n d_X11_round_15 rfl rfl k9) ?_
  refine qy (fun _ _ k9 => z_getf (v := qR 3) d_X11_round_16 fl_X11_12 (xput_ob (c := (F 2)) xi_2 rfl (xsh_11 xo_2)) rfl k9) ?_
  refine qy (fun _ _ k9 => z_getf (v := qR 56) d_X11_round_19 fl_X11_66 (xput_ob (c := (F 3)) xi_3 rfl (xsh_8 xo_3)) rfl k9) ?_
  refine qy (fun _ _ k9 => z_aload_n d_X11_round_22 rfl rfl k9) ?_
  refine qy (fun _ _ k9 => z_getf (v := qR 3) d_X11_round_23 fl_X11_12 (xput_ob (c := (F 2)) xi_2 rfl (xsh_11 xo_2)) rfl k9) ?_
  refine qy (fun _ _ k9 => z_getf (v := qR 4) d_X11_round_26 fl_X11_144 (xput_ob (c := (F 3)) xi_3 rfl (xsh_8 xo_3)) rfl k9) ?_
  obtain ⟨F1, G1, ⟨hv1, h51, h61⟩, hx1⟩ := c_follow (h := h) (F := F) (G := G) (n := n) (T := T) (N := N) hW hO hN hT hB
  refine qy (fun _ _ k9 => z_cv0 (M1 := M_X5_follow) d_X11_round_29 lv_X11_395 k_X5_follow [qR 56, qR 4] rfl rfl (xput_ob (c := (F 206)) xi_206 rfl (xsh_5 xo_206)) ⟨_, _, rfl⟩ (Nat.le_of_ble_eq_true rfl) (by decide) (by decide) (Nat.le_of_ble_eq_true rfl) hx1 k9) ?_
  refine qy (fun _ _ k9 => z_iload_n d_X11_round_32 rfl rfl k9) ?_
  refine qy2 (fun _ _ => z_if_ne 46 d_X11_round_33 (by decide)) (fun hc2 => ?_) (fun hc2 => absurd (by decide) hc2)
  refine qy (fun _ _ k9 => z_aload_n d_X11_round_46 rfl rfl k9) ?_
  refine qy (fun _ _ k9 => z_getf (v := qR 206) d_X11_round_47 fl_X11_47 (xput_ob (c := (F1 2)) xi_2 rfl (xsh_11 xo_2)) rfl k9) ?_
  refine qy (fun _ _ k9 => z_getf (v := qI ((F1 206) 6)) d_X11_round_50 fl_X11_402 (xput_ob (c := (F1 206)) xi_206 rfl (xsh_5 xo_206)) rfl k9) ?_
  exact y_ret (hQ F1 G1 hv1) (z_iret d_X11_round_53 rfl (qsi h61.symm) rfl)
set_option maxRecDepth 20000 in
set_option maxHeartbeats 4000000 in
theorem xc_round_no {h : qH} {F G : Nat → Nat → Int} (what : Int) (hno : ¬ (0 ≤ what ∧ what ≤ 1)) : qEx M_X11_round 0 [qR 2, qI what] [] (xput h F G) (some (qI (-1))) (xput h F G) := by
  refine q_gen (fun r hr er eh => ?_)
  refine z_iload_n d_X11_round_0 rfl rfl ?_
  refine z_iconst d_X11_round_1 (by decide) ?_
  refine z_iconst d_X11_round_2 (by decide) ?_
  refine z_cs (M1 := M_X11_isWithin) d_X11_round_3 ls_X11_62 k_X11_isWithin [qI what, qI 0, qI 1] rfl rfl (Nat.le_of_ble_eq_true rfl) (by decide) (by decide) (Nat.le_of_ble_eq_true rfl) (c_isWithin what 0 1) ?_
  refine z_ifneB 11 d_X11_round_6 (by decide) (fun hc1 => absurd hc1 (by exact hno)) (fun hc1 => ?_)
  refine z_iconst d_X11_round_9 (by decide) ?_
  exact z_iret d_X11_round_10 rfl er eh
set_option maxRecDepth 20000 in
set_option maxHeartbeats 4000000 in
theorem xc_rules0 {h : qH} {F G : Nat → Nat → Int} {R C : Nat → Int} (hR : bkR F G 4 R C) : qEx M_X11_rules 0 [qR 2, qI 0, qU] [] (xput h F G) (some (qI (gcS R C 96))) (xput h F G) := by
  refine q_gen (fun r hr er eh => ?_)
  refine z_aload_n d_X11_rules_0 rfl rfl ?_
  refine z_getf (v := qR 3) d_X11_rules_1 fl_X11_12 (xput_ob (c := (F 2)) xi_2 rfl (xsh_11 xo_2)) rfl ?_
  refine z_getf (v := qR 4) d_X11_rules_4 fl_X11_144 (xput_ob (c := (F 3)) xi_3 rfl (xsh_8 xo_3)) rfl ?_
  refine z_astore_n (ls' := [qR 2, qI 0, qR 4]) d_X11_rules_7 rfl (by decide) rfl ?_
  refine z_iload_n d_X11_rules_8 rfl rfl ?_
  refine z_tableIn 44 d_X11_rules_9 (by decide) (by decide) (off := 35) rfl (by decide) ?_
  refine z_aload_n d_X11_rules_44 rfl rfl ?_
  refine z_cv (M1 := M_X0_clashes) d_X11_rules_45 lv_X11_252 k_X0_clashes [] rfl rfl (xput_ob (c := (F 4)) xi_4 rfl (xsh_0 xo_4)) ⟨_, _, rfl⟩ (Nat.le_of_ble_eq_true rfl) (by decide) (by decide) (Nat.le_of_ble_eq_true rfl) (c_bkClash (b := 4) (by decide) xo_4 hR) ?_
  exact z_iret d_X11_rules_48 rfl er eh
set_option maxRecDepth 20000 in
set_option maxHeartbeats 4000000 in
theorem xc_rules1 {h : qH} {F G : Nat → Nat → Int} {R C D : Nat → Int} (hR : bkR F G 4 R C) (hD : ∀ c, c < 648 → G 7 c = D c) : qEx M_X11_rules 0 [qR 2, qI 1, qU] [] (xput h F G) (some (qI (sm C 4 - cnt (fun q => rlP C q ∧ dcP (fun _ => 1) D (q : Int)) 96))) (xput h F (gup G 205 (qmx 648 (fun _ => 1) (G 205)))) := by
  refine q_gen (fun r hr er eh => ?_)
  have b1 := sm_bd (f := C) (B := 24) 4 (fun k hk => (bkR_C hR hk).2)
  have b2 := cnt_bd (fun q => rlP C q ∧ dcP (fun _ => 1) D (q : Int)) 96
  refine z_aload_n d_X11_rules_0 rfl rfl ?_
  refine z_getf (v := qR 3) d_X11_rules_1 fl_X11_12 (xput_ob (c := (F 2)) xi_2 rfl (xsh_11 xo_2)) rfl ?_
  refine z_getf (v := qR 4) d_X11_rules_4 fl_X11_144 (xput_ob (c := (F 3)) xi_3 rfl (xsh_8 xo_3)) rfl ?_
  refine z_astore_n (ls' := [qR 2, qI 1, qR 4]) d_X11_rules_7 rfl (by decide) rfl ?_
  refine z_iload_n d_X11_rules_8 rfl rfl ?_
  refine z_tableIn 49 d_X11_rules_9 (by decide) (by decide) (off := 40) rfl (by decide) ?_
  refine z_aload_n d_X11_rules_49 rfl rfl ?_
  refine z_getf (v := qR 172) d_X11_rules_50 fl_X11_40 (xput_ob (c := (F 2)) xi_2 rfl (xsh_11 xo_2)) rfl ?_
  refine z_cv0 (M1 := M_X9_askAll) d_X11_rules_53 lv_X11_255 k_X9_askAll [] rfl rfl (xput_ob (c := (F 172)) xi_172 rfl (xsh_9 xo_172)) ⟨_, _, rfl⟩ (Nat.le_of_ble_eq_true rfl) (by decide) (by decide) (Nat.le_of_ble_eq_true rfl) c_askAll ?_
  refine z_aload_n d_X11_rules_56 rfl rfl ?_
  refine z_cv (M1 := M_X0_ruleCount) d_X11_rules_57 lv_X11_184 k_X0_ruleCount [] rfl rfl (xput_ob (c := (F 4)) xi_4 rfl (xsh_0 xo_4)) ⟨_, _, rfl⟩ (Nat.le_of_ble_eq_true rfl) (by decide) (by decide) (Nat.le_of_ble_eq_true rfl) (c_bkCount (b := 4) (G := (gup G 205 (qmx 648 (fun _ => 1) (G 205)))) (by decide) xo_4 (bkR_cg hR (fun a ha hb => ⟨rfl, gup_ne (by omega)⟩))) ?_
  refine z_aload_n d_X11_rules_60 rfl rfl ?_
  refine z_getf (v := qR 172) d_X11_rules_61 fl_X11_40 (xput_ob (c := (F 2)) xi_2 rfl (xsh_11 xo_2)) rfl ?_
  refine z_aload_n d_X11_rules_64 rfl rfl ?_
  refine z_cv (M1 := M_X9_deciders) d_X11_rules_65 lv_X11_258 k_X9_deciders [qR 4] rfl rfl (xput_ob (c := (F 172)) xi_172 rfl (xsh_9 xo_172)) ⟨_, _, rfl⟩ (Nat.le_of_ble_eq_true rfl) (by decide) (by decide) (Nat.le_of_ble_eq_true rfl) (by have e9 := c_deciders (h := h) (F := F) (b := 4) (G := (gup G 205 (qmx 648 (fun _ => 1) (G 205)))) (by decide) xo_4 (bkR_cg hR (fun a ha hb => ⟨rfl, gup_ne (by omega)⟩)); rw [cnt_congr (q := fun q => rlP C q ∧ dcP (fun _ => 1) D (q : Int)) (fun q hq => and_congr Iff.rfl (dcP_cg (fun c hc => by rw [gup_eq, qmx_lt (by omega)]) (fun c hc => by rw [gup_ne (by decide)]; exact hD c (by omega))))] at e9; exact e9) ?_
  refine z_isub d_X11_rules_68 (by omega) ?_
  exact z_iret d_X11_rules_69 rfl er eh
set_option maxRecDepth 20000 in
set_option maxHeartbeats 4000000 in
theorem xc_rules2 {h : qH} {F G : Nat → Nat → Int} {R C D : Nat → Int} (hR : bkR F G 4 R C) (hD : ∀ c, c < 648 → G 7 c = D c) : qEx M_X11_rules 0 [qR 2, qI 2, qU] [] (xput h F G) (some (qI (fst (fun q => rlP C q ∧ ¬ dcP (fun _ => 1) D (q : Int)) 96))) (xput h F (gup G 205 (qmx 648 (fun _ => 1) (G 205)))) := by
  refine q_gen (fun r hr er eh => ?_)
  refine z_aload_n d_X11_rules_0 rfl rfl ?_
  refine z_getf (v := qR 3) d_X11_rules_1 fl_X11_12 (xput_ob (c := (F 2)) xi_2 rfl (xsh_11 xo_2)) rfl ?_
  refine z_getf (v := qR 4) d_X11_rules_4 fl_X11_144 (xput_ob (c := (F 3)) xi_3 rfl (xsh_8 xo_3)) rfl ?_
  refine z_astore_n (ls' := [qR 2, qI 2, qR 4]) d_X11_rules_7 rfl (by decide) rfl ?_
  refine z_iload_n d_X11_rules_8 rfl rfl ?_
  refine z_tableIn 70 d_X11_rules_9 (by decide) (by decide) (off := 61) rfl (by decide) ?_
  refine z_aload_n d_X11_rules_70 rfl rfl ?_
  refine z_getf (v := qR 172) d_X11_rules_71 fl_X11_40 (xput_ob (c := (F 2)) xi_2 rfl (xsh_11 xo_2)) rfl ?_
  refine z_cv0 (M1 := M_X9_askAll) d_X11_rules_74 lv_X11_255 k_X9_askAll [] rfl rfl (xput_ob (c := (F 172)) xi_172 rfl (xsh_9 xo_172)) ⟨_, _, rfl⟩ (Nat.le_of_ble_eq_true rfl) (by decide) (by decide) (Nat.le_of_ble_eq_true rfl) c_askAll ?_
  refine z_aload_n d_X11_rules_77 rfl rfl ?_
  refine z_getf (v := qR 172) d_X11_rules_78 fl_X11_40 (xput_ob (c := (F 2)) xi_2 rfl (xsh_11 xo_2)) rfl ?_
  refine z_aload_n d_X11_rules_81 rfl rfl ?_
  refine z_cv (M1 := M_X9_leastIdle) d_X11_rules_82 lv_X11_262 k_X9_leastIdle [qR 4] rfl rfl (xput_ob (c := (F 172)) xi_172 rfl (xsh_9 xo_172)) ⟨_, _, rfl⟩ (Nat.le_of_ble_eq_true rfl) (by decide) (by decide) (Nat.le_of_ble_eq_true rfl) (by have e9 := c_leastIdle (h := h) (F := F) (b := 4) (G := (gup G 205 (qmx 648 (fun _ => 1) (G 205)))) (by decide) xo_4 (bkR_cg hR (fun a ha hb => ⟨rfl, gup_ne (by omega)⟩)); rw [fst_congr (q := fun q => rlP C q ∧ ¬ dcP (fun _ => 1) D (q : Int)) (fun q hq => and_congr Iff.rfl (not_congr (dcP_cg (fun c hc => by rw [gup_eq, qmx_lt (by omega)]) (fun c hc => by rw [gup_ne (by decide)]; exact hD c (by omega)))))] at e9; exact e9) ?_
  exact z_iret d_X11_rules_85 rfl er eh
set_option maxRecDepth 20000 in
set_option maxHeartbeats 4000000 in
theorem xc_rules3 {h : qH} {F G : Nat → Nat → Int} {T : Nat → Int} (hT : ∀ c, c < 648 → G 6 c = T c) : qEx M_X11_rules 0 [qR 2, qI 3, qU] [] (xput h F G) (some (qI (qb (cnt (umP T) 648 = 0)))) (xput h F G) := by
  refine q_gen (fun r hr er eh => ?_)
  refine z_aload_n d_X11_rules_0 rfl rfl ?_
  refine z_getf (v := qR 3) d_X11_rules_1 fl_X11_12 (xput_ob (c := (F 2)) xi_2 rfl (xsh_11 xo_2)) rfl ?_
  refine z_getf (v := qR 4) d_X11_rules_4 fl_X11_144 (xput_ob (c := (F 3)) xi_3 rfl (xsh_8 xo_3)) rfl ?_
  refine z_astore_n (ls' := [qR 2, qI 3, qR 4]) d_X11_rules_7 rfl (by decide) rfl ?_
  refine z_iload_n d_X11_rules_8 rfl rfl ?_
  refine z_tableIn 86 d_X11_rules_9 (by decide) (by decide) (off := 77) rfl (by decide) ?_
  refine z_aload_n d_X11_rules_86 rfl rfl ?_
  refine z_cv (M1 := M_X0_unmirrored) d_X11_rules_87 lv_X11_265 k_X0_unmirrored [] rfl rfl (xput_ob (c := (F 4)) xi_4 rfl (xsh_0 xo_4)) ⟨_, _, rfl⟩ (Nat.le_of_ble_eq_true rfl) (by decide) (by decide) (Nat.le_of_ble_eq_true rfl) (by have e9 := c_bkMir (h := h) (F := F) (G := G) (b := 4) (by decide) xo_4; rw [show cnt (umP (G (4 + 2))) 648 = cnt (umP T) 648 from umP_cg hT] at e9; exact e9) ?_
  suffices kJ90 : qEx M_X11_rules 98 [qR 2, qI 3, qR 4] [qI (qb ((cnt (umP T) 648) = 0))] (xput h F G) r hr by
    refine z_if_ne 97 d_X11_rules_90 (by decide) (fun hc1 => ?_) (fun hc1 => ?_)
    · refine z_iconst d_X11_rules_97 (by decide) ?_
      exact z_eq rfl (qc (qi (qb_f (by omega)).symm) rfl) rfl kJ90
    · refine z_iconst d_X11_rules_93 (by decide) ?_
      refine z_goto 98 d_X11_rules_94 (by decide) ?_
      exact z_eq rfl (qc (qi (qb_t (by omega)).symm) rfl) rfl kJ90
  exact z_iret d_X11_rules_98 rfl er eh
set_option maxRecDepth 20000 in
set_option maxHeartbeats 4000000 in
theorem xc_rules4 {h : qH} {F G : Nat → Nat → Int} {T : Nat → Int} (hT : ∀ c, c < 648 → G 6 c = T c) : qEx M_X11_rules 0 [qR 2, qI 4, qU] [] (xput h F G) (some (qI (cnt (umP T) 648))) (xput h F G) := by
  refine q_gen (fun r hr er eh => ?_)
  refine z_aload_n d_X11_rules_0 rfl rfl ?_
  refine z_getf (v := qR 3) d_X11_rules_1 fl_X11_12 (xput_ob (c := (F 2)) xi_2 rfl (xsh_11 xo_2)) rfl ?_
  refine z_getf (v := qR 4) d_X11_rules_4 fl_X11_144 (xput_ob (c := (F 3)) xi_3 rfl (xsh_8 xo_3)) rfl ?_
  refine z_astore_n (ls' := [qR 2, qI 4, qR 4]) d_X11_rules_7 rfl (by decide) rfl ?_
  refine z_iload_n d_X11_rules_8 rfl rfl ?_
  refine z_tableIn 99 d_X11_rules_9 (by decide) (by decide) (off := 90) rfl (by decide) ?_
  refine z_aload_n d_X11_rules_99 rfl rfl ?_
  refine z_cv (M1 := M_X0_unmirrored) d_X11_rules_100 lv_X11_265 k_X0_unmirrored [] rfl rfl (xput_ob (c := (F 4)) xi_4 rfl (xsh_0 xo_4)) ⟨_, _, rfl⟩ (Nat.le_of_ble_eq_true rfl) (by decide) (by decide) (Nat.le_of_ble_eq_true rfl) (by have e9 := c_bkMir (h := h) (F := F) (G := G) (b := 4) (by decide) xo_4; rw [show cnt (umP (G (4 + 2))) 648 = cnt (umP T) 648 from umP_cg hT] at e9; exact e9) ?_
  exact z_iret d_X11_rules_103 rfl er eh
set_option maxRecDepth 20000 in
set_option maxHeartbeats 4000000 in
theorem xc_rules_no {h : qH} {F G : Nat → Nat → Int} (what : Int) (hno : ¬ (0 ≤ what ∧ what ≤ 4)) : qEx M_X11_rules 0 [qR 2, qI what, qU] [] (xput h F G) (some (qI (-1))) (xput h F G) := by
  refine q_gen (fun r hr er eh => ?_)
  refine z_aload_n d_X11_rules_0 rfl rfl ?_
  refine z_getf (v := qR 3) d_X11_rules_1 fl_X11_12 (xput_ob (c := (F 2)) xi_2 rfl (xsh_11 xo_2)) rfl ?_
  refine z_getf (v := qR 4) d_X11_rules_4 fl_X11_144 (xput_ob (c := (F 3)) xi_3 rfl (xsh_8 xo_3)) rfl ?_
  refine z_astore_n (ls' := [qR 2, qI what, qR 4]) d_X11_rules_7 rfl (by decide) rfl ?_
  refine z_iload_n d_X11_rules_8 rfl rfl ?_
  refine z_tableOut 104 d_X11_rules_9 (by omega) (by decide) ?_
  refine z_iconst d_X11_rules_104 (by decide) ?_
  exact z_iret d_X11_rules_105 rfl er eh
set_option maxRecDepth 20000 in
set_option maxHeartbeats 4000000 in
theorem xc_used0 {h : qH} {F G : Nat → Nat → Int} {to : Nat} {T D R C : Nat → Int} (ht : 1 ≤ to ∧ to ≤ 24) (hT : ∀ c, c < 648 → G 6 c = T c) (hB : ∀ c, c < 648 → 0 ≤ T c ∧ T c ≤ 7) (hD : ∀ c, c < 648 → G 7 c = D c) (hR : bkR F G 4 R C) : ∃ F' G', (nfr F G F' G') ∧ qEx M_X11_used 0 [qR 2, qI (to : Int), qI 0] [] (xput h F G) (some (qI (cnt (fun q => rlP C q ∧ dcP (fun c => qb (usA T to c)) D (q : Int)) 96))) (xput h F' G') := by
  refine x_in (fun Q hQ => ?_)
  refine qy (fun _ _ k9 => z_iload_n d_X11_used_0 rfl rfl k9) ?_
  refine qy (fun _ _ k9 => z_cs (M1 := M_X11_isLength) d_X11_used_1 ls_X11_308 k_X11_isLength [qI (to : Int)] rfl rfl (Nat.le_of_ble_eq_true rfl) (by decide) (by decide) (Nat.le_of_ble_eq_true rfl) (c_isLength (to : Int)) k9) ?_
  refine qy2n (fun _ _ => z_ifeqB 16 d_X11_used_4 (by decide)) (fun hc1 => absurd hc1 (by omega)) (fun hc1 => ?_)
  refine qy (fun _ _ k9 => z_iload_n d_X11_used_7 rfl rfl k9) ?_
  refine qy (fun _ _ k9 => z_iconst d_X11_used_8 (by decide) k9) ?_
  refine qy (fun _ _ k9 => z_iconst d_X11_used_9 (by decide) k9) ?_
  refine qy (fun _ _ k9 => z_cs (M1 := M_X11_isWithin) d_X11_used_10 ls_X11_62 k_X11_isWithin [qI 0, qI 0, qI 2] rfl rfl (Nat.le_of_ble_eq_true rfl) (by decide) (by decide) (Nat.le_of_ble_eq_true rfl) (c_isWithin 0 0 2) k9) ?_
  refine qy2 (fun _ _ => z_ifneB 18 d_X11_used_13 (by decide)) (fun hc2 => ?_) (fun hc2 => absurd hc2 (by omega))
  refine qy (fun _ _ k9 => z_aload_n d_X11_used_18 rfl rfl k9) ?_
  refine qy (fun _ _ k9 => z_getf (v := qR 172) d_X11_used_19 fl_X11_40 (xput_ob (c := (F 2)) xi_2 rfl (xsh_11 xo_2)) rfl k9) ?_
  refine qy (fun _ _ k9 => z_aload_n d_X11_used_22 rfl rfl k9) ?_
  refine qy (fun _ _ k9 => z_getf (v := qR 3) d_X11_used_23 fl_X11_12 (xput_ob (c := (F 2)) xi_2 rfl (xsh_11 xo_2)) rfl k9) ?_
  refine qy (fun _ _ k9 => z_getf (v := qR 4) d_X11_used_26 fl_X11_144 (xput_ob (c := (F 3)) xi_3 rfl (xsh_8 xo_3)) rfl k9) ?_
  refine qy (fun _ _ k9 => z_getf (v := qR 6) d_X11_used_29 fl_X11_243 (xput_ob (c := (F 4)) xi_4 rfl (xsh_0 xo_4)) rfl k9) ?_
  refine qy (fun _ _ k9 => z_iload_n d_X11_used_32 rfl rfl k9) ?_
  obtain ⟨F1, G1, ⟨hv1, hs1, ha1⟩, hx1⟩ := c_noteRuns (h := h) (F := F) (G := G) (d := 6) (to := to) (T := T) xa_6 (by decide) (by omega) hT hB
  refine qy (fun _ _ k9 => z_cv0 (M1 := M_X9_noteRuns) d_X11_used_33 lv_X11_326 k_X9_noteRuns [qR 6, qI (to : Int)] rfl rfl (xput_ob (c := (F 172)) xi_172 rfl (xsh_9 xo_172)) ⟨_, _, rfl⟩ (Nat.le_of_ble_eq_true rfl) (by decide) (by decide) (Nat.le_of_ble_eq_true rfl) hx1 k9) ?_
  refine qy (fun _ _ k9 => z_iload_n d_X11_used_36 rfl rfl k9) ?_
  refine qy (fun _ _ k9 => z_iconst d_X11_used_37 (by decide) k9) ?_
  refine qy2 (fun _ _ => z_icmp_ne 49 d_X11_used_38 (by decide)) (fun hc3 => ?_) (fun hc3 => absurd (by decide) hc3)
  refine qy (fun _ _ k9 => z_iload_n d_X11_used_49 rfl rfl k9) ?_
  refine qy2 (fun _ _ => z_if_ne 70 d_X11_used_50 (by decide)) (fun hc4 => absurd hc4 (by decide)) (fun hc4 => ?_)
  refine qy (fun _ _ k9 => z_aload_n d_X11_used_53 rfl rfl k9) ?_
  refine qy (fun _ _ k9 => z_getf (v := qR 172) d_X11_used_54 fl_X11_40 (xput_ob (c := (F1 2)) xi_2 rfl (xsh_11 xo_2)) rfl k9) ?_
  refine qy (fun _ _ k9 => z_aload_n d_X11_used_57 rfl rfl k9) ?_
  refine qy (fun _ _ k9 => z_getf (v := qR 3) d_X11_used_58 fl_X11_12 (xput_ob (c := (F1 2)) xi_2 rfl (xsh_11 xo_2)) rfl k9) ?_
  refine qy (fun _ _ k9 => z_getf (v := qR 4) d_X11_used_61 fl_X11_144 (xput_ob (c := (F1 3)) xi_3 rfl (xsh_8 xo_3)) rfl k9) ?_
  refine qy (fun _ _ k9 => z_cv (M1 := M_X9_deciders) d_X11_used_64 lv_X11_258 k_X9_deciders [qR 4] rfl rfl (xput_ob (c := (F1 172)) xi_172 rfl (xsh_9 xo_172)) ⟨_, _, rfl⟩ (Nat.le_of_ble_eq_true rfl) (by decide) (by decide) (Nat.le_of_ble_eq_true rfl) (by have e9 := c_deciders (h := h) (F := F1) (b := 4) (G := G1) (by decide) xo_4 (bkR_cg hR (fun a ha hb => ⟨hv1.1 a (by omega), hv1.2.1 a (by omega) (by omega)⟩)); rw [cnt_congr (q := fun q => rlP C q ∧ dcP (fun c => qb (usA T to c)) D (q : Int)) (fun q hq => and_congr Iff.rfl (dcP_cg (fun c hc => ha1 c (by omega)) (fun c hc => by rw [hv1.2.1 7 (by decide) (by decide)]; exact hD c (by omega))))] at e9; exact e9) k9) ?_
  refine qy (fun _ _ k9 => z_goto 84 d_X11_used_67 (by decide) k9) ?_
  exact y_ret (hQ F1 G1 hv1) (z_iret d_X11_used_84 rfl rfl rfl)
set_option maxRecDepth 20000 in
set_option maxHeartbeats 4000000 in
theorem xc_used1 {h : qH} {F G : Nat → Nat → Int} {to : Nat} {T D R C : Nat → Int} (ht : 1 ≤ to ∧ to ≤ 24) (hT : ∀ c, c < 648 → G 6 c = T c) (hB : ∀ c, c < 648 → 0 ≤ T c ∧ T c ≤ 7) (hD : ∀ c, c < 648 → G 7 c = D c) (hR : bkR F G 4 R C) : ∃ F' G', (nfr F G F' G') ∧ qEx M_X11_used 0 [qR 2, qI (to : Int), qI 1] [] (xput h F G) (some (qI (fst (fun q => rlP C q ∧ ¬ dcP (fun c => qb (usA T to c)) D (q : Int)) 96))) (xput h F' G') := by
  refine x_in (fun Q hQ => ?_)
  refine qy (fun _ _ k9 => z_iload_n d_X11_used_0 rfl rfl k9) ?_
  refine qy (fun _ _ k9 => z_cs (M1 := M_X11_isLength) d_X11_used_1 ls_X11_308 k_X11_isLength [qI (to : Int)] rfl rfl (Nat.le_of_ble_eq_true rfl) (by decide) (by decide) (Nat.le_of_ble_eq_true rfl) (c_isLength (to : Int)) k9) ?_
  refine qy2n (fun _ _ => z_ifeqB 16 d_X11_used_4 (by decide)) (fun hc1 => absurd hc1 (by omega)) (fun hc1 => ?_)
  refine qy (fun _ _ k9 => z_iload_n d_X11_used_7 rfl rfl k9) ?_
  refine qy (fun _ _ k9 => z_iconst d_X11_used_8 (by decide) k9) ?_
  refine qy (fun _ _ k9 => z_iconst d_X11_used_9 (by decide) k9) ?_
  refine qy (fun _ _ k9 => z_cs (M1 := M_X11_isWithin) d_X11_used_10 ls_X11_62 k_X11_isWithin [qI 1, qI 0, qI 2] rfl rfl (Nat.le_of_ble_eq_true rfl) (by decide) (by decide) (Nat.le_of_ble_eq_true rfl) (c_isWithin 1 0 2) k9) ?_
  refine qy2 (fun _ _ => z_ifneB 18 d_X11_used_13 (by decide)) (fun hc2 => ?_) (fun hc2 => absurd hc2 (by omega))
  refine qy (fun _ _ k9 => z_aload_n d_X11_used_18 rfl rfl k9) ?_
  refine qy (fun _ _ k9 => z_getf (v := qR 172) d_X11_used_19 fl_X11_40 (xput_ob (c := (F 2)) xi_2 rfl (xsh_11 xo_2)) rfl k9) ?_
  refine qy (fun _ _ k9 => z_aload_n d_X11_used_22 rfl rfl k9) ?_
  refine qy (fun _ _ k9 => z_getf (v := qR 3) d_X11_used_23 fl_X11_12 (xput_ob (c := (F 2)) xi_2 rfl (xsh_11 xo_2)) rfl k9) ?_
  refine qy (fun _ _ k9 => z_getf (v := qR 4) d_X11_used_26 fl_X11_144 (xput_ob (c := (F 3)) xi_3 rfl (xsh_8 xo_3)) rfl k9) ?_
  refine qy (fun _ _ k9 => z_getf (v := qR 6) d_X11_used_29 fl_X11_243 (xput_ob (c := (F 4)) xi_4 rfl (xsh_0 xo_4)) rfl k9) ?_
  refine qy (fun _ _ k9 => z_iload_n d_X11_used_32 rfl rfl k9) ?_
  obtain ⟨F1, G1, ⟨hv1, hs1, ha1⟩, hx1⟩ := c_noteRuns (h := h) (F := F) (G := G) (d := 6) (to := to) (T := T) xa_6 (by decide) (by omega) hT hB
  refine qy (fun _ _ k9 => z_cv0 (M1 := M_X9_noteRuns) d_X11_used_33 lv_X11_326 k_X9_noteRuns [qR 6, qI (to : Int)] rfl rfl (xput_ob (c := (F 172)) xi_172 rfl (xsh_9 xo_172)) ⟨_, _, rfl⟩ (Nat.le_of_ble_eq_true rfl) (by decide) (by decide) (Nat.le_of_ble_eq_true rfl) hx1 k9) ?_
  refine qy (fun _ _ k9 => z_iload_n d_X11_used_36 rfl rfl k9) ?_
  refine qy (fun _ _ k9 => z_iconst d_X11_used_37 (by decide) k9) ?_
  refine qy2 (fun _ _ => z_icmp_ne 49 d_X11_used_38 (by decide)) (fun hc3 => ?_) (fun hc3 => absurd (by decide) hc3)
  refine qy (fun _ _ k9 => z_iload_n d_X11_used_49 rfl rfl k9) ?_
  refine qy2 (fun _ _ => z_if_ne 70 d_X11_used_50 (by decide)) (fun hc4 => ?_) (fun hc4 => absurd (by decide) hc4)
  refine qy (fun _ _ k9 => z_aload_n d_X11_used_70 rfl rfl k9) ?_
  refine qy (fun _ _ k9 => z_getf (v := qR 172) d_X11_used_71 fl_X11_40 (xput_ob (c := (F1 2)) xi_2 rfl (xsh_11 xo_2)) rfl k9) ?_
  refine qy (fun _ _ k9 => z_aload_n d_X11_used_74 rfl rfl k9) ?_
  refine qy (fun _ _ k9 => z_getf (v := qR 3) d_X11_used_75 fl_X11_12 (xput_ob (c := (F1 2)) xi_2 rfl (xsh_11 xo_2)) rfl k9) ?_
  refine qy (fun _ _ k9 => z_getf (v := qR 4) d_X11_used_78 fl_X11_144 (xput_ob (c := (F1 3)) xi_3 rfl (xsh_8 xo_3)) rfl k9) ?_
  refine qy (fun _ _ k9 => z_cv (M1 := M_X9_leastIdle) d_X11_used_81 lv_X11_262 k_X9_leastIdle [qR 4] rfl rfl (xput_ob (c := (F1 172)) xi_172 rfl (xsh_9 xo_172)) ⟨_, _, rfl⟩ (Nat.le_of_ble_eq_true rfl) (by decide) (by decide) (Nat.le_of_ble_eq_true rfl) (by have e9 := c_leastIdle (h := h) (F := F1) (b := 4) (G := G1) (by decide) xo_4 (bkR_cg hR (fun a ha hb => ⟨hv1.1 a (by omega), hv1.2.1 a (by omega) (by omega)⟩)); rw [fst_congr (q := fun q => rlP C q ∧ ¬ dcP (fun c => qb (usA T to c)) D (q : Int)) (fun q hq => and_congr Iff.rfl (not_congr (dcP_cg (fun c hc => ha1 c (by omega)) (fun c hc => by rw [hv1.2.1 7 (by decide) (by decide)]; exact hD c (by omega)))))] at e9; exact e9) k9) ?_
  exact y_ret (hQ F1 G1 hv1) (z_iret d_X11_used_84 rfl rfl rfl)
set_option maxRecDepth 20000 in
set_option maxHeartbeats 4000000 in
theorem xc_used2 {h : qH} {F G : Nat → Nat → Int} {to : Nat} {T D R C : Nat → Int} (ht : 1 ≤ to ∧ to ≤ 24) (hT : ∀ c, c < 648 → G 6 c = T c) (hB : ∀ c, c < 648 → 0 ≤ T c ∧ T c ≤ 7) (hD : ∀ c, c < 648 → G 7 c = D c) (hR : bkR F G 4 R C) : ∃ F' G', (nfr F G F' G') ∧ qEx M_X11_used 0 [qR 2, qI (to : Int), qI 2] [] (xput h F G) (some (qI (bst (usS T to)))) (xput h F' G') := by
  refine x_in (fun Q hQ => ?_)
  refine qy (fun _ _ k9 => z_iload_n d_X11_used_0 rfl rfl k9) ?_
  refine qy (fun _ _ k9 => z_cs (M1 := M_X11_isLength) d_X11_used_1 ls_X11_308 k_X11_isLength [qI (to : Int)] rfl rfl (Nat.le_of_ble_eq_true rfl) (by decide) (by decide) (Nat.le_of_ble_eq_true rfl) (c_isLength (to : Int)) k9) ?_
  refine qy2n (fun _ _ => z_ifeqB 16 d_X11_used_4 (by decide)) (fun hc1 => absurd hc1 (by omega)) (fun hc1 => ?_)
  refine qy (fun _ _ k9 => z_iload_n d_X11_used_7 rfl rfl k9) ?_
  refine qy (fun _ _ k9 => z_iconst d_X11_used_8 (by decide) k9) ?_
  refine qy (fun _ _ k9 => z_iconst d_X11_used_9 (by decide) k9) ?_
  refine qy (fun _ _ k9 => z_cs (M1 := M_X11_isWithin) d_X11_used_10 ls_X11_62 k_X11_isWithin [qI 2, qI 0, qI 2] rfl rfl (Nat.le_of_ble_eq_true rfl) (by decide) (by decide) (Nat.le_of_ble_eq_true rfl) (c_isWithin 2 0 2) k9) ?_
  refine qy2 (fun _ _ => z_ifneB 18 d_X11_used_13 (by decide)) (fun hc2 => ?_) (fun hc2 => absurd hc2 (by omega))
  refine qy (fun _ _ k9 => z_aload_n d_X11_used_18 rfl rfl k9) ?_
  refine qy (fun _ _ k9 => z_getf (v := qR 172) d_X11_used_19 fl_X11_40 (xput_ob (c := (F 2)) xi_2 rfl (xsh_11 xo_2)) rfl k9) ?_
  refine qy (fun _ _ k9 => z_aload_n d_X11_used_22 rfl rfl k9) ?_
  refine qy (fun _ _ k9 => z_getf (v := qR 3) d_X11_used_23 fl_X11_12 (xput_ob (c := (F 2)) xi_2 rfl (xsh_11 xo_2)) rfl k9) ?_
  refine qy (fun _ _ k9 => z_getf (v := qR 4) d_X11_used_26 fl_X11_144 (xput_ob (c := (F 3)) xi_3 rfl (xsh_8 xo_3)) rfl k9) ?_
  refine qy (fun _ _ k9 => z_getf (v := qR 6) d_X11_used_29 fl_X11_243 (xput_ob (c := (F 4)) xi_4 rfl (xsh_0 xo_4)) rfl k9) ?_
  refine qy (fun _ _ k9 => z_iload_n d_X11_used_32 rfl rfl k9) ?_
  obtain ⟨F1, G1, ⟨hv1, hs1, ha1⟩, hx1⟩ := c_noteRuns (h := h) (F := F) (G := G) (d := 6) (to := to) (T := T) xa_6 (by decide) (by omega) hT hB
  refine qy (fun _ _ k9 => z_cv0 (M1 := M_X9_noteRuns) d_X11_used_33 lv_X11_326 k_X9_noteRuns [qR 6, qI (to : Int)] rfl rfl (xput_ob (c := (F 172)) xi_172 rfl (xsh_9 xo_172)) ⟨_, _, rfl⟩ (Nat.le_of_ble_eq_true rfl) (by decide) (by decide) (Nat.le_of_ble_eq_true rfl) hx1 k9) ?_
  refine qy (fun _ _ k9 => z_iload_n d_X11_used_36 rfl rfl k9) ?_
  refine qy (fun _ _ k9 => z_iconst d_X11_used_37 (by decide) k9) ?_
  refine qy2 (fun _ _ => z_icmp_ne 49 d_X11_used_38 (by decide)) (fun hc3 => absurd hc3 (by decide)) (fun hc3 => ?_)
  refine qy (fun _ _ k9 => z_aload_n d_X11_used_41 rfl rfl k9) ?_
  refine qy (fun _ _ k9 => z_getf (v := qR 172) d_X11_used_42 fl_X11_40 (xput_ob (c := (F1 2)) xi_2 rfl (xsh_11 xo_2)) rfl k9) ?_
  refine qy (fun _ _ k9 => z_getf (v := qI ((F1 172) 4)) d_X11_used_45 fl_X11_330 (xput_ob (c := (F1 172)) xi_172 rfl (xsh_9 xo_172)) rfl k9) ?_
  exact y_ret (hQ F1 G1 hv1) (z_iret d_X11_used_48 rfl (qsi hs1.symm) rfl)
