/-! ===== CONTRACTS: BeaconWall: worn ===== -/
set_option maxRecDepth 20000 in
set_option maxHeartbeats 4000000 in
theorem xc_worn {h : qH} {F G : Nat → Nat → Int} {i to : Nat} {R C : Nat → Int} (ht : 1 ≤ to ∧ to ≤ 24) (hR : bkR F G 4 R C) (hO : bkOk R C) (hS7 : ∀ c, 567 ≤ c → c < 648 → G 6 c = 7 ∧ G 7 c = -1) (hi : i < 96) (hi2 : ((i % 24 : Nat) : Int) < C (i / 24)) (hrl : rlP C i) : ∃ F' G', (xfr 172 205 F G F' G' ∧ thi G') ∧ qEx M_X11_worn 0 [qR 2, qI (i : Int), qI (to : Int)] [] (xput h F G) (some (qI (fbR (bkTc (qup R (4 * i) 0) C 15 (-1) (-1) 0) to))) (xput h F' G') := by
  refine x_in (fun Q hQ => ?_)
  refine qy (fun _ _ k9 => z_aload_n d_X11_worn_0 rfl rfl k9) ?_
  refine qy (fun _ _ k9 => z_getf (v := qR 3) d_X11_worn_1 fl_X11_12 (xput_ob (c := (F 2)) xi_2 rfl (xsh_11 xo_2)) rfl k9) ?_
  refine qy (fun _ _ k9 => z_getf (v := qR 4) d_X11_worn_4 fl_X11_144 (xput_ob (c := (F 3)) xi_3 rfl (xsh_8 xo_3)) rfl k9) ?_
  refine qy (fun _ _ k9 => z_iload_n d_X11_worn_7 rfl rfl k9) ?_
  refine qy (fun _ _ k9 => z_cv (M1 := M_X0_has) d_X11_worn_8 lv_X11_362 k_X0_has [qI (i : Int)] rfl rfl (xput_ob (c := (F 4)) xi_4 rfl (xsh_0 xo_4)) ⟨_, _, rfl⟩ (Nat.le_of_ble_eq_true rfl) (by decide) (by decide) (Nat.le_of_ble_eq_true rfl) (c_bkHas (b := 4) i (by decide) xo_4 hi hR) k9) ?_
  refine qy2n (fun _ _ => z_ifeqB 21 d_X11_worn_11 (by decide)) (fun hc1 => absurd hc1 (by exact not_not_intro hrl)) (fun hc1 => ?_)
  refine qy (fun _ _ k9 => z_iload_n d_X11_worn_14 rfl rfl k9) ?_
  refine qy (fun _ _ k9 => z_cs (M1 := M_X11_isLength) d_X11_worn_15 ls_X11_308 k_X11_isLength [qI (to : Int)] rfl rfl (Nat.le_of_ble_eq_true rfl) (by decide) (by decide) (Nat.le_of_ble_eq_true rfl) (c_isLength (to : Int)) k9) ?_
  refine qy2 (fun _ _ => z_ifneB 23 d_X11_worn_18 (by decide)) (fun hc2 => ?_) (fun hc2 => absurd hc2 (by omega))
  refine qy (fun _ _ k9 => z_aload_n d_X11_worn_23 rfl rfl k9) ?_
  refine qy (fun _ _ k9 => z_getf (v := qR 172) d_X11_worn_24 fl_X11_40 (xput_ob (c := (F 2)) xi_2 rfl (xsh_11 xo_2)) rfl k9) ?_
  refine qy (fun _ _ k9 => z_aload_n d_X11_worn_27 rfl rfl k9) ?_
  refine qy (fun _ _ k9 => z_getf (v := qR 3) d_X11_worn_28 fl_X11_12 (xput_ob (c := (F 2)) xi_2 rfl (xsh_11 xo_2)) rfl k9) ?_
  refine qy (fun _ _ k9 => z_getf (v := qR 4) d_X11_worn_31 fl_X11_144 (xput_ob (c := (F 3)) xi_3 rfl (xsh_8 xo_3)) rfl k9) ?_
  refine qy (fun _ _ k9 => z_iload_n d_X11_worn_34 rfl rfl k9) ?_
  refine qy (fun _ _ k9 => z_iload_n d_X11_worn_35 rfl rfl k9) ?_
  obtain ⟨F1, G1, ⟨hv1, hq1⟩, hx1⟩ := c_fbWithout (h := h) (F := F) (G := G) (b := 4) (to := to) (R := R) (C := C) i (by decide) xo_4 (by decide) (by omega) hR hO hS7 hi hi2
  refine qy (fun _ _ k9 => z_cv (M1 := M_X9_firstBadWithout) d_X11_worn_36 lv_X11_363 k_X9_firstBadWithout [qR 4, qI (i : Int), qI (to : Int)] rfl rfl (xput_ob (c := (F 172)) xi_172 rfl (xsh_9 xo_172)) ⟨_, _, rfl⟩ (Nat.le_of_ble_eq_true rfl) (by decide) (by decide) (Nat.le_of_ble_eq_true rfl) hx1 k9) ?_
  exact y_ret (hQ F1 G1 (⟨hv1, hq1⟩)) (z_iret d_X11_worn_39 rfl rfl rfl)
