/-! ===== CONTRACTS: the state: copyFrom, with the other book's table; image ===== -/
set_option maxRecDepth 20000 in
set_option maxHeartbeats 4000000 in
theorem c_stCpy65 {h : qH} {F G : Nat → Nat → Int} {R C T D R' C' PL TL LL ML N : Nat → Int} {pl tl ll ml : Nat} (hS : staR F G 3 R C T D R' C' pl tl ll ml PL TL LL ML N) (h01 : N 161 = 0 ∨ N 161 = 1) : ∃ F' G', (xfr 65 126 F G F' G' ∧ staR F' G' 65 R C T D R' C' pl tl ll ml PL TL LL ML N ∧ ∀ j, j < 648 → G' 92 j = G 30 j) ∧ qEx M_X8_copyFrom 0 [qR 65, qR 3] [] (xput h F G) none (xput h F' G') := by
  refine x_in (fun Q hQ => ?_)
  refine qy (fun _ _ k9 => z_aload_n d_X8_copyFrom_0 rfl rfl k9) ?_
  refine qy (fun _ _ k9 => z_getf (v := qR 66) d_X8_copyFrom_1 fl_X8_12 (xput_ob (c := (F 65)) xi_65 rfl (xsh_8 xo_65)) rfl k9) ?_
  refine qy (fun _ _ k9 => z_aload_n d_X8_copyFrom_4 rfl rfl k9) ?_
  refine qy (fun _ _ k9 => z_getf (v := qR 4) d_X8_copyFrom_5 fl_X8_12 (xput_ob (c := (F 3)) xi_3 rfl (xsh_8 xo_3)) rfl k9) ?_
  obtain ⟨F1, G1, ⟨hv1, hw1, ha1, hd1⟩, hx1⟩ := c_bkCopy (h := h) (F := F) (G := G) (b := 66) (c := 4) (R := R) (C := C) (by decide) xo_66 (by decide) xo_4 (by decide) hS.1.1
  refine qy (fun _ _ k9 => z_cv0 (M1 := M_X0_copyFrom) d_X8_copyFrom_8 lv_X8_46 k_X0_copyFrom [qR 4] rfl rfl (xput_ob (c := (F 66)) xi_66 rfl (xsh_0 xo_66)) ⟨_, _, rfl⟩ (Nat.le_of_ble_eq_true rfl) (by decide) (by decide) (Nat.le_of_ble_eq_true rfl) hx1 k9) ?_
  refine qy (fun _ _ k9 => z_aload_n d_X8_copyFrom_11 rfl rfl k9) ?_
  refine qy (fun _ _ k9 => z_getf (v := qR 90) d_X8_copyFrom_12 fl_X8_18 (xput_ob (c := (F1 65)) xi_65 rfl (xsh_8 xo_65)) rfl k9) ?_
  refine qy (fun _ _ k9 => z_aload_n d_X8_copyFrom_15 rfl rfl k9) ?_
  refine qy (fun _ _ k9 => z_getf (v := qR 28) d_X8_copyFrom_16 fl_X8_18 (xput_ob (c := (F1 3)) xi_3 rfl (xsh_8 xo_3)) rfl k9) ?_
  obtain ⟨F2, G2, ⟨hv2, hw2, ha2, hd2⟩, hx2⟩ := c_bkCopy (h := h) (F := F1) (G := G1) (b := 90) (c := 28) (R := R') (C := C') (by decide) xo_90 (by decide) xo_28 (by decide) (bkR_cg hS.2.1 (fun a h1 h2 => ⟨(xfr_F hv1 (by omega)), (xfr_G hv1 (by omega))⟩))
  refine qy (fun _ _ k9 => z_cv0 (M1 := M_X0_copyFrom) d_X8_copyFrom_19 lv_X8_46 k_X0_copyFrom [qR 28] rfl rfl (xput_ob (c := (F1 90)) xi_90 rfl (xsh_0 xo_90)) ⟨_, _, rfl⟩ (Nat.le_of_ble_eq_true rfl) (by decide) (by decide) (Nat.le_of_ble_eq_true rfl) hx2 k9) ?_
  refine qy (fun _ _ k9 => z_aload_n d_X8_copyFrom_22 rfl rfl k9) ?_
  refine qy (fun _ _ k9 => z_getf (v := qR 114) d_X8_copyFrom_23 fl_X8_26 (xput_ob (c := (F2 65)) xi_65 rfl (xsh_8 xo_65)) rfl k9) ?_
  refine qy (fun _ _ k9 => z_aload_n d_X8_copyFrom_26 rfl rfl k9) ?_
  refine qy (fun _ _ k9 => z_getf (v := qR 52) d_X8_copyFrom_27 fl_X8_26 (xput_ob (c := (F2 3)) xi_3 rfl (xsh_8 xo_3)) rfl k9) ?_
  obtain ⟨F3, G3, ⟨hv3, hw3⟩, hx3⟩ := c_rwCp (h := h) (F := F2) (G := G2) (q := 114) (p := 52) (by decide) xo_114 (by decide) xo_52 (by decide) (rwR_cg hS.2.2.1 ((xfr_F hv2 (by omega)).trans (xfr_F hv1 (by omega))) ((xfr_G hv2 (by omega)).trans (xfr_G hv1 (by omega)))) (by decide)
  refine qy (fun _ _ k9 => z_cv0 (M1 := M_X6_copyFrom) d_X8_copyFrom_30 lv_X8_50 k_X6_copyFrom [qR 52] rfl rfl (xput_ob (c := (F2 114)) xi_114 rfl (xsh_6 xo_114)) ⟨_, _, rfl⟩ (Nat.le_of_ble_eq_true rfl) (by decide) (by decide) (Nat.le_of_ble_eq_true rfl) hx3 k9) ?_
  refine qy (fun _ _ k9 => z_aload_n d_X8_copyFrom_33 rfl rfl k9) ?_
  refine qy (fun _ _ k9 => z_getf (v := qR 116) d_X8_copyFrom_34 fl_X8_30 (xput_ob (c := (F3 65)) xi_65 rfl (xsh_8 xo_65)) rfl k9) ?_
  refine qy (fun _ _ k9 => z_aload_n d_X8_copyFrom_37 rfl rfl k9) ?_
  refine qy (fun _ _ k9 => z_getf (v := qR 54) d_X8_copyFrom_38 fl_X8_30 (xput_ob (c := (F3 3)) xi_3 rfl (xsh_8 xo_3)) rfl k9) ?_
  obtain ⟨F4, G4, ⟨hv4, hw4⟩, hx4⟩ := c_rwCp (h := h) (F := F3) (G := G3) (q := 116) (p := 54) (by decide) xo_116 (by decide) xo_54 (by decide) (rwR_cg hS.2.2.2.1 (((xfr_F hv3 (by omega)).trans (xfr_F hv2 (by omega))).trans (xfr_F hv1 (by omega))) (((xfr_G hv3 (by omega)).trans (xfr_G hv2 (by omega))).trans (xfr_G hv1 (by omega)))) (by decide)
  refine qy (fun _ _ k9 => z_cv0 (M1 := M_X6_copyFrom) d_X8_copyFrom_41 lv_X8_50 k_X6_copyFrom [qR 54] rfl rfl (xput_ob (c := (F3 116)) xi_116 rfl (xsh_6 xo_116)) ⟨_, _, rfl⟩ (Nat.le_of_ble_eq_true rfl) (by decide) (by decide) (Nat.le_of_ble_eq_true rfl) hx4 k9) ?_
  refine qy (fun _ _ k9 => z_aload_n d_X8_copyFrom_44 rfl rfl k9) ?_
  refine qy (fun _ _ k9 => z_getf (v := qR 118) d_X8_copyFrom_45 fl_X8_36 (xput_ob (c := (F4 65)) xi_65 rfl (xsh_8 xo_65)) rfl k9) ?_
  refine qy (fun _ _ k9 => z_aload_n d_X8_copyFrom_48 rfl rfl k9) ?_
  refine qy (fun _ _ k9 => z_getf (v := qR 56) d_X8_copyFrom_49 fl_X8_36 (xput_ob (c := (F4 3)) xi_3 rfl (xsh_8 xo_3)) rfl k9) ?_
  obtain ⟨F5, G5, ⟨hv5, hw5⟩, hx5⟩ := c_wlCopy (h := h) (F := F4) (G := G4) (wl := 118) (vl := 56) (N := N) (by decide) xo_118 (by decide) xo_56 (by decide) h01 (wlR_cg hS.2.2.2.2.1 ((((xfr_F hv4 (by omega)).trans (xfr_F hv3 (by omega))).trans (xfr_F hv2 (by omega))).trans (xfr_F hv1 (by omega))) ((((xfr_G hv4 (by omega)).trans (xfr_G hv3 (by omega))).trans (xfr_G hv2 (by omega))).trans (xfr_G hv1 (by omega))) ((((xfr_G hv4 (by omega)).trans (xfr_G hv3 (by omega))).trans (xfr_G hv2 (by omega))).trans (xfr_G hv1 (by omega))) ((((xfr_G hv4 (by omega)).trans (xfr_G hv3 (by omega))).trans (xfr_G hv2 (by omega))).trans (xfr_G hv1 (by omega))))
  refine qy (fun _ _ k9 => z_cv0 (M1 := M_X10_copyFrom) d_X8_copyFrom_52 lv_X8_53 k_X10_copyFrom [qR 56] rfl rfl (xput_ob (c := (F4 118)) xi_118 rfl (xsh_10 xo_118)) ⟨_, _, rfl⟩ (Nat.le_of_ble_eq_true rfl) (by decide) (by decide) (Nat.le_of_ble_eq_true rfl) hx5 k9) ?_
  refine qy (fun _ _ k9 => z_aload_n d_X8_copyFrom_55 rfl rfl k9) ?_
  refine qy (fun _ _ k9 => z_getf (v := qR 123) d_X8_copyFrom_56 fl_X8_40 (xput_ob (c := (F5 65)) xi_65 rfl (xsh_8 xo_65)) rfl k9) ?_
  refine qy (fun _ _ k9 => z_aload_n d_X8_copyFrom_59 rfl rfl k9) ?_
  refine qy (fun _ _ k9 => z_getf (v := qR 61) d_X8_copyFrom_60 fl_X8_40 (xput_ob (c := (F5 3)) xi_3 rfl (xsh_8 xo_3)) rfl k9) ?_
  obtain ⟨F6, G6, ⟨hv6, hw6⟩, hx6⟩ := c_rwCp (h := h) (F := F5) (G := G5) (q := 123) (p := 61) (by decide) xo_123 (by decide) xo_61 (by decide) (rwR_cg hS.2.2.2.2.2.1 (((((xfr_F hv5 (by omega)).trans (xfr_F hv4 (by omega))).trans (xfr_F hv3 (by omega))).trans (xfr_F hv2 (by omega))).trans (xfr_F hv1 (by omega))) (((((xfr_G hv5 (by omega)).trans (xfr_G hv4 (by omega))).trans (xfr_G hv3 (by omega))).trans (xfr_G hv2 (by omega))).trans (xfr_G hv1 (by omega)))) (by decide)
  refine qy (fun _ _ k9 => z_cv0 (M1 := M_X6_copyFrom) d_X8_copyFrom_63 lv_X8_50 k_X6_copyFrom [qR 61] rfl rfl (xput_ob (c := (F5 123)) xi_123 rfl (xsh_6 xo_123)) ⟨_, _, rfl⟩ (Nat.le_of_ble_eq_true rfl) (by decide) (by decide) (Nat.le_of_ble_eq_true rfl) hx6 k9) ?_
  refine qy (fun _ _ k9 => z_aload_n d_X8_copyFrom_66 rfl rfl k9) ?_
  refine qy (fun _ _ k9 => z_getf (v := qR 125) d_X8_copyFrom_67 fl_X8_43 (xput_ob (c := (F6 65)) xi_65 rfl (xsh_8 xo_65)) rfl k9) ?_
  refine qy (fun _ _ k9 => z_aload_n d_X8_copyFrom_70 rfl rfl k9) ?_
  refine qy (fun _ _ k9 => z_getf (v := qR 63) d_X8_copyFrom_71 fl_X8_43 (xput_ob (c := (F6 3)) xi_3 rfl (xsh_8 xo_3)) rfl k9) ?_
  obtain ⟨F7, G7, ⟨hv7, hw7⟩, hx7⟩ := c_rwCp (h := h) (F := F6) (G := G6) (q := 125) (p := 63) (by decide) xo_125 (by decide) xo_63 (by decide) (rwR_cg hS.2.2.2.2.2.2 ((((((xfr_F hv6 (by omega)).trans (xfr_F hv5 (by omega))).trans (xfr_F hv4 (by omega))).trans (xfr_F hv3 (by omega))).trans (xfr_F hv2 (by omega))).trans (xfr_F hv1 (by omega))) ((((((xfr_G hv6 (by omega)).trans (xfr_G hv5 (by omega))).trans (xfr_G hv4 (by omega))).trans (xfr_G hv3 (by omega))).trans (xfr_G hv2 (by omega))).trans (xfr_G hv1 (by omega)))) (by decide)
  refine qy (fun _ _ k9 => z_cv0 (M1 := M_X6_copyFrom) d_X8_copyFrom_74 lv_X8_50 k_X6_copyFrom [qR 63] rfl rfl (xput_ob (c := (F6 125)) xi_125 rfl (xsh_6 xo_125)) ⟨_, _, rfl⟩ (Nat.le_of_ble_eq_true rfl) (by decide) (by decide) (Nat.le_of_ble_eq_true rfl) hx7 k9) ?_
  exact y_ret (hQ F7 G7 (⟨xfr_tr (xfr_tr (xfr_tr (xfr_tr (xfr_tr (xfr_tr (xfr_tr (xfr_rf _ _ _ _) (xfr_wd hv1 (by decide) (by decide))) (xfr_wd hv2 (by decide) (by decide))) (xfr_wd hv3 (by decide) (by decide))) (xfr_wd hv4 (by decide) (by decide))) (xfr_wd hv5 (by decide) (by decide))) (xfr_wd hv6 (by decide) (by decide))) (xfr_wd hv7 (by decide) (by decide)), ⟨⟨bkR_cg hw1 (fun a h1 h2 => ⟨((((((xfr_F hv7 (by omega)).trans (xfr_F hv6 (by omega))).trans (xfr_F hv5 (by omega))).trans (xfr_F hv4 (by omega))).trans (xfr_F hv3 (by omega))).trans (xfr_F hv2 (by omega))), ((((((xfr_G hv7 (by omega)).trans (xfr_G hv6 (by omega))).trans (xfr_G hv5 (by omega))).trans (xfr_G hv4 (by omega))).trans (xfr_G hv3 (by omega))).trans (xfr_G hv2 (by omega)))⟩), fun j hj => (by rw [xfr_G hv7 (by decide), xfr_G hv6 (by decide), xfr_G hv5 (by decide), xfr_G hv4 (by decide), xfr_G hv3 (by decide), xfr_G hv2 (by decide), ha1 j hj]; exact hS.1.2.1 j hj), fun j hj => (by rw [xfr_G hv7 (by decide), xfr_G hv6 (by decide), xfr_G hv5 (by decide), xfr_G hv4 (by decide), xfr_G hv3 (by decide), xfr_G hv2 (by decide), hd1 j hj]; exact hS.1.2.2 j hj)⟩, bkR_cg hw2 (fun a h1 h2 => ⟨(((((xfr_F hv7 (by omega)).trans (xfr_F hv6 (by omega))).trans (xfr_F hv5 (by omega))).trans (xfr_F hv4 (by omega))).trans (xfr_F hv3 (by omega))), (((((xfr_G hv7 (by omega)).trans (xfr_G hv6 (by omega))).trans (xfr_G hv5 (by omega))).trans (xfr_G hv4 (by omega))).trans (xfr_G hv3 (by omega)))⟩), rwR_cg hw3 ((((xfr_F hv7 (by omega)).trans (xfr_F hv6 (by omega))).trans (xfr_F hv5 (by omega))).trans (xfr_F hv4 (by omega))) ((((xfr_G hv7 (by omega)).trans (xfr_G hv6 (by omega))).trans (xfr_G hv5 (by omega))).trans (xfr_G hv4 (by omega))), rwR_cg hw4 (((xfr_F hv7 (by omega)).trans (xfr_F hv6 (by omega))).trans (xfr_F hv5 (by omega))) (((xfr_G hv7 (by omega)).trans (xfr_G hv6 (by omega))).trans (xfr_G hv5 (by omega))), wlR_cg hw5 ((xfr_F hv7 (by omega)).trans (xfr_F hv6 (by omega))) ((xfr_G hv7 (by omega)).trans (xfr_G hv6 (by omega))) ((xfr_G hv7 (by omega)).trans (xfr_G hv6 (by omega))) ((xfr_G hv7 (by omega)).trans (xfr_G hv6 (by omega))), rwR_cg hw6 (xfr_F hv7 (by omega)) (xfr_G hv7 (by omega)), hw7⟩, fun j hj => (by rw [xfr_G hv7 (by decide), xfr_G hv6 (by decide), xfr_G hv5 (by decide), xfr_G hv4 (by decide), xfr_G hv3 (by decide), ha2 j hj, xfr_G hv1 (by decide)])⟩)) (z_vret d_X8_copyFrom_77 rfl rfl rfl)
set_option maxRecDepth 20000 in
set_option maxHeartbeats 4000000 in
theorem c_stCpy3 {h : qH} {F G : Nat → Nat → Int} {R C T D R' C' PL TL LL ML N : Nat → Int} {pl tl ll ml : Nat} (hS : staR F G 65 R C T D R' C' pl tl ll ml PL TL LL ML N) (h01 : N 161 = 0 ∨ N 161 = 1) : ∃ F' G', (xfr 3 64 F G F' G' ∧ staR F' G' 3 R C T D R' C' pl tl ll ml PL TL LL ML N ∧ ∀ j, j < 648 → G' 30 j = G 92 j) ∧ qEx M_X8_copyFrom 0 [qR 3, qR 65] [] (xput h F G) none (xput h F' G') := by
  refine x_in (fun Q hQ => ?_)
  refine qy (fun _ _ k9 => z_aload_n d_X8_copyFrom_0 rfl rfl k9) ?_
  refine qy (fun _ _ k9 => z_getf (v := qR 4) d_X8_copyFrom_1 fl_X8_12 (xput_ob (c := (F 3)) xi_3 rfl (xsh_8 xo_3)) rfl k9) ?_
  refine qy (fun _ _ k9 => z_aload_n d_X8_copyFrom_4 rfl rfl k9) ?_
  refine qy (fun _ _ k9 => z_getf (v := qR 66) d_X8_copyFrom_5 fl_X8_12 (xput_ob (c := (F 65)) xi_65 rfl (xsh_8 xo_65)) rfl k9) ?_
  obtain ⟨F1, G1, ⟨hv1, hw1, ha1, hd1⟩, hx1⟩ := c_bkCopy (h := h) (F := F) (G := G) (b := 4) (c := 66) (R := R) (C := C) (by decide) xo_4 (by decide) xo_66 (by decide) hS.1.1
  refine qy (fun _ _ k9 => z_cv0 (M1 := M_X0_copyFrom) d_X8_copyFrom_8 lv_X8_46 k_X0_copyFrom [qR 66] rfl rfl (xput_ob (c := (F 4)) xi_4 rfl (xsh_0 xo_4)) ⟨_, _, rfl⟩ (Nat.le_of_ble_eq_true rfl) (by decide) (by decide) (Nat.le_of_ble_eq_true rfl) hx1 k9) ?_
  refine qy (fun _ _ k9 => z_aload_n d_X8_copyFrom_11 rfl rfl k9) ?_
  refine qy (fun _ _ k9 => z_getf (v := qR 28) d_X8_copyFrom_12 fl_X8_18 (xput_ob (c := (F1 3)) xi_3 rfl (xsh_8 xo_3)) rfl k9) ?_
  refine qy (fun _ _ k9 => z_aload_n d_X8_copyFrom_15 rfl rfl k9) ?_
  refine qy (fun _ _ k9 => z_getf (v := qR 90) d_X8_copyFrom_16 fl_X8_18 (xput_ob (c := (F1 65)) xi_65 rfl (xsh_8 xo_65)) rfl k9) ?_
  obtain ⟨F2, G2, ⟨hv2, hw2, ha2, hd2⟩, hx2⟩ := c_bkCopy (h := h) (F := F1) (G := G1) (b := 28) (c := 90) (R := R') (C := C') (by decide) xo_28 (by decide) xo_90 (by decide) (bkR_cg hS.2.1 (fun a h1 h2 => ⟨(xfr_F hv1 (by omega)), (xfr_G hv1 (by omega))⟩))
  refine qy (fun _ _ k9 => z_cv0 (M1 := M_X0_copyFrom) d_X8_copyFrom_19 lv_X8_46 k_X0_copyFrom [qR 90] rfl rfl (xput_ob (c := (F1 28)) xi_28 rfl (xsh_0 xo_28)) ⟨_, _, rfl⟩ (Nat.le_of_ble_eq_true rfl) (by decide) (by decide) (Nat.le_of_ble_eq_true rfl) hx2 k9) ?_
  refine qy (fun _ _ k9 => z_aload_n d_X8_copyFrom_22 rfl rfl k9) ?_
  refine qy (fun _ _ k9 => z_getf (v := qR 52) d_X8_copyFrom_23 fl_X8_26 (xput_ob (c := (F2 3)) xi_3 rfl (xsh_8 xo_3)) rfl k9) ?_
  refine qy (fun _ _ k9 => z_aload_n d_X8_copyFrom_26 rfl rfl k9) ?_
  refine qy (fun _ _ k9 => z_getf (v := qR 114) d_X8_copyFrom_27 fl_X8_26 (xput_ob (c := (F2 65)) xi_65 rfl (xsh_8 xo_65)) rfl k9) ?_
  obtain ⟨F3, G3, ⟨hv3, hw3⟩, hx3⟩ := c_rwCp (h := h) (F := F2) (G := G2) (q := 52) (p := 114) (by decide) xo_52 (by decide) xo_114 (by decide) (rwR_cg hS.2.2.1 ((xfr_F hv2 (by omega)).trans (xfr_F hv1 (by omega))) ((xfr_G hv2 (by omega)).trans (xfr_G hv1 (by omega)))) (by decide)
  refine qy (fun _ _ k9 => z_cv0 (M1 := M_X6_copyFrom) d_X8_copyFrom_30 lv_X8_50 k_X6_copyFrom [qR 114] rfl rfl (xput_ob (c := (F2 52)) xi_52 rfl (xsh_6 xo_52)) ⟨_, _, rfl⟩ (Nat.le_of_ble_eq_true rfl) (by decide) (by decide) (Nat.le_of_ble_eq_true rfl) hx3 k9) ?_
  refine qy (fun _ _ k9 => z_aload_n d_X8_copyFrom_33 rfl rfl k9) ?_
  refine qy (fun _ _ k9 => z_getf (v := qR 54) d_X8_copyFrom_34 fl_X8_30 (xput_ob (c := (F3 3)) xi_3 rfl (xsh_8 xo_3)) rfl k9) ?_
  refine qy (fun _ _ k9 => z_aload_n d_X8_copyFrom_37 rfl rfl k9) ?_
  refine qy (fun _ _ k9 => z_getf (v := qR 116) d_X8_copyFrom_38 fl_X8_30 (xput_ob (c := (F3 65)) xi_65 rfl (xsh_8 xo_65)) rfl k9) ?_
  obtain ⟨F4, G4, ⟨hv4, hw4⟩, hx4⟩ := c_rwCp (h := h) (F := F3) (G := G3) (q := 54) (p := 116) (by decide) xo_54 (by decide) xo_116 (by decide) (rwR_cg hS.2.2.2.1 (((xfr_F hv3 (by omega)).trans (xfr_F hv2 (by omega))).trans (xfr_F hv1 (by omega))) (((xfr_G hv3 (by omega)).trans (xfr_G hv2 (by omega))).trans (xfr_G hv1 (by omega)))) (by decide)
  refine qy (fun _ _ k9 => z_cv0 (M1 := M_X6_copyFrom) d_X8_copyFrom_41 lv_X8_50 k_X6_copyFrom [qR 116] rfl rfl (xput_ob (c := (F3 54)) xi_54 rfl (xsh_6 xo_54)) ⟨_, _, rfl⟩ (Nat.le_of_ble_eq_true rfl) (by decide) (by decide) (Nat.le_of_ble_eq_true rfl) hx4 k9) ?_
  refine qy (fun _ _ k9 => z_aload_n d_X8_copyFrom_44 rfl rfl k9) ?_
  refine qy (fun _ _ k9 => z_getf (v := qR 56) d_X8_copyFrom_45 fl_X8_36 (xput_ob (c := (F4 3)) xi_3 rfl (xsh_8 xo_3)) rfl k9) ?_
  refine qy (fun _ _ k9 => z_aload_n d_X8_copyFrom_48 rfl rfl k9) ?_
  refine qy (fun _ _ k9 => z_getf (v := qR 118) d_X8_copyFrom_49 fl_X8_36 (xput_ob (c := (F4 65)) xi_65 rfl (xsh_8 xo_65)) rfl k9) ?_
  obtain ⟨F5, G5, ⟨hv5, hw5⟩, hx5⟩ := c_wlCopy (h := h) (F := F4) (G := G4) (wl := 56) (vl := 118) (N := N) (by decide) xo_56 (by decide) xo_118 (by decide) h01 (wlR_cg hS.2.2.2.2.1 ((((xfr_F hv4 (by omega)).trans (xfr_F hv3 (by omega))).trans (xfr_F hv2 (by omega))).trans (xfr_F hv1 (by omega))) ((((xfr_G hv4 (by omega)).trans (xfr_G hv3 (by omega))).trans (xfr_G hv2 (by omega))).trans (xfr_G hv1 (by omega))) ((((xfr_G hv4 (by omega)).trans (xfr_G hv3 (by omega))).trans (xfr_G hv2 (by omega))).trans (xfr_G hv1 (by omega))) ((((xfr_G hv4 (by omega)).trans (xfr_G hv3 (by omega))).trans (xfr_G hv2 (by omega))).trans (xfr_G hv1 (by omega))))
  refine qy (fun _ _ k9 => z_cv0 (M1 := M_X10_copyFrom) d_X8_copyFrom_52 lv_X8_53 k_X10_copyFrom [qR 118] rfl rfl (xput_ob (c := (F4 56)) xi_56 rfl (xsh_10 xo_56)) ⟨_, _, rfl⟩ (Nat.le_of_ble_eq_true rfl) (by decide) (by decide) (Nat.le_of_ble_eq_true rfl) hx5 k9) ?_
  refine qy (fun _ _ k9 => z_aload_n d_X8_copyFrom_55 rfl rfl k9) ?_
  refine qy (fun _ _ k9 => z_getf (v := qR 61) d_X8_copyFrom_56 fl_X8_40 (xput_ob (c := (F5 3)) xi_3 rfl (xsh_8 xo_3)) rfl k9) ?_
  refine qy (fun _ _ k9 => z_aload_n d_X8_copyFrom_59 rfl rfl k9) ?_
  refine qy (fun _ _ k9 => z_getf (v := qR 123) d_X8_copyFrom_60 fl_X8_40 (xput_ob (c := (F5 65)) xi_65 rfl (xsh_8 xo_65)) rfl k9) ?_
  obtain ⟨F6, G6, ⟨hv6, hw6⟩, hx6⟩ := c_rwCp (h := h) (F := F5) (G := G5) (q := 61) (p := 123) (by decide) xo_61 (by decide) xo_123 (by decide) (rwR_cg hS.2.2.2.2.2.1 (((((xfr_F hv5 (by omega)).trans (xfr_F hv4 (by omega))).trans (xfr_F hv3 (by omega))).trans (xfr_F hv2 (by omega))).trans (xfr_F hv1 (by omega))) (((((xfr_G hv5 (by omega)).trans (xfr_G hv4 (by omega))).trans (xfr_G hv3 (by omega))).trans (xfr_G hv2 (by omega))).trans (xfr_G hv1 (by omega)))) (by decide)
  refine qy (fun _ _ k9 => z_cv0 (M1 := M_X6_copyFrom) d_X8_copyFrom_63 lv_X8_50 k_X6_copyFrom [qR 123] rfl rfl (xput_ob (c := (F5 61)) xi_61 rfl (xsh_6 xo_61)) ⟨_, _, rfl⟩ (Nat.le_of_ble_eq_true rfl) (by decide) (by decide) (Nat.le_of_ble_eq_true rfl) hx6 k9) ?_
  refine qy (fun _ _ k9 => z_aload_n d_X8_copyFrom_66 rfl rfl k9) ?_
  refine qy (fun _ _ k9 => z_getf (v := qR 63) d_X8_copyFrom_67 fl_X8_43 (xput_ob (c := (F6 3)) xi_3 rfl (xsh_8 xo_3)) rfl k9) ?_
  refine qy (fun _ _ k9 => z_aload_n d_X8_copyFrom_70 rfl rfl k9) ?_
  refine qy (fun _ _ k9 => z_getf (v := qR 125) d_X8_copyFrom_71 fl_X8_43 (xput_ob (c := (F6 65)) xi_65 rfl (xsh_8 xo_65)) rfl k9) ?_
  obtain ⟨F7, G7, ⟨hv7, hw7⟩, hx7⟩ := c_rwCp (h := h) (F := F6) (G := G6) (q := 63) (p := 125) (by decide) xo_63 (by decide) xo_125 (by decide) (rwR_cg hS.2.2.2.2.2.2 ((((((xfr_F hv6 (by omega)).trans (xfr_F hv5 (by omega))).trans (xfr_F hv4 (by omega))).trans (xfr_F hv3 (by omega))).trans (xfr_F hv2 (by omega))).trans (xfr_F hv1 (by omega))) ((((((xfr_G hv6 (by omega)).trans (xfr_G hv5 (by omega))).trans (xfr_G hv4 (by omega))).trans (xfr_G hv3 (by omega))).trans (xfr_G hv2 (by omega))).trans (xfr_G hv1 (by omega)))) (by decide)
  refine qy (fun _ _ k9 => z_cv0 (M1 := M_X6_copyFrom) d_X8_copyFrom_74 lv_X8_50 k_X6_copyFrom [qR 125] rfl rfl (xput_ob (c := (F6 63)) xi_63 rfl (xsh_6 xo_63)) ⟨_, _, rfl⟩ (Nat.le_of_ble_eq_true rfl) (by decide) (by decide) (Nat.le_of_ble_eq_true rfl) hx7 k9) ?_
  exact y_ret (hQ F7 G7 (⟨xfr_tr (xfr_tr (xfr_tr (xfr_tr (xfr_tr (xfr_tr (xfr_tr (xfr_rf _ _ _ _) (xfr_wd hv1 (by decide) (by decide))) (xfr_wd hv2 (by decide) (by decide))) (xfr_wd hv3 (by decide) (by decide))) (xfr_wd hv4 (by decide) (by decide))) (xfr_wd hv5 (by decide) (by decide))) (xfr_wd hv6 (by decide) (by decide))) (xfr_wd hv7 (by decide) (by decide)), ⟨⟨bkR_cg hw1 (fun a h1 h2 => ⟨((((((xfr_F hv7 (by omega)).trans (xfr_F hv6 (by omega))).trans (xfr_F hv5 (by omega))).trans (xfr_F hv4 (by omega))).trans (xfr_F hv3 (by omega))).trans (xfr_F hv2 (by omega))), ((((((xfr_G hv7 (by omega)).trans (xfr_G hv6 (by omega))).trans (xfr_G hv5 (by omega))).trans (xfr_G hv4 (by omega))).trans (xfr_G hv3 (by omega))).trans (xfr_G hv2 (by omega)))⟩), fun j hj => (by rw [xfr_G hv7 (by decide), xfr_G hv6 (by decide), xfr_G hv5 (by decide), xfr_G hv4 (by decide), xfr_G hv3 (by decide), xfr_G hv2 (by decide), ha1 j hj]; exact hS.1.2.1 j hj), fun j hj => (by rw [xfr_G hv7 (by decide), xfr_G hv6 (by decide), xfr_G hv5 (by decide), xfr_G hv4 (by decide), xfr_G hv3 (by decide), xfr_G hv2 (by decide), hd1 j hj]; exact hS.1.2.2 j hj)⟩, bkR_cg hw2 (fun a h1 h2 => ⟨(((((xfr_F hv7 (by omega)).trans (xfr_F hv6 (by omega))).trans (xfr_F hv5 (by omega))).trans (xfr_F hv4 (by omega))).trans (xfr_F hv3 (by omega))), (((((xfr_G hv7 (by omega)).trans (xfr_G hv6 (by omega))).trans (xfr_G hv5 (by omega))).trans (xfr_G hv4 (by omega))).trans (xfr_G hv3 (by omega)))⟩), rwR_cg hw3 ((((xfr_F hv7 (by omega)).trans (xfr_F hv6 (by omega))).trans (xfr_F hv5 (by omega))).trans (xfr_F hv4 (by omega))) ((((xfr_G hv7 (by omega)).trans (xfr_G hv6 (by omega))).trans (xfr_G hv5 (by omega))).trans (xfr_G hv4 (by omega))), rwR_cg hw4 (((xfr_F hv7 (by omega)).trans (xfr_F hv6 (by omega))).trans (xfr_F hv5 (by omega))) (((xfr_G hv7 (by omega)).trans (xfr_G hv6 (by omega))).trans (xfr_G hv5 (by omega))), wlR_cg hw5 ((xfr_F hv7 (by omega)).trans (xfr_F hv6 (by omega))) ((xfr_G hv7 (by omega)).trans (xfr_G hv6 (by omega))) ((xfr_G hv7 (by omega)).trans (xfr_G hv6 (by omega))) ((xfr_G hv7 (by omega)).trans (xfr_G hv6 (by omega))), rwR_cg hw6 (xfr_F hv7 (by omega)) (xfr_G hv7 (by omega)), hw7⟩, fun j hj => (by rw [xfr_G hv7 (by decide), xfr_G hv6 (by decide), xfr_G hv5 (by decide), xfr_G hv4 (by decide), xfr_G hv3 (by decide), ha2 j hj, xfr_G hv1 (by decide)])⟩)) (z_vret d_X8_copyFrom_77 rfl rfl rfl)
set_option maxRecDepth 20000 in
set_option maxHeartbeats 4000000 in
theorem xc_img1 {h : qH} {F G : Nat → Nat → Int} {R C T D R' C' PL TL LL ML N : Nat → Int} {pl tl ll ml : Nat} (hS : staR F G 3 R C T D R' C' pl tl ll ml PL TL LL ML N) (h01 : N 161 = 0 ∨ N 161 = 1) : ∃ F' G', ((∀ a, (a < 65 ∨ 126 < a) → a ≠ 2 → F' a = F a ∧ G' a = G a) ∧ G' 2 = G 2 ∧ (∀ k, k ≠ 2 → F' 2 k = F 2 k) ∧ F' 2 2 = 1 ∧ staR F' G' 65 R C T D R' C' pl tl ll ml PL TL LL ML N ∧ ∀ j, j < 648 → G' 92 j = G 30 j) ∧ qEx M_X11_image 0 [qR 2, qI 1] [] (xput h F G) (some (qI 1)) (xput h F' G') := by
  refine x_in (fun Q hQ => ?_)
  refine qy (fun _ _ k9 => z_iload_n d_X11_image_0 rfl rfl k9) ?_
  refine qy2 (fun _ _ => z_if_eq 22 d_X11_image_1 (by decide)) (fun hc1 => absurd hc1 (by decide)) (fun hc1 => ?_)
  refine qy (fun _ _ k9 => z_aload_n d_X11_image_4 rfl rfl k9) ?_
  refine qy (fun _ _ k9 => z_getf (v := qR 65) d_X11_image_5 fl_X11_16 (xput_ob (c := (F 2)) xi_2 rfl (xsh_11 xo_2)) rfl k9) ?_
  refine qy (fun _ _ k9 => z_aload_n d_X11_image_8 rfl rfl k9) ?_
  refine qy (fun _ _ k9 => z_getf (v := qR 3) d_X11_image_9 fl_X11_12 (xput_ob (c := (F 2)) xi_2 rfl (xsh_11 xo_2)) rfl k9) ?_
  obtain ⟨F1, G1, ⟨hv1, hw1, hz1⟩, hx1⟩ := c_stCpy65 (h := h) (F := F) (G := G) hS h01
  refine qy (fun _ _ k9 => z_cv0 (M1 := M_X8_copyFrom) d_X11_image_12 lv_X11_141 k_X8_copyFrom [qR 3] rfl rfl (xput_ob (c := (F 65)) xi_65 rfl (xsh_8 xo_65)) ⟨_, _, rfl⟩ (Nat.le_of_ble_eq_true rfl) (by decide) (by decide) (Nat.le_of_ble_eq_true rfl) hx1 k9) ?_
  refine qy (fun _ _ k9 => z_aload_n d_X11_image_15 rfl rfl k9) ?_
  refine qy (fun _ _ k9 => z_iconst d_X11_image_16 (by decide) k9) ?_
  refine qy (fun _ _ k9 => z_putf (fs' := [qR 3, qR 65, qI 1, qR 127, qR 160, qR 172, qR 206, qR 216, qR 219]) d_X11_image_17 fp_X11_19 (xput_ob (c := (F1 2)) xi_2 rfl (xsh_11 xo_2)) (fun _ => rfl) (fun _ => rfl) (Nat.le_of_ble_eq_true rfl) rfl k9) ?_
  refine qy (fun _ _ k9 => z_eq rfl rfl (xput_sf (c := (qup (F1 2) 2 1)) xi_2 (xsh_11 xo_2)) k9) ?_
  refine qy (fun _ _ k9 => z_iconst d_X11_image_20 (by decide) k9) ?_
  exact y_ret (hQ (gup F1 2 (qup (F1 2) 2 1)) G1 (⟨fun a h1 h2 => ⟨(gup_ne h2).trans (xfr_F hv1 h1), xfr_G hv1 h1⟩, xfr_G hv1 (by decide), fun k hk => (by rw [gup_eq, qup_ne hk, xfr_F hv1 (by decide)]), (by rw [gup_eq, qup_eq]), staR_cg hw1 (fun a h1 h2 => ⟨gup_ne (by omega), rfl⟩), hz1⟩)) (z_zret d_X11_image_21 rfl (by first | exact qb_01 _ | decide | omega) rfl rfl)
set_option maxRecDepth 20000 in
set_option maxHeartbeats 4000000 in
theorem xc_img0 {h : qH} {F G : Nat → Nat → Int} {R C T D R' C' PL TL LL ML N : Nat → Int} {pl tl ll ml : Nat} (hS : staR F G 65 R C T D R' C' pl tl ll ml PL TL LL ML N) (h01 : N 161 = 0 ∨ N 161 = 1) (hi : F 2 2 = 1) : ∃ F' G', ((∀ a, (a < 3 ∨ 64 < a) → a ≠ 127 → F' a = F a ∧ G' a = G a) ∧ G' 127 = G 127 ∧ F' 127 = qup (F 127) 3 0 ∧ staR F' G' 3 R C T D R' C' pl tl ll ml PL TL LL ML N ∧ ∀ j, j < 648 → G' 30 j = G 92 j) ∧ qEx M_X11_image 0 [qR 2, qI 0] [] (xput h F G) (some (qI 1)) (xput h F' G') := by
  refine x_in (fun Q hQ => ?_)
  refine qy (fun _ _ k9 => z_iload_n d_X11_image_0 rfl rfl k9) ?_
  refine qy2 (fun _ _ => z_if_eq 22 d_X11_image_1 (by decide)) (fun hc1 => ?_) (fun hc1 => absurd (by decide) hc1)
  refine qy (fun _ _ k9 => z_aload_n d_X11_image_22 rfl rfl k9) ?_
  refine qy (fun _ _ k9 => z_getf (v := qI ((F 2) 2)) d_X11_image_23 fl_X11_19 (xput_ob (c := (F 2)) xi_2 rfl (xsh_11 xo_2)) rfl k9) ?_
  refine qy (fun _ _ k9 => z_eq rfl (qc (qi hi) rfl) rfl k9) ?_
  refine qy2 (fun _ _ => z_if_ne 31 d_X11_image_26 (by decide)) (fun hc2 => ?_) (fun hc2 => absurd (by decide) hc2)
  refine qy (fun _ _ k9 => z_aload_n d_X11_image_31 rfl rfl k9) ?_
  refine qy (fun _ _ k9 => z_getf (v := qR 3) d_X11_image_32 fl_X11_12 (xput_ob (c := (F 2)) xi_2 rfl (xsh_11 xo_2)) rfl k9) ?_
  refine qy (fun _ _ k9 => z_aload_n d_X11_image_35 rfl rfl k9) ?_
  refine qy (fun _ _ k9 => z_getf (v := qR 65) d_X11_image_36 fl_X11_16 (xput_ob (c := (F 2)) xi_2 rfl (xsh_11 xo_2)) rfl k9) ?_
  obtain ⟨F1, G1, ⟨hv1, hw1, hz1⟩, hx1⟩ := c_stCpy3 (h := h) (F := F) (G := G) hS h01
  refine qy (fun _ _ k9 => z_cv0 (M1 := M_X8_copyFrom) d_X11_image_39 lv_X11_141 k_X8_copyFrom [qR 65] rfl rfl (xput_ob (c := (F 3)) xi_3 rfl (xsh_8 xo_3)) ⟨_, _, rfl⟩ (Nat.le_of_ble_eq_true rfl) (by decide) (by decide) (Nat.le_of_ble_eq_true rfl) hx1 k9) ?_
  refine qy (fun _ _ k9 => z_aload_n d_X11_image_42 rfl rfl k9) ?_
  refine qy (fun _ _ k9 => z_getf (v := qR 127) d_X11_image_43 fl_X11_26 (xput_ob (c := (F1 2)) xi_2 rfl (xsh_11 xo_2)) rfl k9) ?_
  refine qy (fun _ _ k9 => z_cv0 (M1 := M_X3_forget) d_X11_image_46 lv_X11_76 k_X3_forget [] rfl rfl (xput_ob (c := (F1 127)) xi_127 rfl (xsh_3 xo_127)) ⟨_, _, rfl⟩ (Nat.le_of_ble_eq_true rfl) (by decide) (by decide) (Nat.le_of_ble_eq_true rfl) c_forget k9) ?_
  refine qy (fun _ _ k9 => z_iconst d_X11_image_49 (by decide) k9) ?_
  exact y_ret (hQ (gup F1 127 (qup (F1 127) 3 0)) G1 (⟨fun a h1 h2 => ⟨(gup_ne h2).trans (xfr_F hv1 h1), xfr_G hv1 h1⟩, xfr_G hv1 (by decide), (by rw [gup_eq, xfr_F hv1 (by decide)]), staR_cg hw1 (fun a h1 h2 => ⟨gup_ne (by omega), rfl⟩), hz1⟩)) (z_zret d_X11_image_50 rfl (by first | exact qb_01 _ | decide | omega) rfl rfl)
