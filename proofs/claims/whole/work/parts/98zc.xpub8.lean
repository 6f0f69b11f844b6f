/-! ===== CONTRACTS: BeaconWall: soon ===== -/
set_option maxRecDepth 20000 in
set_option maxHeartbeats 4000000 in
theorem xc_soon0 {h : qH} {F G : Nat → Nat → Int} {n b : Nat} (hn : 1 ≤ n ∧ n ≤ 32) (hb : b < n) : qEx M_X11_soon 0 [qR 2, qI (n : Int), qI (b : Int), qI 0, qU, qU] [] (xput h F G) (some (qI (2 * (n : Int) - 2 - if ((b : Int) : Int) < (n : Int) - 1 - ((b : Int) : Int) then ((b : Int) : Int) else (n : Int) - 1 - (b : Int)))) (xput h F G) := by
  refine q_gen (fun r hr er eh => ?_)
  refine z_iload_n d_X11_soon_0 rfl rfl ?_
  refine z_iload_n d_X11_soon_1 rfl rfl ?_
  refine z_cs (M1 := M_X11_isRun) d_X11_soon_2 ls_X11_280 k_X11_isRun [qI (n : Int), qI (b : Int)] rfl rfl (Nat.le_of_ble_eq_true rfl) (by decide) (by decide) (Nat.le_of_ble_eq_true rfl) (c_isRun (n : Int) (b : Int) (by omega)) ?_
  refine z_ifeqB 17 d_X11_soon_5 (by decide) (fun hc1 => absurd hc1 (by omega)) (fun hc1 => ?_)
  refine z_iload_n d_X11_soon_8 rfl rfl ?_
  refine z_iconst d_X11_soon_9 (by decide) ?_
  refine z_iconst d_X11_soon_10 (by decide) ?_
  refine z_cs (M1 := M_X11_isWithin) d_X11_soon_11 ls_X11_62 k_X11_isWithin [qI 0, qI 0, qI 1] rfl rfl (Nat.le_of_ble_eq_true rfl) (by decide) (by decide) (Nat.le_of_ble_eq_true rfl) (c_isWithin 0 0 1) ?_
  refine z_ifneB 20 d_X11_soon_14 (by decide) (fun hc2 => ?_) (fun hc2 => absurd hc2 (by omega))
  refine z_iconst d_X11_soon_20 (by decide) ?_
  refine z_iload_n d_X11_soon_21 rfl rfl ?_
  refine z_imul d_X11_soon_22 (by omega) ?_
  refine z_iconst d_X11_soon_23 (by decide) ?_
  refine z_isub d_X11_soon_24 (by omega) ?_
  refine z_iload_n d_X11_soon_25 rfl rfl ?_
  refine z_iload_n d_X11_soon_26 rfl rfl ?_
  refine z_iconst d_X11_soon_27 (by decide) ?_
  refine z_isub d_X11_soon_28 (by omega) ?_
  refine z_iload_n d_X11_soon_29 rfl rfl ?_
  refine z_isub d_X11_soon_30 (by omega) ?_
  refine z_min d_X11_soon_31 lb_X11_315 (by decide) (Nat.le_of_ble_eq_true rfl) ?_
  refine z_isub d_X11_soon_34 (by omega) ?_
  refine z_istore (ls' := [qR 2, qI (n : Int), qI (b : Int), qI 0, qI (((2 * (n : Int)) - 2) - (if (((n : Int) - 1) - (b : Int)) < (b : Int) then (((n : Int) - 1) - (b : Int)) else (b : Int))), qU]) d_X11_soon_35 (by decide) rfl ?_
  refine z_iload_n d_X11_soon_37 rfl rfl ?_
  refine z_if_ne 44 d_X11_soon_38 (by decide) (fun hc3 => absurd hc3 (by decide)) (fun hc3 => ?_)
  refine z_iload d_X11_soon_41 rfl ?_
  exact z_iret d_X11_soon_43 rfl (qer er (by omega)) eh
set_option maxRecDepth 20000 in
set_option maxHeartbeats 4000000 in
theorem xc_soon1 {h : qH} {F G : Nat → Nat → Int} {n b : Nat} {T : Nat → Int} (hn : 1 ≤ n ∧ n ≤ 32) (hb : b < n) (hT : ∀ c, c < 648 → G 6 c = T c) (hB : ∀ c, c < 648 → 0 ≤ T c ∧ T c ≤ 7) : ∃ F' G', (xfr 173 176 F G F' G') ∧ qEx M_X11_soon 0 [qR 2, qI (n : Int), qI (b : Int), qI 1, qU, qU] [] (xput h F G) (some (qI (qif (rnT T n 0 (b : Int) = -1) (-100) (rnT T n 0 (b : Int) - (2 * (n : Int) - 2 - if ((b : Int) : Int) < (n : Int) - 1 - ((b : Int) : Int) then ((b : Int) : Int) else (n : Int) - 1 - (b : Int)))))) (xput h F' G') := by
  refine x_in (fun Q hQ => ?_)
  refine qy (fun _ _ k9 => z_iload_n d_X11_soon_0 rfl rfl k9) ?_
  refine qy (fun _ _ k9 => z_iload_n d_X11_soon_1 rfl rfl k9) ?_
  refine qy (fun _ _ k9 => z_cs (M1 := M_X11_isRun) d_X11_soon_2 ls_X11_280 k_X11_isRun [qI (n : Int), qI (b : Int)] rfl rfl (Nat.le_of_ble_eq_true rfl) (by decide) (by decide) (Nat.le_of_ble_eq_true rfl) (c_isRun (n : Int) (b : Int) (by omega)) k9) ?_
  refine qy2n (fun _ _ => z_ifeqB 17 d_X11_soon_5 (by decide)) (fun hc1 => absurd hc1 (by omega)) (fun hc1 => ?_)
  refine qy (fun _ _ k9 => z_iload_n d_X11_soon_8 rfl rfl k9) ?_
  refine qy (fun _ _ k9 => z_iconst d_X11_soon_9 (by decide) k9) ?_
  refine qy (fun _ _ k9 => z_iconst d_X11_soon_10 (by decide) k9) ?_
  refine qy (fun _ _ k9 => z_cs (M1 := M_X11_isWithin) d_X11_soon_11 ls_X11_62 k_X11_isWithin [qI 1, qI 0, qI 1] rfl rfl (Nat.le_of_ble_eq_true rfl) (by decide) (by decide) (Nat.le_of_ble_eq_true rfl) (c_isWithin 1 0 1) k9) ?_
  refine qy2 (fun _ _ => z_ifneB 20 d_X11_soon_14 (by decide)) (fun hc2 => ?_) (fun hc2 => absurd hc2 (by omega))
  refine qy (fun _ _ k9 => z_iconst d_X11_soon_20 (by decide) k9) ?_
  refine qy (fun _ _ k9 => z_iload_n d_X11_soon_21 rfl rfl k9) ?_
  refine qy (fun _ _ k9 => z_imul d_X11_soon_22 (by omega) k9) ?_
  refine qy (fun _ _ k9 => z_iconst d_X11_soon_23 (by decide) k9) ?_
  refine qy (fun _ _ k9 => z_isub d_X11_soon_24 (by omega) k9) ?_
  refine qy (fun _ _ k9 => z_iload_n d_X11_soon_25 rfl rfl k9) ?_
  refine qy (fun _ _ k9 => z_iload_n d_X11_soon_26 rfl rfl k9) ?_
  refine qy (fun _ _ k9 => z_iconst d_X11_soon_27 (by decide) k9) ?_
  refine qy (fun _ _ k9 => z_isub d_X11_soon_28 (by omega) k9) ?_
  refine qy (fun _ _ k9 => z_iload_n d_X11_soon_29 rfl rfl k9) ?_
  refine qy (fun _ _ k9 => z_isub d_X11_soon_30 (by omega) k9) ?_
  refine qy (fun _ _ k9 => z_min d_X11_soon_31 lb_X11_315 (by decide) (Nat.le_of_ble_eq_true rfl) k9) ?_
  refine qy (fun _ _ k9 => z_isub d_X11_soon_34 (by omega) k9) ?_
  refine qy (fun _ _ k9 => z_istore (ls' := [qR 2, qI (n : Int), qI (b : Int), qI 1, qI (((2 * (n : Int)) - 2) - (if (((n : Int) - 1) - (b : Int)) < (b : Int) then (((n : Int) - 1) - (b : Int)) else (b : Int))), qU]) d_X11_soon_35 (by decide) rfl k9) ?_
  refine qy (fun _ _ k9 => z_iload_n d_X11_soon_37 rfl rfl k9) ?_
  refine qy2 (fun _ _ => z_if_ne 44 d_X11_soon_38 (by decide)) (fun hc3 => ?_) (fun hc3 => absurd (by decide) hc3)
  refine qy (fun _ _ k9 => z_aload_n d_X11_soon_44 rfl rfl k9) ?_
  refine qy (fun _ _ k9 => z_iload_n d_X11_soon_45 rfl rfl k9) ?_
  refine qy (fun _ _ k9 => z_iload_n d_X11_soon_46 rfl rfl k9) ?_
  refine qy (fun _ _ k9 => z_iconst d_X11_soon_47 (by decide) k9) ?_
  obtain ⟨F1, G1, ⟨hv1, tt1, ch1, hw1, he1⟩, hx1⟩ := c_firesOf (h := h) (F := F) (G := G) (n := n) (b := b) (rg := 0) (T := T) hn (by omega) (by decide) hT hB
  refine qy (fun _ _ k9 => z_cv (M1 := M_X11_firesOf) d_X11_soon_48 lv_X11_284 k_X11_firesOf [qI (n : Int), qI (b : Int), qI 0] rfl rfl (xput_ob (c := (F 2)) xi_2 rfl (xsh_11 xo_2)) ⟨_, _, rfl⟩ (Nat.le_of_ble_eq_true rfl) (by decide) (by decide) (Nat.le_of_ble_eq_true rfl) hx1 k9) ?_
  refine qy (fun _ _ k9 => z_astore (ls' := [qR 2, qI (n : Int), qI (b : Int), qI 1, qI (((2 * (n : Int)) - 2) - (if (((n : Int) - 1) - (b : Int)) < (b : Int) then (((n : Int) - 1) - (b : Int)) else (b : Int))), qR 173]) d_X11_soon_51 (by decide) rfl k9) ?_
  refine qy (fun _ _ k9 => z_aload d_X11_soon_53 rfl k9) ?_
  refine qy (fun _ _ k9 => z_getf (v := qI ((F1 173) 9)) d_X11_soon_55 fl_X11_320 (xput_ob (c := (F1 173)) xi_173 rfl (xsh_7 xo_173)) rfl k9) ?_
  refine qy (fun _ _ k9 => z_eq rfl (qc (qi hw1.2.1.2.2.1) rfl) rfl k9) ?_
  refine qy2 (fun _ _ => z_if_ne 66 d_X11_soon_58 (by decide)) (fun q58 => ?_) (fun q58 => ?_)
  · refine qy (fun _ _ k9 => z_aload d_X11_soon_66 rfl k9) ?_
    refine qy (fun _ _ k9 => z_getf (v := qI ((F1 173) 8)) d_X11_soon_68 fl_X11_323 (xput_ob (c := (F1 173)) xi_173 rfl (xsh_7 xo_173)) rfl k9) ?_
    refine qy (fun _ _ k9 => z_eq rfl (qc (qi hw1.2.1.2.1) rfl) rfl k9) ?_
    refine qy (fun _ _ k9 => z_iload d_X11_soon_71 rfl k9) ?_
    refine qy (fun _ _ k9 => z_isub d_X11_soon_73 (by omega) k9) ?_
    exact y_ret (hQ F1 G1 hv1) (z_iret d_X11_soon_74 rfl (qsi ((qif_f (fun z => q58 (he1.2.2.mp z))).trans (by rw [he1.2.1 (fun z => q58 (he1.2.2.mp z))]; omega))) rfl)
  · refine qy (fun _ _ k9 => z_bipush d_X11_soon_61 (by decide) k9) ?_
    refine qy (fun _ _ k9 => z_goto 74 d_X11_soon_63 (by decide) k9) ?_
    exact y_ret (hQ F1 G1 hv1) (z_iret d_X11_soon_74 rfl (qsi (qif_t (he1.2.2.mpr (Classical.not_not.mp q58)))) rfl)
