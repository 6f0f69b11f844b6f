/-! ===== CONTRACTS: BeaconWall: quiet ===== -/
theorem bitsF_t {p : Nat → Prop} {n : Nat} (h : p n) : qOr (bitsF p n) (qShl 1 (n : Int)) = bitsF p (n + 1) := by
  show _ = qOr _ (qif (p n) _ _)
  rw [qif_t h]
theorem bitsF_f {p : Nat → Prop} {n : Nat} (h : ¬ p n) : bitsF p n = bitsF p (n + 1) := by
  show _ = qOr _ (qif (p n) _ _)
  rw [qif_f h]
  refine tb_ext (bitsF_R p n) (qOr_R _ _) (fun k _ => ?_)
  rw [tb_or, tb_0, Bool.or_false]
set_option maxRecDepth 20000 in
set_option maxHeartbeats 4000000 in
theorem xc_quiet_no {h : qH} {F G : Nat → Nat → Int} (what : Int) (hno : ¬ (0 ≤ what ∧ what ≤ 1)) : qEx M_X11_quiet 0 [qR 2, qI what, qU, qU, qU] [] (xput h F G) (some (qI (-1))) (xput h F G) := by
  refine q_gen (fun r hr er eh => ?_)
  refine z_iload_n d_X11_quiet_0 rfl rfl ?_
  refine z_iconst d_X11_quiet_1 (by decide) ?_
  refine z_iconst d_X11_quiet_2 (by decide) ?_
  refine z_cs (M1 := M_X11_isWithin) d_X11_quiet_3 ls_X11_62 k_X11_isWithin [qI what, qI 0, qI 1] rfl rfl (Nat.le_of_ble_eq_true rfl) (by decide) (by decide) (Nat.le_of_ble_eq_true rfl) (c_isWithin what 0 1) ?_
  refine z_ifneB 11 d_X11_quiet_6 (by decide) (fun hc1 => absurd hc1 (by exact hno)) (fun hc1 => ?_)
  refine z_iconst d_X11_quiet_9 (by decide) ?_
  exact z_iret d_X11_quiet_10 rfl er eh
set_option maxRecDepth 20000 in
set_option maxHeartbeats 4000000 in
theorem xc_quiet0 {h : qH} {F G : Nat → Nat → Int} {T : Nat → Int} (hT : ∀ c, c < 648 → G 6 c = T c) : qEx M_X11_quiet 0 [qR 2, qI 0, qU, qU, qU] [] (xput h F G) (some (qI (bitsF (fun k => T (81 * k + 9 * k + k) = (k : Int)) 8))) (xput h F G) := by
  refine q_gen (fun r hr er eh => ?_)
  refine z_iload_n d_X11_quiet_0 rfl rfl ?_
  refine z_iconst d_X11_quiet_1 (by decide) ?_
  refine z_iconst d_X11_quiet_2 (by decide) ?_
  refine z_cs (M1 := M_X11_isWithin) d_X11_quiet_3 ls_X11_62 k_X11_isWithin [qI 0, qI 0, qI 1] rfl rfl (Nat.le_of_ble_eq_true rfl) (by decide) (by decide) (Nat.le_of_ble_eq_true rfl) (c_isWithin 0 0 1) ?_
  refine z_ifneB 11 d_X11_quiet_6 (by decide) (fun hc1 => ?_) (fun hc1 => absurd hc1 (by omega))
  refine z_iconst d_X11_quiet_11 (by decide) ?_
  refine z_istore_n (ls' := [qR 2, qI 0, qI 0, qU, qU]) d_X11_quiet_12 rfl (by decide) rfl ?_
  refine z_iconst d_X11_quiet_13 (by decide) ?_
  refine z_istore_n (ls' := [qR 2, qI 0, qI 0, qI 0, qU]) d_X11_quiet_14 rfl (by decide) rfl ?_
  refine z_eq (qc rfl (qc rfl (qc (qi (rfl)) (qc (qi (rfl)) (qc rfl rfl))))) rfl rfl (z_for 8 (fun i => [qR 2, qI 0, qI (bitsF (fun k => T (81 * k + 9 * k + k) = (k : Int)) i), qI (i : Int), qU]) (fun i => (xput h F G)) (fun i => True) trivial (fun i hii hp kki => ?_) (fun hp => ?_))
  · show qEx M_X11_quiet 15 [qR 2, qI 0, qI (bitsF (fun k => T (81 * k + 9 * k + k) = (k : Int)) i), qI (i : Int), qU] [] (xput h F G) r hr
    refine z_iload_n d_X11_quiet_15 rfl rfl ?_
    refine z_bipush d_X11_quiet_16 (by decide) ?_
    refine z_icmp_ge 68 d_X11_quiet_18 (by decide) (fun hc2 => absurd hc2 (by omega)) (fun hc2 => ?_)
    refine z_iload_n d_X11_quiet_21 rfl rfl ?_
    refine z_if_ne 29 d_X11_quiet_22 (by decide) (fun hc3 => absurd hc3 (by decide)) (fun hc3 => ?_)
    refine z_iload_n d_X11_quiet_25 rfl rfl ?_
    refine z_goto 31 d_X11_quiet_26 (by decide) ?_
    refine z_istore (ls' := [qR 2, qI 0, qI (bitsF (fun k => T (81 * k + 9 * k + k) = (k : Int)) i), qI (i : Int), qI (i : Int)]) d_X11_quiet_31 (by decide) rfl ?_
    refine z_aload_n d_X11_quiet_33 rfl rfl ?_
    refine z_getf (v := qR 3) d_X11_quiet_34 fl_X11_12 (xput_ob (c := (F 2)) xi_2 rfl (xsh_11 xo_2)) rfl ?_
    refine z_getf (v := qR 4) d_X11_quiet_37 fl_X11_144 (xput_ob (c := (F 3)) xi_3 rfl (xsh_8 xo_3)) rfl ?_
    refine z_getf (v := qR 6) d_X11_quiet_40 fl_X11_243 (xput_ob (c := (F 4)) xi_4 rfl (xsh_0 xo_4)) rfl ?_
    refine z_iload_n d_X11_quiet_43 rfl rfl ?_
    refine z_iload d_X11_quiet_44 rfl ?_
    refine z_iload d_X11_quiet_46 rfl ?_
    refine z_cs (M1 := M_X11_caseOf) d_X11_quiet_48 ls_X11_239 k_X11_caseOf [qI (i : Int), qI (i : Int), qI (i : Int)] rfl rfl (Nat.le_of_ble_eq_true rfl) (by decide) (by decide) (Nat.le_of_ble_eq_true rfl) (c_caseOf (i : Int) (i : Int) (i : Int) (by omega) (by omega) (by omega)) ?_
    refine z_ild (81 * i + 9 * i + i) d_X11_quiet_51 (xput_ar (g := (G 6)) xa_6 rfl) rfl (by omega) ?_
    refine z_eq rfl (qc (qi (show ((G 6) (81 * i + 9 * i + i)) = (T (81 * i + 9 * i + i)) from hT _ (by omega))) rfl) rfl ?_
    refine z_iload_n d_X11_quiet_52 rfl rfl ?_
    refine z_icmp_ne 62 d_X11_quiet_53 (by decide) (fun q53 => ?_) (fun q53 => ?_)
    · refine z_iinc (ls' := [qR 2, qI 0, qI (bitsF (fun k => T (81 * k + 9 * k + k) = (k : Int)) i), qI ((i : Int) + 1), qI (i : Int)]) d_X11_quiet_62 rfl (by decide) (by omega) rfl ?_
      refine z_goto 15 d_X11_quiet_65 (by decide) ?_
      exact z_dr (qle_k rfl (qle_k rfl (qle_k (qi (bitsF_f (p := (fun k => T (81 * k + 9 * k + k) = (k : Int))) q53)) (qle_k (qi (by omega)) (qle_d qle_n))))) rfl rfl (kki trivial)
    · refine z_iload_n d_X11_quiet_56 rfl rfl ?_
      refine z_iconst d_X11_quiet_57 (by decide) ?_
      refine z_iload_n d_X11_quiet_58 rfl rfl ?_
      refine z_ishl d_X11_quiet_59 ?_
      refine z_ior d_X11_quiet_60 ?_
      refine z_istore_n (ls' := [qR 2, qI 0, qI (qOr (bitsF (fun k => T (81 * k + 9 * k + k) = (k : Int)) i) (qShl 1 (i : Int))), qI (i : Int), qI (i : Int)]) d_X11_quiet_61 rfl (by decide) rfl ?_
      refine z_iinc (ls' := [qR 2, qI 0, qI (qOr (bitsF (fun k => T (81 * k + 9 * k + k) = (k : Int)) i) (qShl 1 (i : Int))), qI ((i : Int) + 1), qI (i : Int)]) d_X11_quiet_62 rfl (by decide) (by omega) rfl ?_
      refine z_goto 15 d_X11_quiet_65 (by decide) ?_
      exact z_dr (qle_k rfl (qle_k rfl (qle_k (qi (bitsF_t (p := (fun k => T (81 * k + 9 * k + k) = (k : Int))) (Classical.not_not.mp q53))) (qle_k (qi (by omega)) (qle_d qle_n))))) rfl rfl (kki trivial)
  · show qEx M_X11_quiet 15 [qR 2, qI 0, qI (bitsF (fun k => T (81 * k + 9 * k + k) = (k : Int)) 8), qI (8 : Int), qU] [] (xput h F G) r hr
    refine z_iload_n d_X11_quiet_15 rfl rfl ?_
    refine z_bipush d_X11_quiet_16 (by decide) ?_
    refine z_icmp_ge 68 d_X11_quiet_18 (by decide) (fun hc4 => ?_) (fun hc4 => absurd hc4 (by omega))
    refine z_iload_n d_X11_quiet_68 rfl rfl ?_
    exact z_iret d_X11_quiet_69 rfl er eh
set_option maxRecDepth 20000 in
set_option maxHeartbeats 4000000 in
theorem xc_quiet1 {h : qH} {F G : Nat → Nat → Int} {T : Nat → Int} (hT : ∀ c, c < 648 → G 6 c = T c) : qEx M_X11_quiet 0 [qR 2, qI 1, qU, qU, qU] [] (xput h F G) (some (qI (bitsF (fun k => T (81 * k + 9 * 8 + 8) = (k : Int)) 8))) (xput h F G) := by
  refine q_gen (fun r hr er eh => ?_)
  refine z_iload_n d_X11_quiet_0 rfl rfl ?_
  refine z_iconst d_X11_quiet_1 (by decide) ?_
  refine z_iconst d_X11_quiet_2 (by decide) ?_
  refine z_cs (M1 := M_X11_isWithin) d_X11_quiet_3 ls_X11_62 k_X11_isWithin [qI 1, qI 0, qI 1] rfl rfl (Nat.le_of_ble_eq_true rfl) (by decide) (by decide) (Nat.le_of_ble_eq_true rfl) (c_isWithin 1 0 1) ?_
  refine z_ifneB 11 d_X11_quiet_6 (by decide) (fun hc1 => ?_) (fun hc1 => absurd hc1 (by omega))
  refine z_iconst d_X11_quiet_11 (by decide) ?_
  refine z_istore_n (ls' := [qR 2, qI 1, qI 0, qU, qU]) d_X11_quiet_12 rfl (by decide) rfl ?_
  refine z_iconst d_X11_quiet_13 (by decide) ?_
  refine z_istore_n (ls' := [qR 2, qI 1, qI 0, qI 0, qU]) d_X11_quiet_14 rfl (by decide) rfl ?_
  refine z_eq (qc rfl (qc rfl (qc (qi (rfl)) (qc (qi (rfl)) (qc rfl rfl))))) rfl rfl (z_for 8 (fun i => [qR 2, qI 1, qI (bitsF (fun k => T (81 * k + 9 * 8 + 8) = (k : Int)) i), qI (i : Int), qU]) (fun i => (xput h F G)) (fun i => True) trivial (fun i hii hp kki => ?_) (fun hp => ?_))
  · show qEx M_X11_quiet 15 [qR 2, qI 1, qI (bitsF (fun k => T (81 * k + 9 * 8 + 8) = (k : Int)) i), qI (i : Int), qU] [] (xput h F G) r hr
    refine z_iload_n d_X11_quiet_15 rfl rfl ?_
    refine z_bipush d_X11_quiet_16 (by decide) ?_
    refine z_icmp_ge 68 d_X11_quiet_18 (by decide) (fun hc2 => absurd hc2 (by omega)) (fun hc2 => ?_)
    refine z_iload_n d_X11_quiet_21 rfl rfl ?_
    refine z_if_ne 29 d_X11_quiet_22 (by decide) (fun hc3 => ?_) (fun hc3 => absurd (by decide) hc3)
    refine z_bipush d_X11_quiet_29 (by decide) ?_
    refine z_istore (ls' := [qR 2, qI 1, qI (bitsF (fun k => T (81 * k + 9 * 8 + 8) = (k : Int)) i), qI (i : Int), qI 8]) d_X11_quiet_31 (by decide) rfl ?_
    refine z_aload_n d_X11_quiet_33 rfl rfl ?_
    refine z_getf (v := qR 3) d_X11_quiet_34 fl_X11_12 (xput_ob (c := (F 2)) xi_2 rfl (xsh_11 xo_2)) rfl ?_
    refine z_getf (v := qR 4) d_X11_quiet_37 fl_X11_144 (xput_ob (c := (F 3)) xi_3 rfl (xsh_8 xo_3)) rfl ?_
    refine z_getf (v := qR 6) d_X11_quiet_40 fl_X11_243 (xput_ob (c := (F 4)) xi_4 rfl (xsh_0 xo_4)) rfl ?_
    refine z_iload_n d_X11_quiet_43 rfl rfl ?_
    refine z_iload d_X11_quiet_44 rfl ?_
    refine z_iload d_X11_quiet_46 rfl ?_
    refine z_cs (M1 := M_X11_caseOf) d_X11_quiet_48 ls_X11_239 k_X11_caseOf [qI (i : Int), qI 8, qI 8] rfl rfl (Nat.le_of_ble_eq_true rfl) (by decide) (by decide) (Nat.le_of_ble_eq_true rfl) (c_caseOf (i : Int) 8 8 (by omega) (by omega) (by omega)) ?_
    refine z_ild (81 * i + 9 * 8 + 8) d_X11_quiet_51 (xput_ar (g := (G 6)) xa_6 rfl) rfl (by omega) ?_
    refine z_eq rfl (qc (qi (show ((G 6) (81 * i + 9 * 8 + 8)) = (T (81 * i + 9 * 8 + 8)) from hT _ (by omega))) rfl) rfl ?_
    refine z_iload_n d_X11_quiet_52 rfl rfl ?_
    refine z_icmp_ne 62 d_X11_quiet_53 (by decide) (fun q53 => ?_) (fun q53 => ?_)
    · refine z_iinc (ls' := [qR 2, qI 1, qI (bitsF (fun k => T (81 * k + 9 * 8 + 8) = (k : Int)) i), qI ((i : Int) + 1), qI 8]) d_X11_quiet_62 rfl (by decide) (by omega) rfl ?_
      refine z_goto 15 d_X11_quiet_65 (by decide) ?_
      exact z_dr (qle_k rfl (qle_k rfl (qle_k (qi (bitsF_f (p := (fun k => T (81 * k + 9 * 8 + 8) = (k : Int))) q53)) (qle_k (qi (by omega)) (qle_d qle_n))))) rfl rfl (kki trivial)
    · refine z_iload_n d_X11_quiet_56 rfl rfl ?_
      refine z_iconst d_X11_quiet_57 (by decide) ?_
      refine z_iload_n d_X11_quiet_58 rfl rfl ?_
      refine z_ishl d_X11_quiet_59 ?_
      refine z_ior d_X11_quiet_60 ?_
      refine z_istore_n (ls' := [qR 2, qI 1, qI (qOr (bitsF (fun k => T (81 * k + 9 * 8 + 8) = (k : Int)) i) (qShl 1 (i : Int))), qI (i : Int), qI 8]) d_X11_quiet_61 rfl (by decide) rfl ?_
      refine z_iinc (ls' := [qR 2, qI 1, qI (qOr (bitsF (fun k => T (81 * k + 9 * 8 + 8) = (k : Int)) i) (qShl 1 (i : Int))), qI ((i : Int) + 1), qI 8]) d_X11_quiet_62 rfl (by decide) (by omega) rfl ?_
      refine z_goto 15 d_X11_quiet_65 (by decide) ?_
      exact z_dr (qle_k rfl (qle_k rfl (qle_k (qi (bitsF_t (p := (fun k => T (81 * k + 9 * 8 + 8) = (k : Int))) (Classical.not_not.mp q53))) (qle_k (qi (by omega)) (qle_d qle_n))))) rfl rfl (kki trivial)
  · show qEx M_X11_quiet 15 [qR 2, qI 1, qI (bitsF (fun k => T (81 * k + 9 * 8 + 8) = (k : Int)) 8), qI (8 : Int), qU] [] (xput h F G) r hr
    refine z_iload_n d_X11_quiet_15 rfl rfl ?_
    refine z_bipush d_X11_quiet_16 (by decide) ?_
    refine z_icmp_ge 68 d_X11_quiet_18 (by decide) (fun hc4 => ?_) (fun hc4 => absurd hc4 (by omega))
    refine z_iload_n d_X11_quiet_68 rfl rfl ?_
    exact z_iret d_X11_quiet_69 rfl er eh
