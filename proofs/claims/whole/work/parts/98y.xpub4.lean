/-! ===== CONTRACTS: BeaconWall: says, goes, image ===== -/
set_option maxRecDepth 20000 in
set_option maxHeartbeats 4000000 in
theorem xc_says0 {h : qH} {F G : Nat → Nat → Int} (o l r0 : Nat) {T : Nat → Int} (ho : o < 8) (hl : l < 9) (hr0 : r0 < 9) (hT : ∀ c, c < 648 → G 6 c = T c) : qEx M_X11_says 0 [qR 2, qI (o : Int), qI (l : Int), qI (r0 : Int), qI 0, qU] [] (xput h F G) (some (qI (T (81 * o + 9 * l + r0)))) (xput h F G) := by
  refine q_gen (fun r hr er eh => ?_)
  refine z_iload_n d_X11_says_0 rfl rfl ?_
  refine z_iconst d_X11_says_1 (by decide) ?_
  refine z_bipush d_X11_says_2 (by decide) ?_
  refine z_cs (M1 := M_X11_isWithin) d_X11_says_4 ls_X11_62 k_X11_isWithin [qI (o : Int), qI 0, qI 7] rfl rfl (Nat.le_of_ble_eq_true rfl) (by decide) (by decide) (Nat.le_of_ble_eq_true rfl) (c_isWithin (o : Int) 0 7) ?_
  refine z_ifeqB 30 d_X11_says_7 (by decide) (fun hc1 => absurd hc1 (by omega)) (fun hc1 => ?_)
  refine z_iload_n d_X11_says_10 rfl rfl ?_
  refine z_iconst d_X11_says_11 (by decide) ?_
  refine z_bipush d_X11_says_12 (by decide) ?_
  refine z_cs (M1 := M_X11_isWithin) d_X11_says_14 ls_X11_62 k_X11_isWithin [qI (l : Int), qI 0, qI 8] rfl rfl (Nat.le_of_ble_eq_true rfl) (by decide) (by decide) (Nat.le_of_ble_eq_true rfl) (c_isWithin (l : Int) 0 8) ?_
  refine z_ifeqB 30 d_X11_says_17 (by decide) (fun hc2 => absurd hc2 (by omega)) (fun hc2 => ?_)
  refine z_iload_n d_X11_says_20 rfl rfl ?_
  refine z_iconst d_X11_says_21 (by decide) ?_
  refine z_bipush d_X11_says_22 (by decide) ?_
  refine z_cs (M1 := M_X11_isWithin) d_X11_says_24 ls_X11_62 k_X11_isWithin [qI (r0 : Int), qI 0, qI 8] rfl rfl (Nat.le_of_ble_eq_true rfl) (by decide) (by decide) (Nat.le_of_ble_eq_true rfl) (c_isWithin (r0 : Int) 0 8) ?_
  refine z_ifneB 32 d_X11_says_27 (by decide) (fun hc3 => ?_) (fun hc3 => absurd hc3 (by omega))
  refine z_iload_n d_X11_says_32 rfl rfl ?_
  refine z_iload_n d_X11_says_33 rfl rfl ?_
  refine z_iload_n d_X11_says_34 rfl rfl ?_
  refine z_cs (M1 := M_X11_caseOf) d_X11_says_35 ls_X11_239 k_X11_caseOf [qI (o : Int), qI (l : Int), qI (r0 : Int)] rfl rfl (Nat.le_of_ble_eq_true rfl) (by decide) (by decide) (Nat.le_of_ble_eq_true rfl) (c_caseOf (o : Int) (l : Int) (r0 : Int) (by omega) (by omega) (by omega)) ?_
  refine z_istore (ls' := [qR 2, qI (o : Int), qI (l : Int), qI (r0 : Int), qI 0, qI (81 * (o : Int) + 9 * (l : Int) + (r0 : Int))]) d_X11_says_38 (by decide) rfl ?_
  refine z_iload d_X11_says_40 rfl ?_
  refine z_if_ne 59 d_X11_says_42 (by decide) (fun hc4 => absurd hc4 (by decide)) (fun hc4 => ?_)
  refine z_aload_n d_X11_says_45 rfl rfl ?_
  refine z_getf (v := qR 3) d_X11_says_46 fl_X11_12 (xput_ob (c := (F 2)) xi_2 rfl (xsh_11 xo_2)) rfl ?_
  refine z_getf (v := qR 4) d_X11_says_49 fl_X11_144 (xput_ob (c := (F 3)) xi_3 rfl (xsh_8 xo_3)) rfl ?_
  refine z_getf (v := qR 6) d_X11_says_52 fl_X11_243 (xput_ob (c := (F 4)) xi_4 rfl (xsh_0 xo_4)) rfl ?_
  refine z_iload d_X11_says_55 rfl ?_
  refine z_ild (81 * o + 9 * l + r0) d_X11_says_57 (xput_ar (g := (G 6)) xa_6 rfl) rfl (by omega) ?_
  exact z_iret d_X11_says_58 rfl (qer er (hT _ (by omega)).symm) eh
set_option maxRecDepth 20000 in
set_option maxHeartbeats 4000000 in
theorem xc_says1 {h : qH} {F G : Nat → Nat → Int} (o l r0 : Nat) {T : Nat → Int} (ho : o < 8) (hl : l < 9) (hr0 : r0 < 9) (hT : ∀ c, c < 648 → G 7 c = T c) : qEx M_X11_says 0 [qR 2, qI (o : Int), qI (l : Int), qI (r0 : Int), qI 1, qU] [] (xput h F G) (some (qI (T (81 * o + 9 * l + r0)))) (xput h F G) := by
  refine q_gen (fun r hr er eh => ?_)
  refine z_iload_n d_X11_says_0 rfl rfl ?_
  refine z_iconst d_X11_says_1 (by decide) ?_
  refine z_bipush d_X11_says_2 (by decide) ?_
  refine z_cs (M1 := M_X11_isWithin) d_X11_says_4 ls_X11_62 k_X11_isWithin [qI (o : Int), qI 0, qI 7] rfl rfl (Nat.le_of_ble_eq_true rfl) (by decide) (by decide) (Nat.le_of_ble_eq_true rfl) (c_isWithin (o : Int) 0 7) ?_
  refine z_ifeqB 30 d_X11_says_7 (by decide) (fun hc1 => absurd hc1 (by omega)) (fun hc1 => ?_)
  refine z_iload_n d_X11_says_10 rfl rfl ?_
  refine z_iconst d_X11_says_11 (by decide) ?_
  refine z_bipush d_X11_says_12 (by decide) ?_
  refine z_cs (M1 := M_X11_isWithin) d_X11_says_14 ls_X11_62 k_X11_isWithin [qI (l : Int), qI 0, qI 8] rfl rfl (Nat.le_of_ble_eq_true rfl) (by decide) (by decide) (Nat.le_of_ble_eq_true rfl) (c_isWithin (l : Int) 0 8) ?_
  refine z_ifeqB 30 d_X11_says_17 (by decide) (fun hc2 => absurd hc2 (by omega)) (fun hc2 => ?_)
  refine z_iload_n d_X11_says_20 rfl rfl ?_
  refine z_iconst d_X11_says_21 (by decide) ?_
  refine z_bipush d_X11_says_22 (by decide) ?_
  refine z_cs (M1 := M_X11_isWithin) d_X11_says_24 ls_X11_62 k_X11_isWithin [qI (r0 : Int), qI 0, qI 8] rfl rfl (Nat.le_of_ble_eq_true rfl) (by decide) (by decide) (Nat.le_of_ble_eq_true rfl) (c_isWithin (r0 : Int) 0 8) ?_
  refine z_ifneB 32 d_X11_says_27 (by decide) (fun hc3 => ?_) (fun hc3 => absurd hc3 (by omega))
  refine z_iload_n d_X11_says_32 rfl rfl ?_
  refine z_iload_n d_X11_says_33 rfl rfl ?_
  refine z_iload_n d_X11_says_34 rfl rfl ?_
  refine z_cs (M1 := M_X11_caseOf) d_X11_says_35 ls_X11_239 k_X11_caseOf [qI (o : Int), qI (l : Int), qI (r0 : Int)] rfl rfl (Nat.le_of_ble_eq_true rfl) (by decide) (by decide) (Nat.le_of_ble_eq_true rfl) (c_caseOf (o : Int) (l : Int) (r0 : Int) (by omega) (by omega) (by omega)) ?_
  refine z_istore (ls' := [qR 2, qI (o : Int), qI (l : Int), qI (r0 : Int), qI 1, qI (81 * (o : Int) + 9 * (l : Int) + (r0 : Int))]) d_X11_says_38 (by decide) rfl ?_
  refine z_iload d_X11_says_40 rfl ?_
  refine z_if_ne 59 d_X11_says_42 (by decide) (fun hc4 => ?_) (fun hc4 => absurd (by decide) hc4)
  refine z_iload d_X11_says_59 rfl ?_
  refine z_iconst d_X11_says_61 (by decide) ?_
  refine z_icmp_ne 81 d_X11_says_62 (by decide) (fun hc5 => absurd hc5 (by decide)) (fun hc5 => ?_)
  refine z_aload_n d_X11_says_65 rfl rfl ?_
  refine z_getf (v := qR 3) d_X11_says_66 fl_X11_12 (xput_ob (c := (F 2)) xi_2 rfl (xsh_11 xo_2)) rfl ?_
  refine z_getf (v := qR 4) d_X11_says_69 fl_X11_144 (xput_ob (c := (F 3)) xi_3 rfl (xsh_8 xo_3)) rfl ?_
  refine z_getf (v := qR 7) d_X11_says_72 fl_X11_246 (xput_ob (c := (F 4)) xi_4 rfl (xsh_0 xo_4)) rfl ?_
  refine z_iload d_X11_says_75 rfl ?_
  refine z_ild (81 * o + 9 * l + r0) d_X11_says_77 (xput_ar (g := (G 7)) xa_7 rfl) rfl (by omega) ?_
  refine z_goto 82 d_X11_says_78 (by decide) ?_
  exact z_iret d_X11_says_82 rfl (qer er (hT _ (by omega)).symm) eh
set_option maxRecDepth 20000 in
set_option maxHeartbeats 4000000 in
theorem xc_goes_clear0 {h : qH} {F G : Nat → Nat → Int} {K : Nat} {MK : Nat → Int} (s a b : Int) (hM : rwR F G 63 K MK) : qEx M_X11_goes 0 [qR 2, qI (-1), qI s, qI a, qI b] [] (xput h F G) (some (qI 0)) (xput h (gup F 63 (qup (F 63) 2 0)) G) := by
  refine q_gen (fun r hr er eh => ?_)
  refine z_iload_n d_X11_goes_0 rfl rfl ?_
  refine z_iconst d_X11_goes_1 (by decide) ?_
  refine z_icmp_ne 18 d_X11_goes_2 (by decide) (fun hc1 => absurd hc1 (by decide)) (fun hc1 => ?_)
  refine z_aload_n d_X11_goes_5 rfl rfl ?_
  refine z_getf (v := qR 3) d_X11_goes_6 fl_X11_12 (xput_ob (c := (F 2)) xi_2 rfl (xsh_11 xo_2)) rfl ?_
  refine z_getf (v := qR 63) d_X11_goes_9 fl_X11_426 (xput_ob (c := (F 3)) xi_3 rfl (xsh_8 xo_3)) rfl ?_
  refine z_iconst d_X11_goes_12 (by decide) ?_
  refine z_cv0 (M1 := M_X6_cutTo) d_X11_goes_13 lv_X11_429 k_X6_cutTo [qI 0] rfl rfl (xput_ob (c := (F 63)) xi_63 rfl (xsh_6 xo_63)) ⟨_, _, rfl⟩ (Nat.le_of_ble_eq_true rfl) (by decide) (by decide) (Nat.le_of_ble_eq_true rfl) (c_rwCut (q := 63) (L := K) 0 (by decide) xo_63 hM.1 hM.2.1 (by omega)) ?_
  refine z_iconst d_X11_goes_16 (by decide) ?_
  exact z_iret d_X11_goes_17 rfl er eh
set_option maxRecDepth 20000 in
set_option maxHeartbeats 4000000 in
theorem xc_goes_full {h : qH} {F G : Nat → Nat → Int} {K : Nat} {MK : Nat → Int} (p s a b : Int) (hM : rwR F G 63 K MK) (hok : (0 ≤ p ∧ p ≤ 99) ∧ (0 ≤ s ∧ s ≤ 99) ∧ (-9 ≤ a ∧ a ≤ 9) ∧ (1 ≤ b ∧ b ≤ 9)) (hfu : K = xM 63) : qEx M_X11_goes 0 [qR 2, qI p, qI s, qI a, qI b] [] (xput h F G) (some (qI (-1))) (xput h F G) := by
  refine q_gen (fun r hr er eh => ?_)
  refine z_iload_n d_X11_goes_0 rfl rfl ?_
  refine z_iconst d_X11_goes_1 (by decide) ?_
  refine z_icmp_ne 18 d_X11_goes_2 (by decide) (fun hc1 => ?_) (fun hc1 => absurd hc1 (by omega))
  refine z_iload_n d_X11_goes_18 rfl rfl ?_
  refine z_iconst d_X11_goes_19 (by decide) ?_
  refine z_bipush d_X11_goes_20 (by decide) ?_
  refine z_cs (M1 := M_X11_isWithin) d_X11_goes_22 ls_X11_62 k_X11_isWithin [qI p, qI 0, qI 99] rfl rfl (Nat.le_of_ble_eq_true rfl) (by decide) (by decide) (Nat.le_of_ble_eq_true rfl) (c_isWithin p 0 99) ?_
  refine z_ifeqB 60 d_X11_goes_25 (by decide) (fun hc2 => absurd hc2 (by omega)) (fun hc2 => ?_)
  refine z_iload_n d_X11_goes_28 rfl rfl ?_
  refine z_iconst d_X11_goes_29 (by decide) ?_
  refine z_bipush d_X11_goes_30 (by decide) ?_
  refine z_cs (M1 := M_X11_isWithin) d_X11_goes_32 ls_X11_62 k_X11_isWithin [qI s, qI 0, qI 99] rfl rfl (Nat.le_of_ble_eq_true rfl) (by decide) (by decide) (Nat.le_of_ble_eq_true rfl) (c_isWithin s 0 99) ?_
  refine z_ifeqB 60 d_X11_goes_35 (by decide) (fun hc3 => absurd hc3 (by omega)) (fun hc3 => ?_)
  refine z_iload_n d_X11_goes_38 rfl rfl ?_
  refine z_bipush d_X11_goes_39 (by decide) ?_
  refine z_bipush d_X11_goes_41 (by decide) ?_
  refine z_cs (M1 := M_X11_isWithin) d_X11_goes_43 ls_X11_62 k_X11_isWithin [qI a, qI (-9), qI 9] rfl rfl (Nat.le_of_ble_eq_true rfl) (by decide) (by decide) (Nat.le_of_ble_eq_true rfl) (c_isWithin a (-9) 9) ?_
  refine z_ifeqB 60 d_X11_goes_46 (by decide) (fun hc4 => absurd hc4 (by omega)) (fun hc4 => ?_)
  refine z_iload d_X11_goes_49 rfl ?_
  refine z_iconst d_X11_goes_51 (by decide) ?_
  refine z_bipush d_X11_goes_52 (by decide) ?_
  refine z_cs (M1 := M_X11_isWithin) d_X11_goes_54 ls_X11_62 k_X11_isWithin [qI b, qI 1, qI 9] rfl rfl (Nat.le_of_ble_eq_true rfl) (by decide) (by decide) (Nat.le_of_ble_eq_true rfl) (c_isWithin b 1 9) ?_
  refine z_ifneB 62 d_X11_goes_57 (by decide) (fun hc5 => ?_) (fun hc5 => absurd hc5 (by omega))
  refine z_aload_n d_X11_goes_62 rfl rfl ?_
  refine z_getf (v := qR 3) d_X11_goes_63 fl_X11_12 (xput_ob (c := (F 2)) xi_2 rfl (xsh_11 xo_2)) rfl ?_
  refine z_getf (v := qR 63) d_X11_goes_66 fl_X11_426 (xput_ob (c := (F 3)) xi_3 rfl (xsh_8 xo_3)) rfl ?_
  refine z_iload_n d_X11_goes_69 rfl rfl ?_
  refine z_iload_n d_X11_goes_70 rfl rfl ?_
  refine z_iload_n d_X11_goes_71 rfl rfl ?_
  refine z_iload d_X11_goes_72 rfl ?_
  refine z_cv (M1 := M_X6_add) d_X11_goes_74 lv_X11_431 k_X6_add [qI p, qI s, qI a, qI b] rfl rfl (xput_ob (c := (F 63)) xi_63 rfl (xsh_6 xo_63)) ⟨_, _, rfl⟩ (Nat.le_of_ble_eq_true rfl) (by decide) (by decide) (Nat.le_of_ble_eq_true rfl) (c_rwAddNo (q := 63) (L := K) p s a b (by decide) xo_63 hM.1 hM.2.1 hfu) ?_
  refine z_if_eq 93 d_X11_goes_77 (by decide) (fun hc6 => ?_) (fun hc6 => absurd (by decide) hc6)
  refine z_iconst d_X11_goes_93 (by decide) ?_
  exact z_iret d_X11_goes_94 rfl er eh
set_option maxRecDepth 20000 in
set_option maxHeartbeats 4000000 in
theorem xc_goes_no {h : qH} {F G : Nat → Nat → Int} (p s a b : Int) (hp : p ≠ -1) (hno : ¬ ((0 ≤ p ∧ p ≤ 99) ∧ (0 ≤ s ∧ s ≤ 99) ∧ (-9 ≤ a ∧ a ≤ 9) ∧ (1 ≤ b ∧ b ≤ 9))) : qEx M_X11_goes 0 [qR 2, qI p, qI s, qI a, qI b] [] (xput h F G) (some (qI (-1))) (xput h F G) := by
  refine q_gen (fun r hr er eh => ?_)
  refine z_iload_n d_X11_goes_0 rfl rfl ?_
  refine z_iconst d_X11_goes_1 (by decide) ?_
  refine z_icmp_ne 18 d_X11_goes_2 (by decide) (fun hc1 => ?_) (fun hc1 => absurd hc1 (by omega))
  refine z_iload_n d_X11_goes_18 rfl rfl ?_
  refine z_iconst d_X11_goes_19 (by decide) ?_
  refine z_bipush d_X11_goes_20 (by decide) ?_
  refine z_cs (M1 := M_X11_isWithin) d_X11_goes_22 ls_X11_62 k_X11_isWithin [qI p, qI 0, qI 99] rfl rfl (Nat.le_of_ble_eq_true rfl) (by decide) (by decide) (Nat.le_of_ble_eq_true rfl) (c_isWithin p 0 99) ?_
  refine z_ifeqB 60 d_X11_goes_25 (by decide) (fun hc2 => ?_) (fun hc2 => ?_)
  · refine z_iconst d_X11_goes_60 (by decide) ?_
    exact z_iret d_X11_goes_61 rfl er eh
  · refine z_iload_n d_X11_goes_28 rfl rfl ?_
    refine z_iconst d_X11_goes_29 (by decide) ?_
    refine z_bipush d_X11_goes_30 (by decide) ?_
    refine z_cs (M1 := M_X11_isWithin) d_X11_goes_32 ls_X11_62 k_X11_isWithin [qI s, qI 0, qI 99] rfl rfl (Nat.le_of_ble_eq_true rfl) (by decide) (by decide) (Nat.le_of_ble_eq_true rfl) (c_isWithin s 0 99) ?_
    refine z_ifeqB 60 d_X11_goes_35 (by decide) (fun hc3 => ?_) (fun hc3 => ?_)
    · refine z_iconst d_X11_goes_60 (by decide) ?_
      exact z_iret d_X11_goes_61 rfl er eh
    · refine z_iload_n d_X11_goes_38 rfl rfl ?_
      refine z_bipush d_X11_goes_39 (by decide) ?_
      refine z_bipush d_X11_goes_41 (by decide) ?_
      refine z_cs (M1 := M_X11_isWithin) d_X11_goes_43 ls_X11_62 k_X11_isWithin [qI a, qI (-9), qI 9] rfl rfl (Nat.le_of_ble_eq_true rfl) (by decide) (by decide) (Nat.le_of_ble_eq_true rfl) (c_isWithin a (-9) 9) ?_
      refine z_ifeqB 60 d_X11_goes_46 (by decide) (fun hc4 => ?_) (fun hc4 => ?_)
      · refine z_iconst d_X11_goes_60 (by decide) ?_
        exact z_iret d_X11_goes_61 rfl er eh
      · refine z_iload d_X11_goes_49 rfl ?_
        refine z_iconst d_X11_goes_51 (by decide) ?_
        refine z_bipush d_X11_goes_52 (by decide) ?_
        refine z_cs (M1 := M_X11_isWithin) d_X11_goes_54 ls_X11_62 k_X11_isWithin [qI b, qI 1, qI 9] rfl rfl (Nat.le_of_ble_eq_true rfl) (by decide) (by decide) (Nat.le_of_ble_eq_true rfl) (c_isWithin b 1 9) ?_
        refine z_ifneB 62 d_X11_goes_57 (by decide) (fun hc5 => ?_) (fun hc5 => ?_)
        · exact absurd (by omega) hno
        · refine z_iconst d_X11_goes_60 (by decide) ?_
          exact z_iret d_X11_goes_61 rfl er eh
set_option maxRecDepth 20000 in
set_option maxHeartbeats 4000000 in
theorem xc_goes0 {h : qH} {F G : Nat → Nat → Int} {K : Nat} {MK : Nat → Int} (p s a b : Int) (hM : rwR F G 63 K MK) (hok : (0 ≤ p ∧ p ≤ 99) ∧ (0 ≤ s ∧ s ≤ 99) ∧ (-9 ≤ a ∧ a ≤ 9) ∧ (1 ≤ b ∧ b ≤ 9)) (hfu : K < xM 63) : qEx M_X11_goes 0 [qR 2, qI p, qI s, qI a, qI b] [] (xput h F G) (some (qI ((K : Int) + 1))) (xput h (gup F 63 (qup (F 63) 2 ((K : Int) + 1))) (gup G 64 (row4 (G 64) (4 * K) p s a b))) := by
  refine q_gen (fun r hr er eh => ?_)
  refine z_iload_n d_X11_goes_0 rfl rfl ?_
  refine z_iconst d_X11_goes_1 (by decide) ?_
  refine z_icmp_ne 18 d_X11_goes_2 (by decide) (fun hc1 => ?_) (fun hc1 => absurd hc1 (by omega))
  refine z_iload_n d_X11_goes_18 rfl rfl ?_
  refine z_iconst d_X11_goes_19 (by decide) ?_
  refine z_bipush d_X11_goes_20 (by decide) ?_
  refine z_cs (M1 := M_X11_isWithin) d_X11_goes_22 ls_X11_62 k_X11_isWithin [qI p, qI 0, qI 99] rfl rfl (Nat.le_of_ble_eq_true rfl) (by decide) (by decide) (Nat.le_of_ble_eq_true rfl) (c_isWithin p 0 99) ?_
  refine z_ifeqB 60 d_X11_goes_25 (by decide) (fun hc2 => absurd hc2 (by omega)) (fun hc2 => ?_)
  refine z_iload_n d_X11_goes_28 rfl rfl ?_
  refine z_iconst d_X11_goes_29 (by decide) ?_
  refine z_bipush d_X11_goes_30 (by decide) ?_
  refine z_cs (M1 := M_X11_isWithin) d_X11_goes_32 ls_X11_62 k_X11_isWithin [qI s, qI 0, qI 99] rfl rfl (Nat.le_of_ble_eq_true rfl) (by decide) (by decide) (Nat.le_of_ble_eq_true rfl) (c_isWithin s 0 99) ?_
  refine z_ifeqB 60 d_X11_goes_35 (by decide) (fun hc3 => absurd hc3 (by omega)) (fun hc3 => ?_)
  refine z_iload_n d_X11_goes_38 rfl rfl ?_
  refine z_bipush d_X11_goes_39 (by decide) ?_
  refine z_bipush d_X11_goes_41 (by decide) ?_
  refine z_cs (M1 := M_X11_isWithin) d_X11_goes_43 ls_X11_62 k_X11_isWithin [qI a, qI (-9), qI 9] rfl rfl (Nat.le_of_ble_eq_true rfl) (by decide) (by decide) (Nat.le_of_ble_eq_true rfl) (c_isWithin a (-9) 9) ?_
  refine z_ifeqB 60 d_X11_goes_46 (by decide) (fun hc4 => absurd hc4 (by omega)) (fun hc4 => ?_)
  refine z_iload d_X11_goes_49 rfl ?_
  refine z_iconst d_X11_goes_51 (by decide) ?_
  refine z_bipush d_X11_goes_52 (by decide) ?_
  refine z_cs (M1 := M_X11_isWithin) d_X11_goes_54 ls_X11_62 k_X11_isWithin [qI b, qI 1, qI 9] rfl rfl (Nat.le_of_ble_eq_true rfl) (by decide) (by decide) (Nat.le_of_ble_eq_true rfl) (c_isWithin b 1 9) ?_
  refine z_ifneB 62 d_X11_goes_57 (by decide) (fun hc5 => ?_) (fun hc5 => absurd hc5 (by omega))
  refine z_aload_n d_X11_goes_62 rfl rfl ?_
  refine z_getf (v := qR 3) d_X11_goes_63 fl_X11_12 (xput_ob (c := (F 2)) xi_2 rfl (xsh_11 xo_2)) rfl ?_
  refine z_getf (v := qR 63) d_X11_goes_66 fl_X11_426 (xput_ob (c := (F 3)) xi_3 rfl (xsh_8 xo_3)) rfl ?_
  refine z_iload_n d_X11_goes_69 rfl rfl ?_
  refine z_iload_n d_X11_goes_70 rfl rfl ?_
  refine z_iload_n d_X11_goes_71 rfl rfl ?_
  refine z_iload d_X11_goes_72 rfl ?_
  refine z_cv (M1 := M_X6_add) d_X11_goes_74 lv_X11_431 k_X6_add [qI p, qI s, qI a, qI b] rfl rfl (xput_ob (c := (F 63)) xi_63 rfl (xsh_6 xo_63)) ⟨_, _, rfl⟩ (Nat.le_of_ble_eq_true rfl) (by decide) (by decide) (Nat.le_of_ble_eq_true rfl) (c_rwAdd (q := 63) (L := K) p s a b (by decide) xo_63 hM.1 hM.2.1 hfu) ?_
  refine z_if_eq 93 d_X11_goes_77 (by decide) (fun hc6 => absurd hc6 (by decide)) (fun hc6 => ?_)
  refine z_aload_n d_X11_goes_80 rfl rfl ?_
  refine z_getf (v := qR 3) d_X11_goes_81 fl_X11_12 (xput_ob (c := (F 2)) xi_2 rfl (xsh_11 xo_2)) rfl ?_
  refine z_getf (v := qR 63) d_X11_goes_84 fl_X11_426 (xput_ob (c := (F 3)) xi_3 rfl (xsh_8 xo_3)) rfl ?_
  refine z_getf (v := qI ((qup (F 63) 2 ((K : Int) + 1)) 2)) d_X11_goes_87 fl_X11_174 (xput_ob (c := (qup (F 63) 2 ((K : Int) + 1))) xi_63 rfl (xsh_6 xo_63)) rfl ?_
  refine z_eq rfl (qc (qi (show ((qup (F 63) 2 ((K : Int) + 1)) 2) = ((K : Int) + 1) from qup_eq _ _ _)) rfl) rfl ?_
  refine z_goto 94 d_X11_goes_90 (by decide) ?_
  exact z_iret d_X11_goes_94 rfl er eh
theorem staR_cg {F G F' G' : Nat → Nat → Int} {s : Nat} {R C T D R' C' : Nat → Int} {pl tl ll ml : Nat} {PL TL LL ML N : Nat → Int} (h : staR F G s R C T D R' C' pl tl ll ml PL TL LL ML N) (e : ∀ a, s ≤ a → a ≤ s + 61 → F' a = F a ∧ G' a = G a) : staR F' G' s R C T D R' C' pl tl ll ml PL TL LL ML N := by
  obtain ⟨⟨h1, h2, h3⟩, h4, h5, h6, h7, h8, h9⟩ := h
  refine ⟨⟨bkR_cg h1 (fun a ha hb => e a (by omega) (by omega)), fun j hj => ?_, fun j hj => ?_⟩, bkR_cg h4 (fun a ha hb => e a (by omega) (by omega)), rwR_cg h5 (e _ (by omega) (by omega)).1 (e _ (by omega) (by omega)).2, rwR_cg h6 (e _ (by omega) (by omega)).1 (e _ (by omega) (by omega)).2, wlR_cg h7 (e _ (by omega) (by omega)).1 (e _ (by omega) (by omega)).2 (e _ (by omega) (by omega)).2 (e _ (by omega) (by omega)).2, rwR_cg h8 (e _ (by omega) (by omega)).1 (e _ (by omega) (by omega)).2, rwR_cg h9 (e _ (by omega) (by omega)).1 (e _ (by omega) (by omega)).2⟩
  · rw [(e _ (by omega) (by omega)).2]; exact h2 j hj
  · rw [(e _ (by omega) (by omega)).2]; exact h3 j hj
set_option maxRecDepth 20000 in
set_option maxHeartbeats 4000000 in
theorem xc_image1 {h : qH} {F G : Nat → Nat → Int} {R C T D R' C' PL TL LL ML N : Nat → Int} {pl tl ll ml : Nat} (hS : staR F G 3 R C T D R' C' pl tl ll ml PL TL LL ML N) (h01 : N 161 = 0 ∨ N 161 = 1) : ∃ F' G', ((∀ a, (a < 65 ∨ 126 < a) → a ≠ 2 → F' a = F a ∧ G' a = G a) ∧ G' 2 = G 2 ∧ (∀ k, k ≠ 2 → F' 2 k = F 2 k) ∧ F' 2 2 = 1 ∧ staR F' G' 65 R C T D R' C' pl tl ll ml PL TL LL ML N) ∧ qEx M_X11_image 0 [qR 2, qI 1] [] (xput h F G) (some (qI 1)) (xput h F' G') := by
  refine x_in (fun Q hQ => ?_)
  refine qy (fun _ _ k9 => z_iload_n d_X11_image_0 rfl rfl k9) ?_
  refine qy2 (fun _ _ => z_if_eq 22 d_X11_image_1 (by decide)) (fun hc1 => absurd hc1 (by decide)) (fun hc1 => ?_)
  refine qy (fun _ _ k9 => z_aload_n d_X11_image_4 rfl rfl k9) ?_
  refine qy (fun _ _ k9 => z_getf (v := qR 65) d_X11_image_5 fl_X11_16 (xput_ob (c := (F 2)) xi_2 rfl (xsh_11 xo_2)) rfl k9) ?_
  refine qy (fun _ _ k9 => z_aload_n d_X11_image_8 rfl rfl k9) ?_
  refine qy (fun _ _ k9 => z_getf (v := qR 3) d_X11_image_9 fl_X11_12 (xput_ob (c := (F 2)) xi_2 rfl (xsh_11 xo_2)) rfl k9) ?_
  obtain ⟨F1, G1, ⟨hv1, hw1⟩, hx1⟩ := c_stCopy65 (h := h) (F := F) (G := G) hS h01
  refine qy (fun _ _ k9 => z_cv0 (M1 := M_X8_copyFrom) d_X11_image_12 lv_X11_141 k_X8_copyFrom [qR 3] rfl rfl (xput_ob (c := (F 65)) xi_65 rfl (xsh_8 xo_65)) ⟨_, _, rfl⟩ (Nat.le_of_ble_eq_true rfl) (by decide) (by decide) (Nat.le_of_ble_eq_true rfl) hx1 k9) ?_
  refine qy (fun _ _ k9 => z_aload_n d_X11_image_15 rfl rfl k9) ?_
  refine qy (fun _ _ k9 => z_iconst d_X11_image_16 (by decide) k9) ?_
  refine qy (fun _ _ k9 => z_putf (fs' := [qR 3, qR 65, qI 1, qR 127, qR 160, qR 172, qR 206, qR 216, qR 219]) d_X11_image_17 fp_X11_19 (xput_ob (c := (F1 2)) xi_2 rfl (xsh_11 xo_2)) (fun _ => rfl) (fun _ => rfl) (Nat.le_of_ble_eq_true rfl) rfl k9) ?_
  refine qy (fun _ _ k9 => z_eq rfl rfl (xput_sf (c := (qup (F1 2) 2 1)) xi_2 (xsh_11 xo_2)) k9) ?_
  refine qy (fun _ _ k9 => z_iconst d_X11_image_20 (by decide) k9) ?_
  exact y_ret (hQ (gup F1 2 (qup (F1 2) 2 1)) G1 (⟨fun a h1 h2 => ⟨(gup_ne h2).trans (xfr_F hv1 h1), xfr_G hv1 h1⟩, xfr_G hv1 (by decide), fun k hk => (by rw [gup_eq, qup_ne hk, xfr_F hv1 (by decide)]), (by rw [gup_eq, qup_eq]), staR_cg hw1 (fun a h1 h2 => ⟨gup_ne (by omega), rfl⟩)⟩)) (z_zret d_X11_image_21 rfl (by first | exact qb_01 _ | decide | omega) rfl rfl)
set_option maxRecDepth 20000 in
set_option maxHeartbeats 4000000 in
theorem xc_image0no {h : qH} {F G : Nat → Nat → Int}  (hi : F 2 2 = 0) : qEx M_X11_image 0 [qR 2, qI 0] [] (xput h F G) (some (qI 0)) (xput h F G) := by
  refine q_gen (fun r hr er eh => ?_)
  refine z_iload_n d_X11_image_0 rfl rfl ?_
  refine z_if_eq 22 d_X11_image_1 (by decide) (fun hc1 => ?_) (fun hc1 => absurd (by decide) hc1)
  refine z_aload_n d_X11_image_22 rfl rfl ?_
  refine z_getf (v := qI ((F 2) 2)) d_X11_image_23 fl_X11_19 (xput_ob (c := (F 2)) xi_2 rfl (xsh_11 xo_2)) rfl ?_
  refine z_eq rfl (qc (qi hi) rfl) rfl ?_
  refine z_if_ne 31 d_X11_image_26 (by decide) (fun hc2 => absurd hc2 (by decide)) (fun hc2 => ?_)
  refine z_iconst d_X11_image_29 (by decide) ?_
  exact z_zret d_X11_image_30 rfl (by first | exact qb_01 _ | decide | omega) er eh
set_option maxRecDepth 20000 in
set_option maxHeartbeats 4000000 in
theorem xc_image0 {h : qH} {F G : Nat → Nat → Int} {R C T D R' C' PL TL LL ML N : Nat → Int} {pl tl ll ml : Nat} (hS : staR F G 65 R C T D R' C' pl tl ll ml PL TL LL ML N) (h01 : N 161 = 0 ∨ N 161 = 1) (hi : F 2 2 = 1) : ∃ F' G', ((∀ a, (a < 3 ∨ 64 < a) → a ≠ 127 → F' a = F a ∧ G' a = G a) ∧ G' 127 = G 127 ∧ F' 127 = qup (F 127) 3 0 ∧ staR F' G' 3 R C T D R' C' pl tl ll ml PL TL LL ML N) ∧ qEx M_X11_image 0 [qR 2, qI 0] [] (xput h F G) (some (qI 1)) (xput h F' G') := by
  refine x_in (fun Q hQ => ?_)
  refine qy (fun _ _ k9 => z_iload_n d_X11_image_0 rfl rfl k9) ?_
  refine qy2 (fun _ _ => z_if_eq 22 d_X11_image_1 (by decide)) (fun hc1 => ?_) (fun hc1 => absurd (by decide) hc1)
  refine qy (fun _ _ k9 => z_aload_n d_X11_image_22 rfl rfl k9) ?_
  refine qy (fun _ _ k9 => z_getf (v := qI ((F 2) 2)) d_X11_image_23 fl_X11_19 (xput_ob (c := (F 2)) xi_2 rfl (xsh_11 xo_2)) rfl k9) ?_
  refine qy (fun _ _ k9 => z_eq rfl (qc (qi hi) rfl) rfl k9) ?_
  refine qy2 (fun _ _ => z_if_ne 31 d_X11_image_26 (by decide)) (fun hc2 => ?_) (fun hc2 => absurd (by decide) hc2)
  refine qy (fun _ _ k9 => z_aload_n d_X11_image_31 rfl rfl k9) ?_
  refine qy (fun _ _ k9 => z_getf (v := qR 3) d_X11_image_32 fl_X11_12 (xput_ob (c := (F 2)) xi_2 rfl (xsh_11 xo_2)) rfl k9) ?_
  refine qy (fun _ _ k9 => z_aload_n d_X11_image_35 rfl rfl k9) ?_
  refine qy (fun _ _ k9 => z_getf (v := qR 65) d_X11_image_36 fl_X11_16 (xput_ob (c := (F 2)) xi_2 rfl (xsh_11 xo_2)) rfl k9) ?_
  obtain ⟨F1, G1, ⟨hv1, hw1⟩, hx1⟩ := c_stCopy3 (h := h) (F := F) (G := G) hS h01
  refine qy (fun _ _ k9 => z_cv0 (M1 := M_X8_copyFrom) d_X11_image_39 lv_X11_141 k_X8_copyFrom [qR 65] rfl rfl (xput_ob (c := (F 3)) xi_3 rfl (xsh_8 xo_3)) ⟨_, _, rfl⟩ (Nat.le_of_ble_eq_true rfl) (by decide) (by decide) (Nat.le_of_ble_eq_true rfl) hx1 k9) ?_
  refine qy (fun _ _ k9 => z_aload_n d_X11_image_42 rfl rfl k9) ?_
  refine qy (fun _ _ k9 => z_getf (v := qR 127) d_X11_image_43 fl_X11_26 (xput_ob (c := (F1 2)) xi_2 rfl (xsh_11 xo_2)) rfl k9) ?_
  refine qy (fun _ _ k9 => z_cv0 (M1 := M_X3_forget) d_X11_image_46 lv_X11_76 k_X3_forget [] rfl rfl (xput_ob (c := (F1 127)) xi_127 rfl (xsh_3 xo_127)) ⟨_, _, rfl⟩ (Nat.le_of_ble_eq_true rfl) (by decide) (by decide) (Nat.le_of_ble_eq_true rfl) c_forget k9) ?_
  refine qy (fun _ _ k9 => z_iconst d_X11_image_49 (by decide) k9) ?_
  exact y_ret (hQ (gup F1 127 (qup (F1 127) 3 0)) G1 (⟨fun a h1 h2 => ⟨(gup_ne h2).trans (xfr_F hv1 h1), xfr_G hv1 h1⟩, xfr_G hv1 (by decide), (by rw [gup_eq, xfr_F hv1 (by decide)]), staR_cg hw1 (fun a h1 h2 => ⟨gup_ne (by omega), rfl⟩)⟩)) (z_zret d_X11_image_50 rfl (by first | exact qb_01 _ | decide | omega) rfl rfl)
