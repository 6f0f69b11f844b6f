/-! ===== CONTRACTS: the reference: steps, runs, isGood, firstBad ===== -/
set_option maxRecDepth 20000 in
set_option maxHeartbeats 4000000 in
theorem c_steps28_0 {h : qH} {m : Nat} {f : Nat → Int} {g : Nat → Nat → Int} {n : Nat} (df : Int) (hm : 2 ≤ m) (hn : n ≤ 32) (hF : ∀ k, k < n → 0 ≤ g 28 k ∧ g 28 k ≤ 7) : qEx M_X12_steps 0 [qR m, qR (m + 28), qI (n : Int), qI 0, qI df, qR (m + 25), qU, qU, qU] [] (rput h m f g) none (rput h m f (gup (gup g 29 (qmx n (stp (g 25) n 0 df (g 28)) (g 29))) 28 (qmx n (stp (g 25) n 0 df (g 28)) (g 28)))) := by
  refine q_gen (fun r hr er eh => ?_)
  refine z_iconst d_X12_steps_0 (by decide) ?_
  refine z_istore (ls' := [qR m, qR (m + 28), qI (n : Int), qI 0, qI df, qR (m + 25), qI 0, qU, qU]) d_X12_steps_1 (by decide) rfl ?_
  refine z_eq (qc rfl (qc rfl (qc rfl (qc rfl (qc rfl (qc rfl (qc (qi (by omega)) (qc rfl (qc rfl rfl))))))))) rfl (rput_cg rfl (gup_self (qmx_0 _ _).symm).symm) (z_for n (fun i => [qR m, qR (m + 28), qI (n : Int), qI 0, qI df, qR (m + 25), qI (i : Int), qU, qU]) (fun i => (rput h m f (gup g 29 (qmx i (stp (g 25) n 0 df (g 28)) (g 29))))) (fun i => True) trivial (fun i hii hp kki => ?_) (fun hp => ?_))
  · show qEx M_X12_steps 3 [qR m, qR (m + 28), qI (n : Int), qI 0, qI df, qR (m + 25), qI (i : Int), qU, qU] [] (rput h m f (gup g 29 (qmx i (stp (g 25) n 0 df (g 28)) (g 29)))) r hr
    have e1 := stL_bd (rg := 0) hii hF
    have e2 := stR_bd (rg := 0) hii hF
    have e3 := stC_bd (rg := 0) hii hF
    have e4 := hF i hii
    refine z_iload d_X12_steps_3 rfl ?_
    refine z_iload_n d_X12_steps_5 rfl rfl ?_
    refine z_icmp_ge 111 d_X12_steps_6 (by decide) (fun hc1 => absurd hc1 (by omega)) (fun hc1 => ?_)
    refine z_iload d_X12_steps_9 rfl ?_
    suffices kJ11 : qEx M_X12_steps 37 [qR m, qR (m + 28), qI (n : Int), qI 0, qI df, qR (m + 25), qI (i : Int), qU, qU] [qI (qif ((i : Int) ≤ 0) 8 ((g 28) (i - 1)))] (rput h m f (gup g 29 (qmx i (stp (g 25) n 0 df (g 28)) (g 29)))) r hr by
      refine z_if_le 23 d_X12_steps_11 (by decide) (fun hc2 => ?_) (fun hc2 => ?_)
      · refine z_iload_n d_X12_steps_23 rfl rfl ?_
        refine z_if_eq 35 d_X12_steps_24 (by decide) (fun hc3 => ?_) (fun hc3 => absurd (by decide) hc3)
        refine z_bipush d_X12_steps_35 (by decide) ?_
        exact z_eq rfl (qc (qi (qif_t hc2).symm) rfl) rfl kJ11
      · refine z_aload_n d_X12_steps_14 rfl rfl ?_
        refine z_iload d_X12_steps_15 rfl ?_
        refine z_iconst d_X12_steps_17 (by decide) ?_
        refine z_isub d_X12_steps_18 (by omega) ?_
        refine z_ild (i - 1) d_X12_steps_19 (rput_a2 28 (t := 0) (n := 32) (F := (g 28)) rfl rfl rfl (by decide) (by decide)) (by omega) (by omega) ?_
        refine z_goto 37 d_X12_steps_20 (by decide) ?_
        exact z_eq rfl (qc (qi (qif_f hc2).symm) rfl) rfl kJ11
    refine z_istore (ls' := [qR m, qR (m + 28), qI (n : Int), qI 0, qI df, qR (m + 25), qI (i : Int), qI (qif ((i : Int) ≤ 0) 8 ((g 28) (i - 1))), qU]) d_X12_steps_37 (by decide) rfl ?_
    refine z_eq (qc rfl (qc rfl (qc rfl (qc rfl (qc rfl (qc rfl (qc rfl (qc (qi (show (qif ((i : Int) ≤ 0) 8 ((g 28) (i - 1))) = (stL n 0 (g 28) i) from rfl)) rfl)))))))) rfl rfl ?_
    refine z_iload d_X12_steps_39 rfl ?_
    refine z_iconst d_X12_steps_41 (by decide) ?_
    refine z_iadd d_X12_steps_42 (by omega) ?_
    refine z_iload_n d_X12_steps_43 rfl rfl ?_
    suffices kJ44 : qEx M_X12_steps 68 [qR m, qR (m + 28), qI (n : Int), qI 0, qI df, qR (m + 25), qI (i : Int), qI (stL n 0 (g 28) i), qU] [qI (qif (((i : Int) + 1) ≥ (n : Int)) 8 ((g 28) (i + 1)))] (rput h m f (gup g 29 (qmx i (stp (g 25) n 0 df (g 28)) (g 29)))) r hr by
      refine z_icmp_ge 56 d_X12_steps_44 (by decide) (fun hc4 => ?_) (fun hc4 => ?_)
      · refine z_iload_n d_X12_steps_56 rfl rfl ?_
        refine z_if_eq 66 d_X12_steps_57 (by decide) (fun hc5 => ?_) (fun hc5 => absurd (by decide) hc5)
        refine z_bipush d_X12_steps_66 (by decide) ?_
        exact z_eq rfl (qc (qi (qif_t hc4).symm) rfl) rfl kJ44
      · refine z_aload_n d_X12_steps_47 rfl rfl ?_
        refine z_iload d_X12_steps_48 rfl ?_
        refine z_iconst d_X12_steps_50 (by decide) ?_
        refine z_iadd d_X12_steps_51 (by omega) ?_
        refine z_ild (i + 1) d_X12_steps_52 (rput_a2 28 (t := 0) (n := 32) (F := (g 28)) rfl rfl rfl (by decide) (by decide)) rfl (by omega) ?_
        refine z_goto 68 d_X12_steps_53 (by decide) ?_
        exact z_eq rfl (qc (qi (qif_f hc4).symm) rfl) rfl kJ44
    refine z_istore (ls' := [qR m, qR (m + 28), qI (n : Int), qI 0, qI df, qR (m + 25), qI (i : Int), qI (stL n 0 (g 28) i), qI (qif (((i : Int) + 1) ≥ (n : Int)) 8 ((g 28) (i + 1)))]) d_X12_steps_68 (by decide) rfl ?_
    refine z_eq (qc rfl (qc rfl (qc rfl (qc rfl (qc rfl (qc rfl (qc rfl (qc rfl (qc (qi (show (qif (((i : Int) + 1) ≥ (n : Int)) 8 ((g 28) (i + 1))) = (stR n 0 (g 28) i) from rfl)) rfl))))))))) rfl rfl ?_
    refine z_aload_n d_X12_steps_70 rfl rfl ?_
    refine z_getf (v := qR (m + 29)) d_X12_steps_71 fl_X12_98 rput_o rfl ?_
    refine z_iload d_X12_steps_74 rfl ?_
    refine z_iload d_X12_steps_76 rfl ?_
    refine z_iload d_X12_steps_78 rfl ?_
    suffices kJ80 : qEx M_X12_steps 104 [qR m, qR (m + 28), qI (n : Int), qI 0, qI df, qR (m + 25), qI (i : Int), qI (stL n 0 (g 28) i), qI (stR n 0 (g 28) i)] [qI (qif ((i : Int) ≠ df) ((g 25) ((stC n 0 (g 28) i).toNat)) ((g 28) i)), qI (i : Int), qR (m + 29)] (rput h m f (gup g 29 (qmx i (stp (g 25) n 0 df (g 28)) (g 29)))) r hr by
      refine z_icmp_ne 90 d_X12_steps_80 (by decide) (fun hc6 => ?_) (fun hc6 => ?_)
      · refine z_aload d_X12_steps_90 rfl ?_
        refine z_aload_n d_X12_steps_92 rfl rfl ?_
        refine z_iload d_X12_steps_93 rfl ?_
        refine z_ild i d_X12_steps_95 (rput_a2 28 (t := 0) (n := 32) (F := (g 28)) rfl rfl rfl (by decide) (by decide)) rfl (by omega) ?_
        refine z_iload d_X12_steps_96 rfl ?_
        refine z_iload d_X12_steps_98 rfl ?_
        refine z_cs (M1 := M_X12_caseOf) d_X12_steps_100 ls_X12_263 k_X12_caseOf [qI ((g 28) i), qI (stL n 0 (g 28) i), qI (stR n 0 (g 28) i)] rfl rfl (Nat.le_of_ble_eq_true rfl) (by decide) (by decide) (Nat.le_of_ble_eq_true rfl) (c_caseOf2 ((g 28) i) (stL n 0 (g 28) i) (stR n 0 (g 28) i) (by omega) (by omega) (by omega)) ?_
        refine z_eq rfl (qc (qi (show (81 * ((g 28) i) + 9 * (stL n 0 (g 28) i) + (stR n 0 (g 28) i)) = (stC n 0 (g 28) i) from rfl)) rfl) rfl ?_
        refine z_ild ((stC n 0 (g 28) i).toNat) d_X12_steps_103 (rput_a2 25 (t := 0) (n := 648) (F := (g 25)) rfl rfl rfl (by decide) (by decide)) (by omega) (by omega) ?_
        exact z_eq rfl (qc (qi (qif_t hc6).symm) (qc rfl (qc rfl rfl))) rfl kJ80
      · refine z_aload_n d_X12_steps_83 rfl rfl ?_
        refine z_iload d_X12_steps_84 rfl ?_
        refine z_ild i d_X12_steps_86 (rput_a2 28 (t := 0) (n := 32) (F := (g 28)) rfl rfl rfl (by decide) (by decide)) rfl (by omega) ?_
        refine z_goto 104 d_X12_steps_87 (by decide) ?_
        exact z_eq rfl (qc (qi (qif_f hc6).symm) (qc rfl (qc rfl rfl))) rfl kJ80
    refine z_ist i d_X12_steps_104 (rput_a2 29 (t := 0) (n := 32) (F := (qmx i (stp (g 25) n 0 df (g 28)) (g 29))) rfl rfl rfl (by decide) (by decide)) (by omega) rfl (by omega) ?_
    refine z_eq rfl rfl ((rput_sa 29 rfl rfl (by decide) (by decide)).trans (rput_cg rfl (gup_gup _ _ _))) ?_
    refine z_iinc (ls' := [qR m, qR (m + 28), qI (n : Int), qI 0, qI df, qR (m + 25), qI ((i : Int) + 1), qI (stL n 0 (g 28) i), qI (stR n 0 (g 28) i)]) d_X12_steps_105 rfl (by decide) (by omega) rfl ?_
    refine z_goto 3 d_X12_steps_108 (by decide) ?_
    exact z_dr (qle_k rfl (qle_k rfl (qle_k rfl (qle_k rfl (qle_k rfl (qle_k rfl (qle_k (qi (by omega)) (qle_d (qle_d qle_n))))))))) rfl (rput_cg rfl (gup_cg (F' := (qmx (i + 1) (stp (g 25) n 0 df (g 28)) (g 29))) rfl (qmx_s i (stp (g 25) n 0 df (g 28)) (g 29)))) (kki trivial)
  · show qEx M_X12_steps 3 [qR m, qR (m + 28), qI (n : Int), qI 0, qI df, qR (m + 25), qI (n : Int), qU, qU] [] (rput h m f (gup g 29 (qmx n (stp (g 25) n 0 df (g 28)) (g 29)))) r hr
    refine z_iload d_X12_steps_3 rfl ?_
    refine z_iload_n d_X12_steps_5 rfl rfl ?_
    refine z_icmp_ge 111 d_X12_steps_6 (by decide) (fun hc7 => ?_) (fun hc7 => absurd hc7 (by omega))
    refine z_iconst d_X12_steps_111 (by decide) ?_
    refine z_istore (ls' := [qR m, qR (m + 28), qI (n : Int), qI 0, qI df, qR (m + 25), qI 0, qU, qU]) d_X12_steps_112 (by decide) rfl ?_
    refine z_eq (qc rfl (qc rfl (qc rfl (qc rfl (qc rfl (qc rfl (qc (qi (by omega)) (qc rfl (qc rfl rfl))))))))) rfl (rput_cg rfl (gup_self (qmx_0 _ _).symm).symm) (z_for n (fun i => [qR m, qR (m + 28), qI (n : Int), qI 0, qI df, qR (m + 25), qI (i : Int), qU, qU]) (fun i => (rput h m f (gup (gup g 29 (qmx n (stp (g 25) n 0 df (g 28)) (g 29))) 28 (qmx i (stp (g 25) n 0 df (g 28)) (g 28))))) (fun i => True) trivial (fun i hii hp kki => ?_) (fun hp => ?_))
    · show qEx M_X12_steps 114 [qR m, qR (m + 28), qI (n : Int), qI 0, qI df, qR (m + 25), qI (i : Int), qU, qU] [] (rput h m f (gup (gup g 29 (qmx n (stp (g 25) n 0 df (g 28)) (g 29))) 28 (qmx i (stp (g 25) n 0 df (g 28)) (g 28)))) r hr
      refine z_iload d_X12_steps_114 rfl ?_
      refine z_iload_n d_X12_steps_116 rfl rfl ?_
      refine z_icmp_ge 137 d_X12_steps_117 (by decide) (fun hc8 => absurd hc8 (by omega)) (fun hc8 => ?_)
      refine z_aload_n d_X12_steps_120 rfl rfl ?_
      refine z_iload d_X12_steps_121 rfl ?_
      refine z_aload_n d_X12_steps_123 rfl rfl ?_
      refine z_getf (v := qR (m + 29)) d_X12_steps_124 fl_X12_98 rput_o rfl ?_
      refine z_iload d_X12_steps_127 rfl ?_
      refine z_ild i d_X12_steps_129 (rput_a2 29 (t := 0) (n := 32) (F := (qmx n (stp (g 25) n 0 df (g 28)) (g 29))) rfl rfl rfl (by decide) (by decide)) rfl (by omega) ?_
      refine z_ist i d_X12_steps_130 (rput_a2 28 (t := 0) (n := 32) (F := (qmx i (stp (g 25) n 0 df (g 28)) (g 28))) rfl rfl rfl (by decide) (by decide)) (by omega) rfl (by omega) ?_
      refine z_eq rfl rfl ((rput_sa 28 rfl rfl (by decide) (by decide)).trans (rput_cg rfl (gup_gup _ _ _))) ?_
      refine z_iinc (ls' := [qR m, qR (m + 28), qI (n : Int), qI 0, qI df, qR (m + 25), qI ((i : Int) + 1), qU, qU]) d_X12_steps_131 rfl (by decide) (by omega) rfl ?_
      refine z_goto 114 d_X12_steps_134 (by decide) ?_
      exact z_eq (qc rfl (qc rfl (qc rfl (qc rfl (qc rfl (qc rfl (qc (qi (by omega)) (qc rfl (qc rfl rfl))))))))) rfl (rput_cg rfl (gup_cg (F' := (qmx (i + 1) (stp (g 25) n 0 df (g 28)) (g 28))) rfl (by rw [qmx_lt hii]; exact qmx_s i (stp (g 25) n 0 df (g 28)) (g 28)))) (kki trivial)
    · show qEx M_X12_steps 114 [qR m, qR (m + 28), qI (n : Int), qI 0, qI df, qR (m + 25), qI (n : Int), qU, qU] [] (rput h m f (gup (gup g 29 (qmx n (stp (g 25) n 0 df (g 28)) (g 29))) 28 (qmx n (stp (g 25) n 0 df (g 28)) (g 28)))) r hr
      refine z_iload d_X12_steps_114 rfl ?_
      refine z_iload_n d_X12_steps_116 rfl rfl ?_
      refine z_icmp_ge 137 d_X12_steps_117 (by decide) (fun hc9 => ?_) (fun hc9 => absurd hc9 (by omega))
      exact z_vret d_X12_steps_137 rfl er eh
set_option maxRecDepth 20000 in
set_option maxHeartbeats 4000000 in
theorem c_steps28_1 {h : qH} {m : Nat} {f : Nat → Int} {g : Nat → Nat → Int} {n : Nat} (df : Int) (hm : 2 ≤ m) (hn : n ≤ 32) (hF : ∀ k, k < n → 0 ≤ g 28 k ∧ g 28 k ≤ 7) : qEx M_X12_steps 0 [qR m, qR (m + 28), qI (n : Int), qI 1, qI df, qR (m + 25), qU, qU, qU] [] (rput h m f g) none (rput h m f (gup (gup g 29 (qmx n (stp (g 25) n 1 df (g 28)) (g 29))) 28 (qmx n (stp (g 25) n 1 df (g 28)) (g 28)))) := by
  refine q_gen (fun r hr er eh => ?_)
  refine z_iconst d_X12_steps_0 (by decide) ?_
  refine z_istore (ls' := [qR m, qR (m + 28), qI (n : Int), qI 1, qI df, qR (m + 25), qI 0, qU, qU]) d_X12_steps_1 (by decide) rfl ?_
  refine z_eq (qc rfl (qc rfl (qc rfl (qc rfl (qc rfl (qc rfl (qc (qi (by omega)) (qc rfl (qc rfl rfl))))))))) rfl (rput_cg rfl (gup_self (qmx_0 _ _).symm).symm) (z_for n (fun i => [qR m, qR (m + 28), qI (n : Int), qI 1, qI df, qR (m + 25), qI (i : Int), qU, qU]) (fun i => (rput h m f (gup g 29 (qmx i (stp (g 25) n 1 df (g 28)) (g 29))))) (fun i => True) trivial (fun i hii hp kki => ?_) (fun hp => ?_))
  · show qEx M_X12_steps 3 [qR m, qR (m + 28), qI (n : Int), qI 1, qI df, qR (m + 25), qI (i : Int), qU, qU] [] (rput h m f (gup g 29 (qmx i (stp (g 25) n 1 df (g 28)) (g 29)))) r hr
    have e1 := stL_bd (rg := 1) hii hF
    have e2 := stR_bd (rg := 1) hii hF
    have e3 := stC_bd (rg := 1) hii hF
    have e4 := hF i hii
    refine z_iload d_X12_steps_3 rfl ?_
    refine z_iload_n d_X12_steps_5 rfl rfl ?_
    refine z_icmp_ge 111 d_X12_steps_6 (by decide) (fun hc1 => absurd hc1 (by omega)) (fun hc1 => ?_)
    refine z_iload d_X12_steps_9 rfl ?_
    suffices kJ11 : qEx M_X12_steps 37 [qR m, qR (m + 28), qI (n : Int), qI 1, qI df, qR (m + 25), qI (i : Int), qU, qU] [qI (qif ((i : Int) ≤ 0) ((g 28) (n - 1)) ((g 28) (i - 1)))] (rput h m f (gup g 29 (qmx i (stp (g 25) n 1 df (g 28)) (g 29)))) r hr by
      refine z_if_le 23 d_X12_steps_11 (by decide) (fun hc2 => ?_) (fun hc2 => ?_)
      · refine z_iload_n d_X12_steps_23 rfl rfl ?_
        refine z_if_eq 35 d_X12_steps_24 (by decide) (fun hc3 => absurd hc3 (by decide)) (fun hc3 => ?_)
        refine z_aload_n d_X12_steps_27 rfl rfl ?_
        refine z_iload_n d_X12_steps_28 rfl rfl ?_
        refine z_iconst d_X12_steps_29 (by decide) ?_
        refine z_isub d_X12_steps_30 (by omega) ?_
        refine z_ild (n - 1) d_X12_steps_31 (rput_a2 28 (t := 0) (n := 32) (F := (g 28)) rfl rfl rfl (by decide) (by decide)) (by omega) (by omega) ?_
        refine z_goto 37 d_X12_steps_32 (by decide) ?_
        exact z_eq rfl (qc (qi (qif_t hc2).symm) rfl) rfl kJ11
      · refine z_aload_n d_X12_steps_14 rfl rfl ?_
        refine z_iload d_X12_steps_15 rfl ?_
        refine z_iconst d_X12_steps_17 (by decide) ?_
        refine z_isub d_X12_steps_18 (by omega) ?_
        refine z_ild (i - 1) d_X12_steps_19 (rput_a2 28 (t := 0) (n := 32) (F := (g 28)) rfl rfl rfl (by decide) (by decide)) (by omega) (by omega) ?_
        refine z_goto 37 d_X12_steps_20 (by decide) ?_
        exact z_eq rfl (qc (qi (qif_f hc2).symm) rfl) rfl kJ11
    refine z_istore (ls' := [qR m, qR (m + 28), qI (n : Int), qI 1, qI df, qR (m + 25), qI (i : Int), qI (qif ((i : Int) ≤ 0) ((g 28) (n - 1)) ((g 28) (i - 1))), qU]) d_X12_steps_37 (by decide) rfl ?_
    refine z_eq (qc rfl (qc rfl (qc rfl (qc rfl (qc rfl (qc rfl (qc rfl (qc (qi (show (qif ((i : Int) ≤ 0) ((g 28) (n - 1)) ((g 28) (i - 1))) = (stL n 1 (g 28) i) from rfl)) rfl)))))))) rfl rfl ?_
    refine z_iload d_X12_steps_39 rfl ?_
    refine z_iconst d_X12_steps_41 (by decide) ?_
    refine z_iadd d_X12_steps_42 (by omega) ?_
    refine z_iload_n d_X12_steps_43 rfl rfl ?_
    suffices kJ44 : qEx M_X12_steps 68 [qR m, qR (m + 28), qI (n : Int), qI 1, qI df, qR (m + 25), qI (i : Int), qI (stL n 1 (g 28) i), qU] [qI (qif (((i : Int) + 1) ≥ (n : Int)) ((g 28) 0) ((g 28) (i + 1)))] (rput h m f (gup g 29 (qmx i (stp (g 25) n 1 df (g 28)) (g 29)))) r hr by
      refine z_icmp_ge 56 d_X12_steps_44 (by decide) (fun hc4 => ?_) (fun hc4 => ?_)
      · refine z_iload_n d_X12_steps_56 rfl rfl ?_
        refine z_if_eq 66 d_X12_steps_57 (by decide) (fun hc5 => absurd hc5 (by decide)) (fun hc5 => ?_)
        refine z_aload_n d_X12_steps_60 rfl rfl ?_
        refine z_iconst d_X12_steps_61 (by decide) ?_
        refine z_ild 0 d_X12_steps_62 (rput_a2 28 (t := 0) (n := 32) (F := (g 28)) rfl rfl rfl (by decide) (by decide)) rfl (by omega) ?_
        refine z_goto 68 d_X12_steps_63 (by decide) ?_
        exact z_eq rfl (qc (qi (qif_t hc4).symm) rfl) rfl kJ44
      · refine z_aload_n d_X12_steps_47 rfl rfl ?_
        refine z_iload d_X12_steps_48 rfl ?_
        refine z_iconst d_X12_steps_50 (by decide) ?_
        refine z_iadd d_X12_steps_51 (by omega) ?_
        refine z_ild (i + 1) d_X12_steps_52 (rput_a2 28 (t := 0) (n := 32) (F := (g 28)) rfl rfl rfl (by decide) (by decide)) rfl (by omega) ?_
        refine z_goto 68 d_X12_steps_53 (by decide) ?_
        exact z_eq rfl (qc (qi (qif_f hc4).symm) rfl) rfl kJ44
    refine z_istore (ls' := [qR m, qR (m + 28), qI (n : Int), qI 1, qI df, qR (m + 25), qI (i : Int), qI (stL n 1 (g 28) i), qI (qif (((i : Int) + 1) ≥ (n : Int)) ((g 28) 0) ((g 28) (i + 1)))]) d_X12_steps_68 (by decide) rfl ?_
    refine z_eq (qc rfl (qc rfl (qc rfl (qc rfl (qc rfl (qc rfl (qc rfl (qc rfl (qc (qi (show (qif (((i : Int) + 1) ≥ (n : Int)) ((g 28) 0) ((g 28) (i + 1))) = (stR n 1 (g 28) i) from rfl)) rfl))))))))) rfl rfl ?_
    refine z_aload_n d_X12_steps_70 rfl rfl ?_
    refine z_getf (v := qR (m + 29)) d_X12_steps_71 fl_X12_98 rput_o rfl ?_
    refine z_iload d_X12_steps_74 rfl ?_
    refine z_iload d_X12_steps_76 rfl ?_
    refine z_iload d_X12_steps_78 rfl ?_
    suffices kJ80 : qEx M_X12_steps 104 [qR m, qR (m + 28), qI (n : Int), qI 1, qI df, qR (m + 25), qI (i : Int), qI (stL n 1 (g 28) i), qI (stR n 1 (g 28) i)] [qI (qif ((i : Int) ≠ df) ((g 25) ((stC n 1 (g 28) i).toNat)) ((g 28) i)), qI (i : Int), qR (m + 29)] (rput h m f (gup g 29 (qmx i (stp (g 25) n 1 df (g 28)) (g 29)))) r hr by
      refine z_icmp_ne 90 d_X12_steps_80 (by decide) (fun hc6 => ?_) (fun hc6 => ?_)
      · refine z_aload d_X12_steps_90 rfl ?_
        refine z_aload_n d_X12_steps_92 rfl rfl ?_
        refine z_iload d_X12_steps_93 rfl ?_
        refine z_ild i d_X12_steps_95 (rput_a2 28 (t := 0) (n := 32) (F := (g 28)) rfl rfl rfl (by decide) (by decide)) rfl (by omega) ?_
        refine z_iload d_X12_steps_96 rfl ?_
        refine z_iload d_X12_steps_98 rfl ?_
        refine z_cs (M1 := M_X12_caseOf) d_X12_steps_100 ls_X12_263 k_X12_caseOf [qI ((g 28) i), qI (stL n 1 (g 28) i), qI (stR n 1 (g 28) i)] rfl rfl (Nat.le_of_ble_eq_true rfl) (by decide) (by decide) (Nat.le_of_ble_eq_true rfl) (c_caseOf2 ((g 28) i) (stL n 1 (g 28) i) (stR n 1 (g 28) i) (by omega) (by omega) (by omega)) ?_
        refine z_eq rfl (qc (qi (show (81 * ((g 28) i) + 9 * (stL n 1 (g 28) i) + (stR n 1 (g 28) i)) = (stC n 1 (g 28) i) from rfl)) rfl) rfl ?_
        refine z_ild ((stC n 1 (g 28) i).toNat) d_X12_steps_103 (rput_a2 25 (t := 0) (n := 648) (F := (g 25)) rfl rfl rfl (by decide) (by decide)) (by omega) (by omega) ?_
        exact z_eq rfl (qc (qi (qif_t hc6).symm) (qc rfl (qc rfl rfl))) rfl kJ80
      · refine z_aload_n d_X12_steps_83 rfl rfl ?_
        refine z_iload d_X12_steps_84 rfl ?_
        refine z_ild i d_X12_steps_86 (rput_a2 28 (t := 0) (n := 32) (F := (g 28)) rfl rfl rfl (by decide) (by decide)) rfl (by omega) ?_
        refine z_goto 104 d_X12_steps_87 (by decide) ?_
        exact z_eq rfl (qc (qi (qif_f hc6).symm) (qc rfl (qc rfl rfl))) rfl kJ80
    refine z_ist i d_X12_steps_104 (rput_a2 29 (t := 0) (n := 32) (F := (qmx i (stp (g 25) n 1 df (g 28)) (g 29))) rfl rfl rfl (by decide) (by decide)) (by omega) rfl (by omega) ?_
    refine z_eq rfl rfl ((rput_sa 29 rfl rfl (by decide) (by decide)).trans (rput_cg rfl (gup_gup _ _ _))) ?_
    refine z_iinc (ls' := [qR m, qR (m + 28), qI (n : Int), qI 1, qI df, qR (m + 25), qI ((i : Int) + 1), qI (stL n 1 (g 28) i), qI (stR n 1 (g 28) i)]) d_X12_steps_105 rfl (by decide) (by omega) rfl ?_
    refine z_goto 3 d_X12_steps_108 (by decide) ?_
    exact z_dr (qle_k rfl (qle_k rfl (qle_k rfl (qle_k rfl (qle_k rfl (qle_k rfl (qle_k (qi (by omega)) (qle_d (qle_d qle_n))))))))) rfl (rput_cg rfl (gup_cg (F' := (qmx (i + 1) (stp (g 25) n 1 df (g 28)) (g 29))) rfl (qmx_s i (stp (g 25) n 1 df (g 28)) (g 29)))) (kki trivial)
  · show qEx M_X12_steps 3 [qR m, qR (m + 28), qI (n : Int), qI 1, qI df, qR (m + 25), qI (n : Int), qU, qU] [] (rput h m f (gup g 29 (qmx n (stp (g 25) n 1 df (g 28)) (g 29)))) r hr
    refine z_iload d_X12_steps_3 rfl ?_
    refine z_iload_n d_X12_steps_5 rfl rfl ?_
    refine z_icmp_ge 111 d_X12_steps_6 (by decide) (fun hc7 => ?_) (fun hc7 => absurd hc7 (by omega))
    refine z_iconst d_X12_steps_111 (by decide) ?_
    refine z_istore (ls' := [qR m, qR (m + 28), qI (n : Int), qI 1, qI df, qR (m + 25), qI 0, qU, qU]) d_X12_steps_112 (by decide) rfl ?_
    refine z_eq (qc rfl (qc rfl (qc rfl (qc rfl (qc rfl (qc rfl (qc (qi (by omega)) (qc rfl (qc rfl rfl))))))))) rfl (rput_cg rfl (gup_self (qmx_0 _ _).symm).symm) (z_for n (fun i => [qR m, qR (m + 28), qI (n : Int), qI 1, qI df, qR (m + 25), qI (i : Int), qU, qU]) (fun i => (rput h m f (gup (gup g 29 (qmx n (stp (g 25) n 1 df (g 28)) (g 29))) 28 (qmx i (stp (g 25) n 1 df (g 28)) (g 28))))) (fun i => True) trivial (fun i hii hp kki => ?_) (fun hp => ?_))
    · show qEx M_X12_steps 114 [qR m, qR (m + 28), qI (n : Int), qI 1, qI df, qR (m + 25), qI (i : Int), qU, qU] [] (rput h m f (gup (gup g 29 (qmx n (stp (g 25) n 1 df (g 28)) (g 29))) 28 (qmx i (stp (g 25) n 1 df (g 28)) (g 28)))) r hr
      refine z_iload d_X12_steps_114 rfl ?_
      refine z_iload_n d_X12_steps_116 rfl rfl ?_
      refine z_icmp_ge 137 d_X12_steps_117 (by decide) (fun hc8 => absurd hc8 (by omega)) (fun hc8 => ?_)
      refine z_aload_n d_X12_steps_120 rfl rfl ?_
      refine z_iload d_X12_steps_121 rfl ?_
      refine z_aload_n d_X12_steps_123 rfl rfl ?_
      refine z_getf (v := qR (m + 29)) d_X12_steps_124 fl_X12_98 rput_o rfl ?_
      refine z_iload d_X12_steps_127 rfl ?_
      refine z_ild i d_X12_steps_129 (rput_a2 29 (t := 0) (n := 32) (F := (qmx n (stp (g 25) n 1 df (g 28)) (g 29))) rfl rfl rfl (by decide) (by decide)) rfl (by omega) ?_
      refine z_ist i d_X12_steps_130 (rput_a2 28 (t := 0) (n := 32) (F := (qmx i (stp (g 25) n 1 df (g 28)) (g 28))) rfl rfl rfl (by decide) (by decide)) (by omega) rfl (by omega) ?_
      refine z_eq rfl rfl ((rput_sa 28 rfl rfl (by decide) (by decide)).trans (rput_cg rfl (gup_gup _ _ _))) ?_
      refine z_iinc (ls' := [qR m, qR (m + 28), qI (n : Int), qI 1, qI df, qR (m + 25), qI ((i : Int) + 1), qU, qU]) d_X12_steps_131 rfl (by decide) (by omega) rfl ?_
      refine z_goto 114 d_X12_steps_134 (by decide) ?_
      exact z_eq (qc rfl (qc rfl (qc rfl (qc rfl (qc rfl (qc rfl (qc (qi (by omega)) (qc rfl (qc rfl rfl))))))))) rfl (rput_cg rfl (gup_cg (F' := (qmx (i + 1) (stp (g 25) n 1 df (g 28)) (g 28))) rfl (by rw [qmx_lt hii]; exact qmx_s i (stp (g 25) n 1 df (g 28)) (g 28)))) (kki trivial)
    · show qEx M_X12_steps 114 [qR m, qR (m + 28), qI (n : Int), qI 1, qI df, qR (m + 25), qI (n : Int), qU, qU] [] (rput h m f (gup (gup g 29 (qmx n (stp (g 25) n 1 df (g 28)) (g 29))) 28 (qmx n (stp (g 25) n 1 df (g 28)) (g 28)))) r hr
      refine z_iload d_X12_steps_114 rfl ?_
      refine z_iload_n d_X12_steps_116 rfl rfl ?_
      refine z_icmp_ge 137 d_X12_steps_117 (by decide) (fun hc9 => ?_) (fun hc9 => absurd hc9 (by omega))
      exact z_vret d_X12_steps_137 rfl er eh
set_option maxRecDepth 20000 in
set_option maxHeartbeats 4000000 in
theorem c_steps30_0 {h : qH} {m : Nat} {f : Nat → Int} {g : Nat → Nat → Int} {n : Nat} (df : Int) (hm : 2 ≤ m) (hn : n ≤ 32) (hF : ∀ k, k < n → 0 ≤ g 30 k ∧ g 30 k ≤ 7) : qEx M_X12_steps 0 [qR m, qR (m + 30), qI (n : Int), qI 0, qI df, qR (m + 27), qU, qU, qU] [] (rput h m f g) none (rput h m f (gup (gup g 29 (qmx n (stp (g 27) n 0 df (g 30)) (g 29))) 30 (qmx n (stp (g 27) n 0 df (g 30)) (g 30)))) := by
  refine q_gen (fun r hr er eh => ?_)
  refine z_iconst d_X12_steps_0 (by decide) ?_
  refine z_istore (ls' := [qR m, qR (m + 30), qI (n : Int), qI 0, qI df, qR (m + 27), qI 0, qU, qU]) d_X12_steps_1 (by decide) rfl ?_
  refine z_eq (qc rfl (qc rfl (qc rfl (qc rfl (qc rfl (qc rfl (qc (qi (by omega)) (qc rfl (qc rfl rfl))))))))) rfl (rput_cg rfl (gup_self (qmx_0 _ _).symm).symm) (z_for n (fun i => [qR m, qR (m + 30), qI (n : Int), qI 0, qI df, qR (m + 27), qI (i : Int), qU, qU]) (fun i => (rput h m f (gup g 29 (qmx i (stp (g 27) n 0 df (g 30)) (g 29))))) (fun i => True) trivial (fun i hii hp kki => ?_) (fun hp => ?_))
  · show qEx M_X12_steps 3 [qR m, qR (m + 30), qI (n : Int), qI 0, qI df, qR (m + 27), qI (i : Int), qU, qU] [] (rput h m f (gup g 29 (qmx i (stp (g 27) n 0 df (g 30)) (g 29)))) r hr
    have e1 := stL_bd (rg := 0) hii hF
    have e2 := stR_bd (rg := 0) hii hF
    have e3 := stC_bd (rg := 0) hii hF
    have e4 := hF i hii
    refine z_iload d_X12_steps_3 rfl ?_
    refine z_iload_n d_X12_steps_5 rfl rfl ?_
    refine z_icmp_ge 111 d_X12_steps_6 (by decide) (fun hc1 => absurd hc1 (by omega)) (fun hc1 => ?_)
    refine z_iload d_X12_steps_9 rfl ?_
    suffices kJ11 : qEx M_X12_steps 37 [qR m, qR (m + 30), qI (n : Int), qI 0, qI df, qR (m + 27), qI (i : Int), qU, qU] [qI (qif ((i : Int) ≤ 0) 8 ((g 30) (i - 1)))] (rput h m f (gup g 29 (qmx i (stp (g 27) n 0 df (g 30)) (g 29)))) r hr by
      refine z_if_le 23 d_X12_steps_11 (by decide) (fun hc2 => ?_) (fun hc2 => ?_)
      · refine z_iload_n d_X12_steps_23 rfl rfl ?_
        refine z_if_eq 35 d_X12_steps_24 (by decide) (fun hc3 => ?_) (fun hc3 => absurd (by decide) hc3)
        refine z_bipush d_X12_steps_35 (by decide) ?_
        exact z_eq rfl (qc (qi (qif_t hc2).symm) rfl) rfl kJ11
      · refine z_aload_n d_X12_steps_14 rfl rfl ?_
        refine z_iload d_X12_steps_15 rfl ?_
        refine z_iconst d_X12_steps_17 (by decide) ?_
        refine z_isub d_X12_steps_18 (by omega) ?_
        refine z_ild (i - 1) d_X12_steps_19 (rput_a2 30 (t := 0) (n := 32) (F := (g 30)) rfl rfl rfl (by decide) (by decide)) (by omega) (by omega) ?_
        refine z_goto 37 d_X12_steps_20 (by decide) ?_
        exact z_eq rfl (qc (qi (qif_f hc2).symm) rfl) rfl kJ11
    refine z_istore (ls' := [qR m, qR (m + 30), qI (n : Int), qI 0, qI df, qR (m + 27), qI (i : Int), qI (qif ((i : Int) ≤ 0) 8 ((g 30) (i - 1))), qU]) d_X12_steps_37 (by decide) rfl ?_
    refine z_eq (qc rfl (qc rfl (qc rfl (qc rfl (qc rfl (qc rfl (qc rfl (qc (qi (show (qif ((i : Int) ≤ 0) 8 ((g 30) (i - 1))) = (stL n 0 (g 30) i) from rfl)) rfl)))))))) rfl rfl ?_
    refine z_iload d_X12_steps_39 rfl ?_
    refine z_iconst d_X12_steps_41 (by decide) ?_
    refine z_iadd d_X12_steps_42 (by omega) ?_
    refine z_iload_n d_X12_steps_43 rfl rfl ?_
    suffices kJ44 : qEx M_X12_steps 68 [qR m, qR (m + 30), qI (n : Int), qI 0, qI df, qR (m + 27), qI (i : Int), qI (stL n 0 (g 30) i), qU] [qI (qif (((i : Int) + 1) ≥ (n : Int)) 8 ((g 30) (i + 1)))] (rput h m f (gup g 29 (qmx i (stp (g 27) n 0 df (g 30)) (g 29)))) r hr by
      refine z_icmp_ge 56 d_X12_steps_44 (by decide) (fun hc4 => ?_) (fun hc4 => ?_)
      · refine z_iload_n d_X12_steps_56 rfl rfl ?_
        refine z_if_eq 66 d_X12_steps_57 (by decide) (fun hc5 => ?_) (fun hc5 => absurd (by decide) hc5)
        refine z_bipush d_X12_steps_66 (by decide) ?_
        exact z_eq rfl (qc (qi (qif_t hc4).symm) rfl) rfl kJ44
      · refine z_aload_n d_X12_steps_47 rfl rfl ?_
        refine z_iload d_X12_steps_48 rfl ?_
        refine z_iconst d_X12_steps_50 (by decide) ?_
        refine z_iadd d_X12_steps_51 (by omega) ?_
        refine z_ild (i + 1) d_X12_steps_52 (rput_a2 30 (t := 0) (n := 32) (F := (g 30)) rfl rfl rfl (by decide) (by decide)) rfl (by omega) ?_
        refine z_goto 68 d_X12_steps_53 (by decide) ?_
        exact z_eq rfl (qc (qi (qif_f hc4).symm) rfl) rfl kJ44
    refine z_istore (ls' := [qR m, qR (m + 30), qI (n : Int), qI 0, qI df, qR (m + 27), qI (i : Int), qI (stL n 0 (g 30) i), qI (qif (((i : Int) + 1) ≥ (n : Int)) 8 ((g 30) (i + 1)))]) d_X12_steps_68 (by decide) rfl ?_
    refine z_eq (qc rfl (qc rfl (qc rfl (qc rfl (qc rfl (qc rfl (qc rfl (qc rfl (qc (qi (show (qif (((i : Int) + 1) ≥ (n : Int)) 8 ((g 30) (i + 1))) = (stR n 0 (g 30) i) from rfl)) rfl))))))))) rfl rfl ?_
    refine z_aload_n d_X12_steps_70 rfl rfl ?_
    refine z_getf (v := qR (m + 29)) d_X12_steps_71 fl_X12_98 rput_o rfl ?_
    refine z_iload d_X12_steps_74 rfl ?_
    refine z_iload d_X12_steps_76 rfl ?_
    refine z_iload d_X12_steps_78 rfl ?_
    suffices kJ80 : qEx M_X12_steps 104 [qR m, qR (m + 30), qI (n : Int), qI 0, qI df, qR (m + 27), qI (i : Int), qI (stL n 0 (g 30) i), qI (stR n 0 (g 30) i)] [qI (qif ((i : Int) ≠ df) ((g 27) ((stC n 0 (g 30) i).toNat)) ((g 30) i)), qI (i : Int), qR (m + 29)] (rput h m f (gup g 29 (qmx i (stp (g 27) n 0 df (g 30)) (g 29)))) r hr by
      refine z_icmp_ne 90 d_X12_steps_80 (by decide) (fun hc6 => ?_) (fun hc6 => ?_)
      · refine z_aload d_X12_steps_90 rfl ?_
        refine z_aload_n d_X12_steps_92 rfl rfl ?_
        refine z_iload d_X12_steps_93 rfl ?_
        refine z_ild i d_X12_steps_95 (rput_a2 30 (t := 0) (n := 32) (F := (g 30)) rfl rfl rfl (by decide) (by decide)) rfl (by omega) ?_
        refine z_iload d_X12_steps_96 rfl ?_
        refine z_iload d_X12_steps_98 rfl ?_
        refine z_cs (M1 := M_X12_caseOf) d_X12_steps_100 ls_X12_263 k_X12_caseOf [qI ((g 30) i), qI (stL n 0 (g 30) i), qI (stR n 0 (g 30) i)] rfl rfl (Nat.le_of_ble_eq_true rfl) (by decide) (by decide) (Nat.le_of_ble_eq_true rfl) (c_caseOf2 ((g 30) i) (stL n 0 (g 30) i) (stR n 0 (g 30) i) (by omega) (by omega) (by omega)) ?_
        refine z_eq rfl (qc (qi (show (81 * ((g 30) i) + 9 * (stL n 0 (g 30) i) + (stR n 0 (g 30) i)) = (stC n 0 (g 30) i) from rfl)) rfl) rfl ?_
        refine z_ild ((stC n 0 (g 30) i).toNat) d_X12_steps_103 (rput_a2 27 (t := 0) (n := 648) (F := (g 27)) rfl rfl rfl (by decide) (by decide)) (by omega) (by omega) ?_
        exact z_eq rfl (qc (qi (qif_t hc6).symm) (qc rfl (qc rfl rfl))) rfl kJ80
      · refine z_aload_n d_X12_steps_83 rfl rfl ?_
        refine z_iload d_X12_steps_84 rfl ?_
        refine z_ild i d_X12_steps_86 (rput_a2 30 (t := 0) (n := 32) (F := (g 30)) rfl rfl rfl (by decide) (by decide)) rfl (by omega) ?_
        refine z_goto 104 d_X12_steps_87 (by decide) ?_
        exact z_eq rfl (qc (qi (qif_f hc6).symm) (qc rfl (qc rfl rfl))) rfl kJ80
    refine z_ist i d_X12_steps_104 (rput_a2 29 (t := 0) (n := 32) (F := (qmx i (stp (g 27) n 0 df (g 30)) (g 29))) rfl rfl rfl (by decide) (by decide)) (by omega) rfl (by omega) ?_
    refine z_eq rfl rfl ((rput_sa 29 rfl rfl (by decide) (by decide)).trans (rput_cg rfl (gup_gup _ _ _))) ?_
    refine z_iinc (ls' := [qR m, qR (m + 30), qI (n : Int), qI 0, qI df, qR (m + 27), qI ((i : Int) + 1), qI (stL n 0 (g 30) i), qI (stR n 0 (g 30) i)]) d_X12_steps_105 rfl (by decide) (by omega) rfl ?_
    refine z_goto 3 d_X12_steps_108 (by decide) ?_
    exact z_dr (qle_k rfl (qle_k rfl (qle_k rfl (qle_k rfl (qle_k rfl (qle_k rfl (qle_k (qi (by omega)) (qle_d (qle_d qle_n))))))))) rfl (rput_cg rfl (gup_cg (F' := (qmx (i + 1) (stp (g 27) n 0 df (g 30)) (g 29))) rfl (qmx_s i (stp (g 27) n 0 df (g 30)) (g 29)))) (kki trivial)
  · show qEx M_X12_steps 3 [qR m, qR (m + 30), qI (n : Int), qI 0, qI df, qR (m + 27), qI (n : Int), qU, qU] [] (rput h m f (gup g 29 (qmx n (stp (g 27) n 0 df (g 30)) (g 29)))) r hr
    refine z_iload d_X12_steps_3 rfl ?_
    refine z_iload_n d_X12_steps_5 rfl rfl ?_
    refine z_icmp_ge 111 d_X12_steps_6 (by decide) (fun hc7 => ?_) (fun hc7 => absurd hc7 (by omega))
    refine z_iconst d_X12_steps_111 (by decide) ?_
    refine z_istore (ls' := [qR m, qR (m + 30), qI (n : Int), qI 0, qI df, qR (m + 27), qI 0, qU, qU]) d_X12_steps_112 (by decide) rfl ?_
    refine z_eq (qc rfl (qc rfl (qc rfl (qc rfl (qc rfl (qc rfl (qc (qi (by omega)) (qc rfl (qc rfl rfl))))))))) rfl (rput_cg rfl (gup_self (qmx_0 _ _).symm).symm) (z_for n (fun i => [qR m, qR (m + 30), qI (n : Int), qI 0, qI df, qR (m + 27), qI (i : Int), qU, qU]) (fun i => (rput h m f (gup (gup g 29 (qmx n (stp (g 27) n 0 df (g 30)) (g 29))) 30 (qmx i (stp (g 27) n 0 df (g 30)) (g 30))))) (fun i => True) trivial (fun i hii hp kki => ?_) (fun hp => ?_))
    · show qEx M_X12_steps 114 [qR m, qR (m + 30), qI (n : Int), qI 0, qI df, qR (m + 27), qI (i : Int), qU, qU] [] (rput h m f (gup (gup g 29 (qmx n (stp (g 27) n 0 df (g 30)) (g 29))) 30 (qmx i (stp (g 27) n 0 df (g 30)) (g 30)))) r hr
      refine z_iload d_X12_steps_114 rfl ?_
      refine z_iload_n d_X12_steps_116 rfl rfl ?_
      refine z_icmp_ge 137 d_X12_steps_117 (by decide) (fun hc8 => absurd hc8 (by omega)) (fun hc8 => ?_)
      refine z_aload_n d_X12_steps_120 rfl rfl ?_
      refine z_iload d_X12_steps_121 rfl ?_
      refine z_aload_n d_X12_steps_123 rfl rfl ?_
      refine z_getf (v := qR (m + 29)) d_X12_steps_124 fl_X12_98 rput_o rfl ?_
      refine z_iload d_X12_steps_127 rfl ?_
      refine z_ild i d_X12_steps_129 (rput_a2 29 (t := 0) (n := 32) (F := (qmx n (stp (g 27) n 0 df (g 30)) (g 29))) rfl rfl rfl (by decide) (by decide)) rfl (by omega) ?_
      refine z_ist i d_X12_steps_130 (rput_a2 30 (t := 0) (n := 32) (F := (qmx i (stp (g 27) n 0 df (g 30)) (g 30))) rfl rfl rfl (by decide) (by decide)) (by omega) rfl (by omega) ?_
      refine z_eq rfl rfl ((rput_sa 30 rfl rfl (by decide) (by decide)).trans (rput_cg rfl (gup_gup _ _ _))) ?_
      refine z_iinc (ls' := [qR m, qR (m + 30), qI (n : Int), qI 0, qI df, qR (m + 27), qI ((i : Int) + 1), qU, qU]) d_X12_steps_131 rfl (by decide) (by omega) rfl ?_
      refine z_goto 114 d_X12_steps_134 (by decide) ?_
      exact z_eq (qc rfl (qc rfl (qc rfl (qc rfl (qc rfl (qc rfl (qc (qi (by omega)) (qc rfl (qc rfl rfl))))))))) rfl (rput_cg rfl (gup_cg (F' := (qmx (i + 1) (stp (g 27) n 0 df (g 30)) (g 30))) rfl (by rw [qmx_lt hii]; exact qmx_s i (stp (g 27) n 0 df (g 30)) (g 30)))) (kki trivial)
    · show qEx M_X12_steps 114 [qR m, qR (m + 30), qI (n : Int), qI 0, qI df, qR (m + 27), qI (n : Int), qU, qU] [] (rput h m f (gup (gup g 29 (qmx n (stp (g 27) n 0 df (g 30)) (g 29))) 30 (qmx n (stp (g 27) n 0 df (g 30)) (g 30)))) r hr
      refine z_iload d_X12_steps_114 rfl ?_
      refine z_iload_n d_X12_steps_116 rfl rfl ?_
      refine z_icmp_ge 137 d_X12_steps_117 (by decide) (fun hc9 => ?_) (fun hc9 => absurd hc9 (by omega))
      exact z_vret d_X12_steps_137 rfl er eh
set_option maxRecDepth 20000 in
set_option maxHeartbeats 4000000 in
theorem c_runs0 {h : qH} {m : Nat} {f : Nat → Int} {g : Nat → Nat → Int} {n : Nat} (b : Int) (hm : 2 ≤ m) (hn : 1 ≤ n ∧ n ≤ 32) (hT : ∀ c, c < 648 → 0 ≤ g 25 c ∧ g 25 c ≤ 7) : qEx M_X12_runs 0 [qR m, qI (n : Int), qI b, qI 0, qU] [] (rput h m f g) (some (qI (rnT (g 25) n 0 b))) (rput h m f (gup (gup g 28 (qmx n (rnE (g 25) n 0 b) (g 28))) 29 (qmx n (rnE (g 25) n 0 b) (g 29)))) := by
  refine q_gen (fun r hr er eh => ?_)
  refine z_aload_n d_X12_runs_0 rfl rfl ?_
  refine z_getf (v := qR (m + 28)) d_X12_runs_1 fl_X12_95 rput_o rfl ?_
  refine z_iload_n d_X12_runs_4 rfl rfl ?_
  refine z_iload_n d_X12_runs_5 rfl rfl ?_
  refine z_cs0 (M1 := M_X12_begins) d_X12_runs_6 ls_X12_329 k_X12_begins [qR (m + 28), qI (n : Int), qI b] rfl rfl (Nat.le_of_ble_eq_true rfl) (by decide) (by decide) (Nat.le_of_ble_eq_true rfl) (c_begins n b (rput_a2 28 (t := 0) (n := 32) (F := (g 28)) rfl rfl rfl (by decide) (by decide)) (by omega) (by omega) (by decide)) ?_
  refine z_eq rfl rfl (rput_sa 28 rfl rfl (by decide) (by decide)) ?_
  refine z_iconst d_X12_runs_9 (by decide) ?_
  refine z_istore (ls' := [qR m, qI (n : Int), qI b, qI 0, qI 1]) d_X12_runs_10 (by decide) rfl ?_
  refine z_eq (qc rfl (qc rfl (qc rfl (qc rfl (qc (qi (rfl)) rfl))))) rfl ((rput_cg rfl (gup_cg (F' := (qmx n (ps (g 25) n 0 (-1) b 0) (g 28))) rfl rfl)).trans (rput_cg rfl (gup_self (by rw [if_pos rfl]; exact (qmx_0 _ _).symm)).symm)) (z_for (3 * n + 20) (fun i => [qR m, qI (n : Int), qI b, qI 0, qI ((i : Int) + 1)]) (fun i => (rput h m f (gup (gup g 28 (qmx n (ps (g 25) n 0 (-1) b i) (g 28))) 29 (qmx (if i = 0 then 0 else n) (ps (g 25) n 0 (-1) b i) (g 29))))) (fun i => ∀ k, k < i → ¬ litAt (g 25) n 0 (-1) b (k + 1)) (fun k hk => absurd hk (by omega)) (fun i hii hp kki => ?_) (fun hp => ?_))
  · show qEx M_X12_runs 12 [qR m, qI (n : Int), qI b, qI 0, qI ((i : Int) + 1)] [] (rput h m f (gup (gup g 28 (qmx n (ps (g 25) n 0 (-1) b i) (g 28))) 29 (qmx (if i = 0 then 0 else n) (ps (g 25) n 0 (-1) b i) (g 29)))) r hr
    refine z_iload d_X12_runs_12 rfl ?_
    refine z_iload_n d_X12_runs_14 rfl rfl ?_
    refine z_cs (M1 := M_X12_longest) d_X12_runs_15 ls_X12_333 k_X12_longest [qI (n : Int)] rfl rfl (Nat.le_of_ble_eq_true rfl) (by decide) (by decide) (Nat.le_of_ble_eq_true rfl) (c_longest (n : Int) (by omega)) ?_
    refine z_icmp_gt 56 d_X12_runs_18 (by decide) (fun hc1 => absurd hc1 (by omega)) (fun hc1 => ?_)
    refine z_aload_n d_X12_runs_21 rfl rfl ?_
    refine z_aload_n d_X12_runs_22 rfl rfl ?_
    refine z_getf (v := qR (m + 28)) d_X12_runs_23 fl_X12_95 rput_o rfl ?_
    refine z_iload_n d_X12_runs_26 rfl rfl ?_
    refine z_iload_n d_X12_runs_27 rfl rfl ?_
    refine z_iconst d_X12_runs_28 (by decide) ?_
    refine z_aload_n d_X12_runs_29 rfl rfl ?_
    refine z_getf (v := qR (m + 25)) d_X12_runs_30 fl_X12_86 rput_o rfl ?_
    refine z_cv0 (M1 := M_X12_steps) d_X12_runs_33 lv_X12_336 k_X12_steps [qR (m + 28), qI (n : Int), qI 0, qI (-1), qR (m + 25)] rfl rfl rput_o ⟨_, _, rfl⟩ (Nat.le_of_ble_eq_true rfl) (by decide) (by decide) (Nat.le_of_ble_eq_true rfl) (c_steps28_0 (n := n) (-1) hm (by omega) (fun k hk => show 0 ≤ qmx n (ps (g 25) n 0 (-1) b i) (g 28) k ∧ qmx n (ps (g 25) n 0 (-1) b i) (g 28) k ≤ 7 by rw [qmx_lt hk]; exact ps_bd hT i k hk)) ?_
    refine z_eq rfl rfl (rput_cg rfl ((congrArg (fun z => gup z 28 (qmx n (stp (g 25) n 0 (-1) (qmx n (ps (g 25) n 0 (-1) b i) (g 28))) (qmx n (ps (g 25) n 0 (-1) b i) (g 28)))) (gup_gup _ _ _)).trans ((gup_comm (by omega)).trans (congrArg (fun z => gup z 29 (qmx n (stp (g 25) n 0 (-1) (qmx n (ps (g 25) n 0 (-1) b i) (g 28))) (qmx (if i = 0 then 0 else n) (ps (g 25) n 0 (-1) b i) (g 29)))) (gup_gup _ _ _))))) ?_
    refine z_eq rfl rfl (rput_cg rfl (gup_cg (F' := (qmx (if (i + 1) = 0 then 0 else n) (ps (g 25) n 0 (-1) b (i + 1)) (g 29))) (gup_cg (F' := (qmx n (ps (g 25) n 0 (-1) b (i + 1)) (g 28))) rfl ((qmx_mx _ _ _ (Nat.le_refl _)).trans (qmx_cg (fun k hk => stp_cg hk (fun _ _ => rfl) (fun j hj => qmx_lt hj) (fun k hk => show 0 ≤ qmx n (ps (g 25) n 0 (-1) b i) (g 28) k ∧ qmx n (ps (g 25) n 0 (-1) b i) (g 28) k ≤ 7 by rw [qmx_lt hk]; exact ps_bd hT i k hk))))) ((qmx_mx _ _ _ (by split <;> omega)).trans (by rw [if_neg (show ¬ i + 1 = 0 by omega)]; exact qmx_cg (fun k hk => stp_cg hk (fun _ _ => rfl) (fun j hj => qmx_lt hj) (fun k hk => show 0 ≤ qmx n (ps (g 25) n 0 (-1) b i) (g 28) k ∧ qmx n (ps (g 25) n 0 (-1) b i) (g 28) k ≤ 7 by rw [qmx_lt hk]; exact ps_bd hT i k hk)))))) ?_
    refine z_aload_n d_X12_runs_36 rfl rfl ?_
    refine z_getf (v := qR (m + 28)) d_X12_runs_37 fl_X12_95 rput_o rfl ?_
    refine z_iload_n d_X12_runs_40 rfl rfl ?_
    refine z_cs (M1 := M_X12_litIn) d_X12_runs_41 ls_X12_302 k_X12_litIn [qR (m + 28), qI (n : Int)] rfl rfl (Nat.le_of_ble_eq_true rfl) (by decide) (by decide) (Nat.le_of_ble_eq_true rfl) (c_litIn n (rput_a2 28 (t := 0) (n := 32) (F := (qmx n (ps (g 25) n 0 (-1) b (i + 1)) (g 28))) rfl rfl rfl (by decide) (by decide)) (by omega) (by decide)) ?_
    refine z_eq rfl (qc (qi (show (cnt (fun k => (qmx n (ps (g 25) n 0 (-1) b (i + 1)) (g 28)) k = 7) n) = (cnt (fun k => (ps (g 25) n 0 (-1) b (i + 1)) k = 7) n) from cnt_congr (fun k hk => by rw [qmx_lt hk]))) rfl) rfl ?_
    refine z_if_le 50 d_X12_runs_44 (by decide) (fun hl => ?_) (fun hl => ?_)
    · refine z_iinc (ls' := [qR m, qI (n : Int), qI b, qI 0, qI (((i : Int) + 1) + 1)]) d_X12_runs_50 rfl (by decide) (by omega) rfl ?_
      refine z_goto 12 d_X12_runs_53 (by decide) ?_
      exact z_eq (qc rfl (qc rfl (qc rfl (qc rfl (qc (qi (by omega)) rfl))))) rfl rfl (kki (q_lts hp (fun z => by unfold litAt at z; omega)))
    · refine z_iload d_X12_runs_47 rfl ?_
      exact z_iret d_X12_runs_49 rfl (qer er (rn_t hii hp (by unfold litAt; omega))) (eh.trans (rn_h hii hp (by unfold litAt; omega)))
  · show qEx M_X12_runs 12 [qR m, qI (n : Int), qI b, qI 0, qI (((3 * n + 20) : Int) + 1)] [] (rput h m f (gup (gup g 28 (qmx n (ps (g 25) n 0 (-1) b (3 * n + 20)) (g 28))) 29 (qmx (if (3 * n + 20) = 0 then 0 else n) (ps (g 25) n 0 (-1) b (3 * n + 20)) (g 29)))) r hr
    refine z_iload d_X12_runs_12 rfl ?_
    refine z_iload_n d_X12_runs_14 rfl rfl ?_
    refine z_cs (M1 := M_X12_longest) d_X12_runs_15 ls_X12_333 k_X12_longest [qI (n : Int)] rfl rfl (Nat.le_of_ble_eq_true rfl) (by decide) (by decide) (Nat.le_of_ble_eq_true rfl) (c_longest (n : Int) (by omega)) ?_
    refine z_icmp_gt 56 d_X12_runs_18 (by decide) (fun hc2 => ?_) (fun hc2 => absurd hc2 (by omega))
    refine z_iconst d_X12_runs_56 (by decide) ?_
    exact z_iret d_X12_runs_57 rfl (qer er (rn_tn hp)) (eh.trans (rn_hn hp))
set_option maxRecDepth 20000 in
set_option maxHeartbeats 4000000 in
theorem c_runs1 {h : qH} {m : Nat} {f : Nat → Int} {g : Nat → Nat → Int} {n : Nat} (b : Int) (hm : 2 ≤ m) (hn : 1 ≤ n ∧ n ≤ 32) (hT : ∀ c, c < 648 → 0 ≤ g 25 c ∧ g 25 c ≤ 7) : qEx M_X12_runs 0 [qR m, qI (n : Int), qI b, qI 1, qU] [] (rput h m f g) (some (qI (rnT (g 25) n 1 b))) (rput h m f (gup (gup g 28 (qmx n (rnE (g 25) n 1 b) (g 28))) 29 (qmx n (rnE (g 25) n 1 b) (g 29)))) := by
  refine q_gen (fun r hr er eh => ?_)
  refine z_aload_n d_X12_runs_0 rfl rfl ?_
  refine z_getf (v := qR (m + 28)) d_X12_runs_1 fl_X12_95 rput_o rfl ?_
  refine z_iload_n d_X12_runs_4 rfl rfl ?_
  refine z_iload_n d_X12_runs_5 rfl rfl ?_
  refine z_cs0 (M1 := M_X12_begins) d_X12_runs_6 ls_X12_329 k_X12_begins [qR (m + 28), qI (n : Int), qI b] rfl rfl (Nat.le_of_ble_eq_true rfl) (by decide) (by decide) (Nat.le_of_ble_eq_true rfl) (c_begins n b (rput_a2 28 (t := 0) (n := 32) (F := (g 28)) rfl rfl rfl (by decide) (by decide)) (by omega) (by omega) (by decide)) ?_
  refine z_eq rfl rfl (rput_sa 28 rfl rfl (by decide) (by decide)) ?_
  refine z_iconst d_X12_runs_9 (by decide) ?_
  refine z_istore (ls' := [qR m, qI (n : Int), qI b, qI 1, qI 1]) d_X12_runs_10 (by decide) rfl ?_
  refine z_eq (qc rfl (qc rfl (qc rfl (qc rfl (qc (qi (rfl)) rfl))))) rfl ((rput_cg rfl (gup_cg (F' := (qmx n (ps (g 25) n 1 (-1) b 0) (g 28))) rfl rfl)).trans (rput_cg rfl (gup_self (by rw [if_pos rfl]; exact (qmx_0 _ _).symm)).symm)) (z_for (3 * n + 20) (fun i => [qR m, qI (n : Int), qI b, qI 1, qI ((i : Int) + 1)]) (fun i => (rput h m f (gup (gup g 28 (qmx n (ps (g 25) n 1 (-1) b i) (g 28))) 29 (qmx (if i = 0 then 0 else n) (ps (g 25) n 1 (-1) b i) (g 29))))) (fun i => ∀ k, k < i → ¬ litAt (g 25) n 1 (-1) b (k + 1)) (fun k hk => absurd hk (by omega)) (fun i hii hp kki => ?_) (fun hp => ?_))
  · show qEx M_X12_runs 12 [qR m, qI (n : Int), qI b, qI 1, qI ((i : Int) + 1)] [] (rput h m f (gup (gup g 28 (qmx n (ps (g 25) n 1 (-1) b i) (g 28))) 29 (qmx (if i = 0 then 0 else n) (ps (g 25) n 1 (-1) b i) (g 29)))) r hr
    refine z_iload d_X12_runs_12 rfl ?_
    refine z_iload_n d_X12_runs_14 rfl rfl ?_
    refine z_cs (M1 := M_X12_longest) d_X12_runs_15 ls_X12_333 k_X12_longest [qI (n : Int)] rfl rfl (Nat.le_of_ble_eq_true rfl) (by decide) (by decide) (Nat.le_of_ble_eq_true rfl) (c_longest (n : Int) (by omega)) ?_
    refine z_icmp_gt 56 d_X12_runs_18 (by decide) (fun hc1 => absurd hc1 (by omega)) (fun hc1 => ?_)
    refine z_aload_n d_X12_runs_21 rfl rfl ?_
    refine z_aload_n d_X12_runs_22 rfl rfl ?_
    refine z_getf (v := qR (m + 28)) d_X12_runs_23 fl_X12_95 rput_o rfl ?_
    refine z_iload_n d_X12_runs_26 rfl rfl ?_
    refine z_iload_n d_X12_runs_27 rfl rfl ?_
    refine z_iconst d_X12_runs_28 (by decide) ?_
    refine z_aload_n d_X12_runs_29 rfl rfl ?_
    refine z_getf (v := qR (m + 25)) d_X12_runs_30 fl_X12_86 rput_o rfl ?_
    refine z_cv0 (M1 := M_X12_steps) d_X12_runs_33 lv_X12_336 k_X12_steps [qR (m + 28), qI (n : Int), qI 1, qI (-1), qR (m + 25)] rfl rfl rput_o ⟨_, _, rfl⟩ (Nat.le_of_ble_eq_true rfl) (by decide) (by decide) (Nat.le_of_ble_eq_true rfl) (c_steps28_1 (n := n) (-1) hm (by omega) (fun k hk => show 0 ≤ qmx n (ps (g 25) n 1 (-1) b i) (g 28) k ∧ qmx n (ps (g 25) n 1 (-1) b i) (g 28) k ≤ 7 by rw [qmx_lt hk]; exact ps_bd hT i k hk)) ?_
    refine z_eq rfl rfl (rput_cg rfl ((congrArg (fun z => gup z 28 (qmx n (stp (g 25) n 1 (-1) (qmx n (ps (g 25) n 1 (-1) b i) (g 28))) (qmx n (ps (g 25) n 1 (-1) b i) (g 28)))) (gup_gup _ _ _)).trans ((gup_comm (by omega)).trans (congrArg (fun z => gup z 29 (qmx n (stp (g 25) n 1 (-1) (qmx n (ps (g 25) n 1 (-1) b i) (g 28))) (qmx (if i = 0 then 0 else n) (ps (g 25) n 1 (-1) b i) (g 29)))) (gup_gup _ _ _))))) ?_
    refine z_eq rfl rfl (rput_cg rfl (gup_cg (F' := (qmx (if (i + 1) = 0 then 0 else n) (ps (g 25) n 1 (-1) b (i + 1)) (g 29))) (gup_cg (F' := (qmx n (ps (g 25) n 1 (-1) b (i + 1)) (g 28))) rfl ((qmx_mx _ _ _ (Nat.le_refl _)).trans (qmx_cg (fun k hk => stp_cg hk (fun _ _ => rfl) (fun j hj => qmx_lt hj) (fun k hk => show 0 ≤ qmx n (ps (g 25) n 1 (-1) b i) (g 28) k ∧ qmx n (ps (g 25) n 1 (-1) b i) (g 28) k ≤ 7 by rw [qmx_lt hk]; exact ps_bd hT i k hk))))) ((qmx_mx _ _ _ (by split <;> omega)).trans (by rw [if_neg (show ¬ i + 1 = 0 by omega)]; exact qmx_cg (fun k hk => stp_cg hk (fun _ _ => rfl) (fun j hj => qmx_lt hj) (fun k hk => show 0 ≤ qmx n (ps (g 25) n 1 (-1) b i) (g 28) k ∧ qmx n (ps (g 25) n 1 (-1) b i) (g 28) k ≤ 7 by rw [qmx_lt hk]; exact ps_bd hT i k hk)))))) ?_
    refine z_aload_n d_X12_runs_36 rfl rfl ?_
    refine z_getf (v := qR (m + 28)) d_X12_runs_37 fl_X12_95 rput_o rfl ?_
    refine z_iload_n d_X12_runs_40 rfl rfl ?_
    refine z_cs (M1 := M_X12_litIn) d_X12_runs_41 ls_X12_302 k_X12_litIn [qR (m + 28), qI (n : Int)] rfl rfl (Nat.le_of_ble_eq_true rfl) (by decide) (by decide) (Nat.le_of_ble_eq_true rfl) (c_litIn n (rput_a2 28 (t := 0) (n := 32) (F := (qmx n (ps (g 25) n 1 (-1) b (i + 1)) (g 28))) rfl rfl rfl (by decide) (by decide)) (by omega) (by decide)) ?_
    refine z_eq rfl (qc (qi (show (cnt (fun k => (qmx n (ps (g 25) n 1 (-1) b (i + 1)) (g 28)) k = 7) n) = (cnt (fun k => (ps (g 25) n 1 (-1) b (i + 1)) k = 7) n) from cnt_congr (fun k hk => by rw [qmx_lt hk]))) rfl) rfl ?_
    refine z_if_le 50 d_X12_runs_44 (by decide) (fun hl => ?_) (fun hl => ?_)
    · refine z_iinc (ls' := [qR m, qI (n : Int), qI b, qI 1, qI (((i : Int) + 1) + 1)]) d_X12_runs_50 rfl (by decide) (by omega) rfl ?_
      refine z_goto 12 d_X12_runs_53 (by decide) ?_
      exact z_eq (qc rfl (qc rfl (qc rfl (qc rfl (qc (qi (by omega)) rfl))))) rfl rfl (kki (q_lts hp (fun z => by unfold litAt at z; omega)))
    · refine z_iload d_X12_runs_47 rfl ?_
      exact z_iret d_X12_runs_49 rfl (qer er (rn_t hii hp (by unfold litAt; omega))) (eh.trans (rn_h hii hp (by unfold litAt; omega)))
  · show qEx M_X12_runs 12 [qR m, qI (n : Int), qI b, qI 1, qI (((3 * n + 20) : Int) + 1)] [] (rput h m f (gup (gup g 28 (qmx n (ps (g 25) n 1 (-1) b (3 * n + 20)) (g 28))) 29 (qmx (if (3 * n + 20) = 0 then 0 else n) (ps (g 25) n 1 (-1) b (3 * n + 20)) (g 29)))) r hr
    refine z_iload d_X12_runs_12 rfl ?_
    refine z_iload_n d_X12_runs_14 rfl rfl ?_
    refine z_cs (M1 := M_X12_longest) d_X12_runs_15 ls_X12_333 k_X12_longest [qI (n : Int)] rfl rfl (Nat.le_of_ble_eq_true rfl) (by decide) (by decide) (Nat.le_of_ble_eq_true rfl) (c_longest (n : Int) (by omega)) ?_
    refine z_icmp_gt 56 d_X12_runs_18 (by decide) (fun hc2 => ?_) (fun hc2 => absurd hc2 (by omega))
    refine z_iconst d_X12_runs_56 (by decide) ?_
    exact z_iret d_X12_runs_57 rfl (qer er (rn_tn hp)) (eh.trans (rn_hn hp))

