/-! ===== CONTRACTS: the reference: fits, laysBook, laysOwn ===== -/
set_option maxRecDepth 20000 in
set_option maxHeartbeats 4000000 in
theorem c_fits {h : qH} {a : Nat} {F : Nat → Int} (i o l r0 : Nat) (e0 : h.2.2 a = qAr 0 384 F) (hi : i < 96) (ho : o < 9) (hl : l < 9) (hr0 : r0 < 9) : qEx M_X12_fits 0 [qR a, qI (i : Int), qI (o : Int), qI (l : Int), qI (r0 : Int)] [] h (some (qI (qb (bkFt F i o l r0)))) h := by
  refine q_gen (fun r hr er eh => ?_)
  refine z_aload_n d_X12_fits_0 rfl rfl ?_
  refine z_iconst d_X12_fits_1 (by decide) ?_
  refine z_iload_n d_X12_fits_2 rfl rfl ?_
  refine z_imul d_X12_fits_3 (by omega) ?_
  refine z_ild (4 * i) d_X12_fits_4 e0 rfl (by omega) ?_
  refine z_iload_n d_X12_fits_5 rfl rfl ?_
  refine z_cs (M1 := M_X12_has) d_X12_fits_6 ls_X12_259 k_X12_has [qI (F (4 * i)), qI (o : Int)] rfl rfl (Nat.le_of_ble_eq_true rfl) (by decide) (by decide) (Nat.le_of_ble_eq_true rfl) (c_has (F (4 * i)) o (by omega)) ?_
  refine z_ifeqB 45 d_X12_fits_9 (by decide) (fun p1 => ?_) (fun p1 => ?_)
  · refine z_iconst d_X12_fits_45 (by decide) ?_
    exact z_zret d_X12_fits_46 rfl (by first | exact qb_01 _ | decide | omega) (qer er (qb_f (fun z => by first | exact p1 z.1 | exact p2 z.2.1 | exact p3 z.2.2))) eh
  · refine z_aload_n d_X12_fits_12 rfl rfl ?_
    refine z_iconst d_X12_fits_13 (by decide) ?_
    refine z_iload_n d_X12_fits_14 rfl rfl ?_
    refine z_imul d_X12_fits_15 (by omega) ?_
    refine z_iconst d_X12_fits_16 (by decide) ?_
    refine z_iadd d_X12_fits_17 (by omega) ?_
    refine z_ild ((4 * i) + 1) d_X12_fits_18 e0 rfl (by omega) ?_
    refine z_iload_n d_X12_fits_19 rfl rfl ?_
    refine z_cs (M1 := M_X12_has) d_X12_fits_20 ls_X12_259 k_X12_has [qI (F ((4 * i) + 1)), qI (l : Int)] rfl rfl (Nat.le_of_ble_eq_true rfl) (by decide) (by decide) (Nat.le_of_ble_eq_true rfl) (c_has (F ((4 * i) + 1)) l (by omega)) ?_
    refine z_ifeqB 45 d_X12_fits_23 (by decide) (fun p2 => ?_) (fun p2 => ?_)
    · refine z_iconst d_X12_fits_45 (by decide) ?_
      exact z_zret d_X12_fits_46 rfl (by first | exact qb_01 _ | decide | omega) (qer er (qb_f (fun z => by first | exact p1 z.1 | exact p2 z.2.1 | exact p3 z.2.2))) eh
    · refine z_aload_n d_X12_fits_26 rfl rfl ?_
      refine z_iconst d_X12_fits_27 (by decide) ?_
      refine z_iload_n d_X12_fits_28 rfl rfl ?_
      refine z_imul d_X12_fits_29 (by omega) ?_
      refine z_iconst d_X12_fits_30 (by decide) ?_
      refine z_iadd d_X12_fits_31 (by omega) ?_
      refine z_ild ((4 * i) + 2) d_X12_fits_32 e0 rfl (by omega) ?_
      refine z_iload d_X12_fits_33 rfl ?_
      refine z_cs (M1 := M_X12_has) d_X12_fits_35 ls_X12_259 k_X12_has [qI (F ((4 * i) + 2)), qI (r0 : Int)] rfl rfl (Nat.le_of_ble_eq_true rfl) (by decide) (by decide) (Nat.le_of_ble_eq_true rfl) (c_has (F ((4 * i) + 2)) r0 (by omega)) ?_
      refine z_ifeqB 45 d_X12_fits_38 (by decide) (fun p3 => ?_) (fun p3 => ?_)
      · refine z_iconst d_X12_fits_45 (by decide) ?_
        exact z_zret d_X12_fits_46 rfl (by first | exact qb_01 _ | decide | omega) (qer er (qb_f (fun z => by first | exact p1 z.1 | exact p2 z.2.1 | exact p3 z.2.2))) eh
      · refine z_iconst d_X12_fits_41 (by decide) ?_
        refine z_goto 46 d_X12_fits_42 (by decide) ?_
        exact z_zret d_X12_fits_46 rfl (by first | exact qb_01 _ | decide | omega) (qer er (qb_t ⟨p1, p2, p3⟩)) eh
set_option maxRecDepth 20000 in
set_option maxHeartbeats 4000000 in
theorem c_laysBook {h : qH} {m : Nat} {f : Nat → Int} {g : Nat → Nat → Int} {a b t : Nat} (pg wo ch sy : Int) (hm : 2 ≤ m) (ha : rT a = 0 ∧ rN a = 384 ∧ 1 ≤ a ∧ a ≤ 37) (hb : rT b = 0 ∧ rN b = 4 ∧ 1 ≤ b ∧ b ≤ 37) (ht : rT t = 0 ∧ rN t = 648 ∧ 1 ≤ t ∧ t ≤ 37) (hat : a ≠ t) (hbt : b ≠ t) (ha2 : a ≠ 26) (hb2 : b ≠ 26) (ht2 : t ≠ 26) : qEx M_X12_laysBook 0 [qR m, qR (m + a), qR (m + b), qI pg, qI wo, qI ch, qI sy, qR (m + t), qU, qU, qU, qU, qU, qU] [] (rput h m f g) none (rput h m f (gup (gup g t (qmx 648 (bkTc (g a) (g b) pg wo ch sy) (g t))) 26 (qmx 648 (bkFc (g a) (g b) pg wo) (g 26)))) := by
  refine q_gen (fun r hr er eh => ?_)
  refine z_iconst d_X12_laysBook_0 (by decide) ?_
  refine z_istore (ls' := [qR m, qR (m + a), qR (m + b), qI pg, qI wo, qI ch, qI sy, qR (m + t), qI 0, qU, qU, qU, qU, qU]) d_X12_laysBook_1 (by decide) rfl ?_
  refine z_eq (qc rfl (qc rfl (qc rfl (qc rfl (qc rfl (qc rfl (qc rfl (qc rfl (qc (qi (by omega)) (qc rfl (qc rfl (qc rfl (qc rfl (qc rfl rfl)))))))))))))) rfl (rput_cg rfl ((gup_self (qmx_0 _ _).symm).symm.trans (gup_self ((gup_ne (by omega)).trans (qmx_0 _ _).symm)).symm)) (z_for 8 (fun o => [qR m, qR (m + a), qR (m + b), qI pg, qI wo, qI ch, qI sy, qR (m + t), qI (o : Int), qU, qU, qU, qU, qU]) (fun o => (rput h m f (gup (gup g t (qmx (81 * o) (bkTc (g a) (g b) pg wo ch sy) (g t))) 26 (qmx (81 * o) (bkFc (g a) (g b) pg wo) (g 26))))) (fun o => True) trivial (fun o hio hp kko => ?_) (fun hp => ?_))
  · show qEx M_X12_laysBook 3 [qR m, qR (m + a), qR (m + b), qI pg, qI wo, qI ch, qI sy, qR (m + t), qI (o : Int), qU, qU, qU, qU, qU] [] (rput h m f (gup (gup g t (qmx (81 * o) (bkTc (g a) (g b) pg wo ch sy) (g t))) 26 (qmx (81 * o) (bkFc (g a) (g b) pg wo) (g 26)))) r hr
    refine z_iload d_X12_laysBook_3 rfl ?_
    refine z_bipush d_X12_laysBook_5 (by decide) ?_
    refine z_icmp_ge 212 d_X12_laysBook_7 (by decide) (fun hc1 => absurd hc1 (by omega)) (fun hc1 => ?_)
    refine z_iconst d_X12_laysBook_10 (by decide) ?_
    refine z_istore (ls' := [qR m, qR (m + a), qR (m + b), qI pg, qI wo, qI ch, qI sy, qR (m + t), qI (o : Int), qI 0, qU, qU, qU, qU]) d_X12_laysBook_11 (by decide) rfl ?_
    refine z_eq (qc rfl (qc rfl (qc rfl (qc rfl (qc rfl (qc rfl (qc rfl (qc rfl (qc rfl (qc (qi (by omega)) (qc rfl (qc rfl (qc rfl (qc rfl rfl)))))))))))))) rfl (rput_cg rfl (gup_cg (F' := (qmx (81 * o + 9 * 0) (bkFc (g a) (g b) pg wo) (g 26))) (gup_cg (F' := (qmx (81 * o + 9 * 0) (bkTc (g a) (g b) pg wo ch sy) (g t))) rfl rfl) rfl)) (z_for 9 (fun l => [qR m, qR (m + a), qR (m + b), qI pg, qI wo, qI ch, qI sy, qR (m + t), qI (o : Int), qI (l : Int), qU, qU, qU, qU]) (fun l => (rput h m f (gup (gup g t (qmx (81 * o + 9 * l) (bkTc (g a) (g b) pg wo ch sy) (g t))) 26 (qmx (81 * o + 9 * l) (bkFc (g a) (g b) pg wo) (g 26))))) (fun l => True) trivial (fun l hil hp kkl => ?_) (fun hp => ?_))
    · show qEx M_X12_laysBook 13 [qR m, qR (m + a), qR (m + b), qI pg, qI wo, qI ch, qI sy, qR (m + t), qI (o : Int), qI (l : Int), qU, qU, qU, qU] [] (rput h m f (gup (gup g t (qmx (81 * o + 9 * l) (bkTc (g a) (g b) pg wo ch sy) (g t))) 26 (qmx (81 * o + 9 * l) (bkFc (g a) (g b) pg wo) (g 26)))) r hr
      refine z_iload d_X12_laysBook_13 rfl ?_
      refine z_bipush d_X12_laysBook_15 (by decide) ?_
      refine z_icmp_ge 206 d_X12_laysBook_17 (by decide) (fun hc2 => absurd hc2 (by omega)) (fun hc2 => ?_)
      refine z_iconst d_X12_laysBook_20 (by decide) ?_
      refine z_istore (ls' := [qR m, qR (m + a), qR (m + b), qI pg, qI wo, qI ch, qI sy, qR (m + t), qI (o : Int), qI (l : Int), qI 0, qU, qU, qU]) d_X12_laysBook_21 (by decide) rfl ?_
      refine z_eq (qc rfl (qc rfl (qc rfl (qc rfl (qc rfl (qc rfl (qc rfl (qc rfl (qc rfl (qc rfl (qc (qi (by omega)) (qc rfl (qc rfl (qc rfl rfl)))))))))))))) rfl (rput_cg rfl (gup_cg (F' := (qmx (81 * o + 9 * l + 0) (bkFc (g a) (g b) pg wo) (g 26))) (gup_cg (F' := (qmx (81 * o + 9 * l + 0) (bkTc (g a) (g b) pg wo ch sy) (g t))) rfl rfl) rfl)) (z_for 9 (fun r0 => [qR m, qR (m + a), qR (m + b), qI pg, qI wo, qI ch, qI sy, qR (m + t), qI (o : Int), qI (l : Int), qI (r0 : Int), qU, qU, qU]) (fun r0 => (rput h m f (gup (gup g t (qmx (81 * o + 9 * l + r0) (bkTc (g a) (g b) pg wo ch sy) (g t))) 26 (qmx (81 * o + 9 * l + r0) (bkFc (g a) (g b) pg wo) (g 26))))) (fun r0 => True) trivial (fun r0 hir0 hp kkr0 => ?_) (fun hp => ?_))
      · show qEx M_X12_laysBook 23 [qR m, qR (m + a), qR (m + b), qI pg, qI wo, qI ch, qI sy, qR (m + t), qI (o : Int), qI (l : Int), qI (r0 : Int), qU, qU, qU] [] (rput h m f (gup (gup g t (qmx (81 * o + 9 * l + r0) (bkTc (g a) (g b) pg wo ch sy) (g t))) 26 (qmx (81 * o + 9 * l + r0) (bkFc (g a) (g b) pg wo) (g 26)))) r hr
        refine z_iload d_X12_laysBook_23 rfl ?_
        refine z_bipush d_X12_laysBook_25 (by decide) ?_
        refine z_icmp_ge 200 d_X12_laysBook_27 (by decide) (fun hc3 => absurd hc3 (by omega)) (fun hc3 => ?_)
        refine z_iload d_X12_laysBook_30 rfl ?_
        refine z_iload d_X12_laysBook_32 rfl ?_
        refine z_iload d_X12_laysBook_34 rfl ?_
        refine z_cs (M1 := M_X12_caseOf) d_X12_laysBook_36 ls_X12_263 k_X12_caseOf [qI (o : Int), qI (l : Int), qI (r0 : Int)] rfl rfl (Nat.le_of_ble_eq_true rfl) (by decide) (by decide) (Nat.le_of_ble_eq_true rfl) (c_caseOf2 (o : Int) (l : Int) (r0 : Int) (by omega) (by omega) (by omega)) ?_
        refine z_istore (ls' := [qR m, qR (m + a), qR (m + b), qI pg, qI wo, qI ch, qI sy, qR (m + t), qI (o : Int), qI (l : Int), qI (r0 : Int), qI (81 * (o : Int) + 9 * (l : Int) + (r0 : Int)), qU, qU]) d_X12_laysBook_39 (by decide) rfl ?_
        refine z_iconst d_X12_laysBook_41 (by decide) ?_
        refine z_istore (ls' := [qR m, qR (m + a), qR (m + b), qI pg, qI wo, qI ch, qI sy, qR (m + t), qI (o : Int), qI (l : Int), qI (r0 : Int), qI (81 * (o : Int) + 9 * (l : Int) + (r0 : Int)), qI (-1), qU]) d_X12_laysBook_42 (by decide) rfl ?_
        refine z_iconst d_X12_laysBook_44 (by decide) ?_
        refine z_istore (ls' := [qR m, qR (m + a), qR (m + b), qI pg, qI wo, qI ch, qI sy, qR (m + t), qI (o : Int), qI (l : Int), qI (r0 : Int), qI (81 * (o : Int) + 9 * (l : Int) + (r0 : Int)), qI (-1), qI 0]) d_X12_laysBook_45 (by decide) rfl ?_
        have hbk := bkF_bd (g a) (g b) pg wo o l r0
        suffices KL : qEx M_X12_laysBook 133 [qR m, qR (m + a), qR (m + b), qI pg, qI wo, qI ch, qI sy, qR (m + t), qI (o : Int), qI (l : Int), qI (r0 : Int), qI (81 * (o : Int) + 9 * (l : Int) + (r0 : Int)), qI (bkF (g a) (g b) pg wo o l r0), qU] [] (rput h m f (gup (gup g t (qmx (81 * o + 9 * l + r0) (bkTc (g a) (g b) pg wo ch sy) (g t))) 26 (qmx (81 * o + 9 * l + r0) (bkFc (g a) (g b) pg wo) (g 26)))) r hr by
          by_cases ho7 : o = 7
          · refine z_iload d_X12_laysBook_47 rfl ?_
            refine z_bipush d_X12_laysBook_49 (by decide) ?_
            refine z_icmp_ge 133 d_X12_laysBook_51 (by decide) (fun hc4 => absurd hc4 (by decide)) (fun hc4 => ?_)
            refine z_iload d_X12_laysBook_54 rfl ?_
            refine z_iconst d_X12_laysBook_56 (by decide) ?_
            refine z_icmp_ne 133 d_X12_laysBook_57 (by decide) (fun hc5 => absurd hc5 (by decide)) (fun hc5 => ?_)
            refine z_iload d_X12_laysBook_60 rfl ?_
            refine z_bipush d_X12_laysBook_62 (by decide) ?_
            refine z_icmp_eq 133 d_X12_laysBook_64 (by decide) (fun hc6 => ?_) (fun hc6 => absurd hc6 (by omega))
            exact z_dr (qle_k rfl (qle_k rfl (qle_k rfl (qle_k rfl (qle_k rfl (qle_k rfl (qle_k rfl (qle_k rfl (qle_k rfl (qle_k rfl (qle_k rfl (qle_k rfl (qle_k (qi (show (-1 : Int) = _ from (qif_t ho7).symm)) (qle_d qle_n)))))))))))))) rfl rfl KL
          · refine z_eq (qc rfl (qc rfl (qc rfl (qc rfl (qc rfl (qc rfl (qc rfl (qc rfl (qc rfl (qc rfl (qc rfl (qc rfl (qc rfl (qc (qi (by omega)) rfl)))))))))))))) rfl rfl (z_for 96 (fun i => [qR m, qR (m + a), qR (m + b), qI pg, qI wo, qI ch, qI sy, qR (m + t), qI (o : Int), qI (l : Int), qI (r0 : Int), qI (81 * (o : Int) + 9 * (l : Int) + (r0 : Int)), qI (-1), qI (i : Int)]) (fun i => (rput h m f (gup (gup g t (qmx (81 * o + 9 * l + r0) (bkTc (g a) (g b) pg wo ch sy) (g t))) 26 (qmx (81 * o + 9 * l + r0) (bkFc (g a) (g b) pg wo) (g 26))))) (fun i => ∀ k, k < i → ¬ (bkP (g a) (g b) pg wo o l r0) k) (fun k hk => absurd hk (by omega)) (fun i hii hp kki => ?_) (fun hp => ?_))
            · show qEx M_X12_laysBook 47 [qR m, qR (m + a), qR (m + b), qI pg, qI wo, qI ch, qI sy, qR (m + t), qI (o : Int), qI (l : Int), qI (r0 : Int), qI (81 * (o : Int) + 9 * (l : Int) + (r0 : Int)), qI (-1), qI (i : Int)] [] (rput h m f (gup (gup g t (qmx (81 * o + 9 * l + r0) (bkTc (g a) (g b) pg wo ch sy) (g t))) 26 (qmx (81 * o + 9 * l + r0) (bkFc (g a) (g b) pg wo) (g 26)))) r hr
              refine z_iload d_X12_laysBook_47 rfl ?_
              refine z_bipush d_X12_laysBook_49 (by decide) ?_
              refine z_icmp_ge 133 d_X12_laysBook_51 (by decide) (fun hc7 => absurd hc7 (by omega)) (fun hc7 => ?_)
              refine z_iload d_X12_laysBook_54 rfl ?_
              refine z_iconst d_X12_laysBook_56 (by decide) ?_
              refine z_icmp_ne 133 d_X12_laysBook_57 (by decide) (fun hc8 => absurd hc8 (by decide)) (fun hc8 => ?_)
              refine z_iload d_X12_laysBook_60 rfl ?_
              refine z_bipush d_X12_laysBook_62 (by decide) ?_
              refine z_icmp_eq 133 d_X12_laysBook_64 (by decide) (fun hc9 => absurd hc9 (by omega)) (fun hc9 => ?_)
              refine z_iload_n d_X12_laysBook_67 rfl rfl ?_
              refine z_iload d_X12_laysBook_68 rfl ?_
              refine z_bipush d_X12_laysBook_70 (by decide) ?_
              refine z_idiv d_X12_laysBook_72 (by omega) ?_
              refine z_eq rfl (qc (qi (by rw [Int.tdiv_eq_ediv_of_nonneg (by omega)] <;> omega)) rfl) rfl ?_
              refine z_cs (M1 := M_X12_has) d_X12_laysBook_73 ls_X12_259 k_X12_has [qI pg, qI (((i / 24) : Nat) : Int)] rfl rfl (Nat.le_of_ble_eq_true rfl) (by decide) (by decide) (Nat.le_of_ble_eq_true rfl) (c_has pg (i / 24) (by omega)) ?_
              refine z_ifeqB 127 d_X12_laysBook_76 (by decide) (fun q1 => ?_) (fun q1 => ?_)
              · refine z_iinc (ls' := [qR m, qR (m + a), qR (m + b), qI pg, qI wo, qI ch, qI sy, qR (m + t), qI (o : Int), qI (l : Int), qI (r0 : Int), qI (81 * (o : Int) + 9 * (l : Int) + (r0 : Int)), qI (-1), qI ((i : Int) + 1)]) d_X12_laysBook_127 rfl (by decide) (by omega) rfl ?_
                refine z_goto 47 d_X12_laysBook_130 (by decide) ?_
                exact z_eq (qc rfl (qc rfl (qc rfl (qc rfl (qc rfl (qc rfl (qc rfl (qc rfl (qc rfl (qc rfl (qc rfl (qc rfl (qc rfl (qc (qi (by omega)) rfl)))))))))))))) rfl rfl (kki (q_lts hp (fun z => by first | exact q1 z.1.1 | (have z2 := z.1.2.1; omega) | exact q3 z.1.2.2 | exact q4 z.2)))
              · refine z_iload d_X12_laysBook_79 rfl ?_
                refine z_bipush d_X12_laysBook_81 (by decide) ?_
                refine z_irem d_X12_laysBook_83 (by omega) ?_
                refine z_eq rfl (qc (qi (by rw [Int.tmod_eq_emod_of_nonneg (by omega)] <;> omega)) rfl) rfl ?_
                refine z_aload_n d_X12_laysBook_84 rfl rfl ?_
                refine z_iload d_X12_laysBook_85 rfl ?_
                refine z_bipush d_X12_laysBook_87 (by decide) ?_
                refine z_idiv d_X12_laysBook_89 (by omega) ?_
                refine z_eq rfl (qc (qi (by rw [Int.tdiv_eq_ediv_of_nonneg (by omega)] <;> omega)) rfl) rfl ?_
                refine z_ild (i / 24) d_X12_laysBook_90 (rput_a2 b (t := 0) (n := 4) (F := (g b)) hb.1 hb.2.1 ((gup_ne (by omega)).trans (gup_ne (by omega))) hb.2.2.1 hb.2.2.2) rfl (by omega) ?_
                refine z_icmp_ge 127 d_X12_laysBook_91 (by decide) (fun q2 => ?_) (fun q2 => ?_)
                · refine z_iinc (ls' := [qR m, qR (m + a), qR (m + b), qI pg, qI wo, qI ch, qI sy, qR (m + t), qI (o : Int), qI (l : Int), qI (r0 : Int), qI (81 * (o : Int) + 9 * (l : Int) + (r0 : Int)), qI (-1), qI ((i : Int) + 1)]) d_X12_laysBook_127 rfl (by decide) (by omega) rfl ?_
                  refine z_goto 47 d_X12_laysBook_130 (by decide) ?_
                  exact z_eq (qc rfl (qc rfl (qc rfl (qc rfl (qc rfl (qc rfl (qc rfl (qc rfl (qc rfl (qc rfl (qc rfl (qc rfl (qc rfl (qc (qi (by omega)) rfl)))))))))))))) rfl rfl (kki (q_lts hp (fun z => by first | exact q1 z.1.1 | (have z2 := z.1.2.1; omega) | exact q3 z.1.2.2 | exact q4 z.2)))
                · refine z_iload d_X12_laysBook_94 rfl ?_
                  refine z_iload d_X12_laysBook_96 rfl ?_
                  refine z_icmp_ne 104 d_X12_laysBook_98 (by decide) (fun q3 => ?_) (fun q3 => ?_)
                  · refine z_aload_n d_X12_laysBook_104 rfl rfl ?_
                    refine z_iload d_X12_laysBook_105 rfl ?_
                    refine z_iload d_X12_laysBook_107 rfl ?_
                    refine z_iload d_X12_laysBook_109 rfl ?_
                    refine z_iload d_X12_laysBook_111 rfl ?_
                    refine z_cs (M1 := M_X12_fits) d_X12_laysBook_113 ls_X12_267 k_X12_fits [qR (m + a), qI (i : Int), qI (o : Int), qI (l : Int), qI (r0 : Int)] rfl rfl (Nat.le_of_ble_eq_true rfl) (by decide) (by decide) (Nat.le_of_ble_eq_true rfl) (c_fits i o l r0 (rput_a2 a (t := 0) (n := 384) (F := (g a)) ha.1 ha.2.1 ((gup_ne (by omega)).trans (gup_ne (by omega))) ha.2.2.1 ha.2.2.2) (by omega) (by omega) (by omega) (by omega)) ?_
                    refine z_ifeqB 124 d_X12_laysBook_116 (by decide) (fun q4 => ?_) (fun q4 => ?_)
                    · refine z_iconst d_X12_laysBook_124 (by decide) ?_
                      refine z_istore (ls' := [qR m, qR (m + a), qR (m + b), qI pg, qI wo, qI ch, qI sy, qR (m + t), qI (o : Int), qI (l : Int), qI (r0 : Int), qI (81 * (o : Int) + 9 * (l : Int) + (r0 : Int)), qI (-1), qI (i : Int)]) d_X12_laysBook_125 (by decide) rfl ?_
                      refine z_iinc (ls' := [qR m, qR (m + a), qR (m + b), qI pg, qI wo, qI ch, qI sy, qR (m + t), qI (o : Int), qI (l : Int), qI (r0 : Int), qI (81 * (o : Int) + 9 * (l : Int) + (r0 : Int)), qI (-1), qI ((i : Int) + 1)]) d_X12_laysBook_127 rfl (by decide) (by omega) rfl ?_
                      refine z_goto 47 d_X12_laysBook_130 (by decide) ?_
                      exact z_eq (qc rfl (qc rfl (qc rfl (qc rfl (qc rfl (qc rfl (qc rfl (qc rfl (qc rfl (qc rfl (qc rfl (qc rfl (qc rfl (qc (qi (by omega)) rfl)))))))))))))) rfl rfl (kki (q_lts hp (fun z => by first | exact q1 z.1.1 | (have z2 := z.1.2.1; omega) | exact q3 z.1.2.2 | exact q4 z.2)))
                    · refine z_iload d_X12_laysBook_119 rfl ?_
                      refine z_goto 125 d_X12_laysBook_121 (by decide) ?_
                      refine z_istore (ls' := [qR m, qR (m + a), qR (m + b), qI pg, qI wo, qI ch, qI sy, qR (m + t), qI (o : Int), qI (l : Int), qI (r0 : Int), qI (81 * (o : Int) + 9 * (l : Int) + (r0 : Int)), qI (i : Int), qI (i : Int)]) d_X12_laysBook_125 (by decide) rfl ?_
                      refine z_iinc (ls' := [qR m, qR (m + a), qR (m + b), qI pg, qI wo, qI ch, qI sy, qR (m + t), qI (o : Int), qI (l : Int), qI (r0 : Int), qI (81 * (o : Int) + 9 * (l : Int) + (r0 : Int)), qI (i : Int), qI ((i : Int) + 1)]) d_X12_laysBook_127 rfl (by decide) (by omega) rfl ?_
                      refine z_goto 47 d_X12_laysBook_130 (by decide) ?_
                      refine z_iload d_X12_laysBook_47 rfl ?_
                      refine z_bipush d_X12_laysBook_49 (by decide) ?_
                      refine z_icmp_ge 133 d_X12_laysBook_51 (by decide) (fun hc10 => ?_) (fun hc10 => ?_)
                      · exact z_dr (qle_k rfl (qle_k rfl (qle_k rfl (qle_k rfl (qle_k rfl (qle_k rfl (qle_k rfl (qle_k rfl (qle_k rfl (qle_k rfl (qle_k rfl (qle_k rfl (qle_k (qi (show ((i : Nat) : Int) = _ from ((qif_f ho7).trans (fst_at hii hp ⟨⟨q1, by omega, q3⟩, q4⟩)).symm)) (qle_d qle_n)))))))))))))) rfl rfl KL
                      · refine z_iload d_X12_laysBook_54 rfl ?_
                        refine z_iconst d_X12_laysBook_56 (by decide) ?_
                        refine z_icmp_ne 133 d_X12_laysBook_57 (by decide) (fun hc11 => ?_) (fun hc11 => absurd hc11 (by omega))
                        exact z_dr (qle_k rfl (qle_k rfl (qle_k rfl (qle_k rfl (qle_k rfl (qle_k rfl (qle_k rfl (qle_k rfl (qle_k rfl (qle_k rfl (qle_k rfl (qle_k rfl (qle_k (qi (show ((i : Nat) : Int) = _ from ((qif_f ho7).trans (fst_at hii hp ⟨⟨q1, by omega, q3⟩, q4⟩)).symm)) (qle_d qle_n)))))))))))))) rfl rfl KL
                  · refine z_goto 127 d_X12_laysBook_101 (by decide) ?_
                    refine z_iinc (ls' := [qR m, qR (m + a), qR (m + b), qI pg, qI wo, qI ch, qI sy, qR (m + t), qI (o : Int), qI (l : Int), qI (r0 : Int), qI (81 * (o : Int) + 9 * (l : Int) + (r0 : Int)), qI (-1), qI ((i : Int) + 1)]) d_X12_laysBook_127 rfl (by decide) (by omega) rfl ?_
                    refine z_goto 47 d_X12_laysBook_130 (by decide) ?_
                    exact z_eq (qc rfl (qc rfl (qc rfl (qc rfl (qc rfl (qc rfl (qc rfl (qc rfl (qc rfl (qc rfl (qc rfl (qc rfl (qc rfl (qc (qi (by omega)) rfl)))))))))))))) rfl rfl (kki (q_lts hp (fun z => by first | exact q1 z.1.1 | (have z2 := z.1.2.1; omega) | exact q3 z.1.2.2 | exact q4 z.2)))
            · show qEx M_X12_laysBook 47 [qR m, qR (m + a), qR (m + b), qI pg, qI wo, qI ch, qI sy, qR (m + t), qI (o : Int), qI (l : Int), qI (r0 : Int), qI (81 * (o : Int) + 9 * (l : Int) + (r0 : Int)), qI (-1), qI (96 : Int)] [] (rput h m f (gup (gup g t (qmx (81 * o + 9 * l + r0) (bkTc (g a) (g b) pg wo ch sy) (g t))) 26 (qmx (81 * o + 9 * l + r0) (bkFc (g a) (g b) pg wo) (g 26)))) r hr
              refine z_iload d_X12_laysBook_47 rfl ?_
              refine z_bipush d_X12_laysBook_49 (by decide) ?_
              refine z_icmp_ge 133 d_X12_laysBook_51 (by decide) (fun hc12 => ?_) (fun hc12 => absurd hc12 (by omega))
              exact z_dr (qle_k rfl (qle_k rfl (qle_k rfl (qle_k rfl (qle_k rfl (qle_k rfl (qle_k rfl (qle_k rfl (qle_k rfl (qle_k rfl (qle_k rfl (qle_k rfl (qle_k (qi (show (-1 : Int) = _ from ((qif_f ho7).trans (fst_none hp)).symm)) (qle_d qle_n)))))))))))))) rfl rfl KL
        refine z_iload d_X12_laysBook_133 rfl ?_
        refine z_iconst d_X12_laysBook_135 (by decide) ?_
        suffices kJ136 : qEx M_X12_laysBook 164 [qR m, qR (m + a), qR (m + b), qI pg, qI wo, qI ch, qI sy, qR (m + t), qI (o : Int), qI (l : Int), qI (r0 : Int), qI (81 * (o : Int) + 9 * (l : Int) + (r0 : Int)), qI (bkF (g a) (g b) pg wo o l r0), qU] [qI (qif ((bkF (g a) (g b) pg wo o l r0) ≠ (-1)) (qif ((bkF (g a) (g b) pg wo o l r0) ≠ ch) ((g a) (4 * (bkF (g a) (g b) pg wo o l r0).toNat + 3)) sy) 8)] (rput h m f (gup (gup g t (qmx (81 * o + 9 * l + r0) (bkTc (g a) (g b) pg wo ch sy) (g t))) 26 (qmx (81 * o + 9 * l + r0) (bkFc (g a) (g b) pg wo) (g 26)))) r hr by
          refine z_icmp_ne 144 d_X12_laysBook_136 (by decide) (fun hc13 => ?_) (fun hc13 => ?_)
          · refine z_iload d_X12_laysBook_144 rfl ?_
            refine z_iload d_X12_laysBook_146 rfl ?_
            suffices kJ148 : qEx M_X12_laysBook 164 [qR m, qR (m + a), qR (m + b), qI pg, qI wo, qI ch, qI sy, qR (m + t), qI (o : Int), qI (l : Int), qI (r0 : Int), qI (81 * (o : Int) + 9 * (l : Int) + (r0 : Int)), qI (bkF (g a) (g b) pg wo o l r0), qU] [qI (qif ((bkF (g a) (g b) pg wo o l r0) ≠ ch) ((g a) (4 * (bkF (g a) (g b) pg wo o l r0).toNat + 3)) sy)] (rput h m f (gup (gup g t (qmx (81 * o + 9 * l + r0) (bkTc (g a) (g b) pg wo ch sy) (g t))) 26 (qmx (81 * o + 9 * l + r0) (bkFc (g a) (g b) pg wo) (g 26)))) r hr by
              refine z_icmp_ne 156 d_X12_laysBook_148 (by decide) (fun hc14 => ?_) (fun hc14 => ?_)
              · refine z_aload_n d_X12_laysBook_156 rfl rfl ?_
                refine z_iconst d_X12_laysBook_157 (by decide) ?_
                refine z_iload d_X12_laysBook_158 rfl ?_
                refine z_imul d_X12_laysBook_160 (by omega) ?_
                refine z_iconst d_X12_laysBook_161 (by decide) ?_
                refine z_iadd d_X12_laysBook_162 (by omega) ?_
                refine z_ild (4 * (bkF (g a) (g b) pg wo o l r0).toNat + 3) d_X12_laysBook_163 (rput_a2 a (t := 0) (n := 384) (F := (g a)) ha.1 ha.2.1 ((gup_ne (by omega)).trans (gup_ne (by omega))) ha.2.2.1 ha.2.2.2) (by omega) (by omega) ?_
                exact z_eq rfl (qc (qi (qif_t hc14).symm) rfl) rfl kJ148
              · refine z_iload d_X12_laysBook_151 rfl ?_
                refine z_goto 164 d_X12_laysBook_153 (by decide) ?_
                exact z_eq rfl (qc (qi (qif_f hc14).symm) rfl) rfl kJ148
            exact z_eq rfl (qc (qi (qif_t hc13).symm) rfl) rfl kJ136
          · refine z_bipush d_X12_laysBook_139 (by decide) ?_
            refine z_goto 164 d_X12_laysBook_141 (by decide) ?_
            exact z_eq rfl (qc (qi (qif_f hc13).symm) rfl) rfl kJ136
        refine z_istore (ls' := [qR m, qR (m + a), qR (m + b), qI pg, qI wo, qI ch, qI sy, qR (m + t), qI (o : Int), qI (l : Int), qI (r0 : Int), qI (81 * (o : Int) + 9 * (l : Int) + (r0 : Int)), qI (bkF (g a) (g b) pg wo o l r0), qI (qif ((bkF (g a) (g b) pg wo o l r0) ≠ (-1)) (qif ((bkF (g a) (g b) pg wo o l r0) ≠ ch) ((g a) (4 * (bkF (g a) (g b) pg wo o l r0).toNat + 3)) sy) 8)]) d_X12_laysBook_164 (by decide) rfl ?_
        refine z_aload d_X12_laysBook_166 rfl ?_
        refine z_iload d_X12_laysBook_168 rfl ?_
        refine z_iload d_X12_laysBook_170 rfl ?_
        refine z_bipush d_X12_laysBook_172 (by decide) ?_
        suffices kJ174 : qEx M_X12_laysBook 184 [qR m, qR (m + a), qR (m + b), qI pg, qI wo, qI ch, qI sy, qR (m + t), qI (o : Int), qI (l : Int), qI (r0 : Int), qI (81 * (o : Int) + 9 * (l : Int) + (r0 : Int)), qI (bkF (g a) (g b) pg wo o l r0), qI (qif ((bkF (g a) (g b) pg wo o l r0) ≠ (-1)) (qif ((bkF (g a) (g b) pg wo o l r0) ≠ ch) ((g a) (4 * (bkF (g a) (g b) pg wo o l r0).toNat + 3)) sy) 8)] [qI (qif ((qif ((bkF (g a) (g b) pg wo o l r0) ≠ (-1)) (qif ((bkF (g a) (g b) pg wo o l r0) ≠ ch) ((g a) (4 * (bkF (g a) (g b) pg wo o l r0).toNat + 3)) sy) 8) ≠ 8) (qif ((bkF (g a) (g b) pg wo o l r0) ≠ (-1)) (qif ((bkF (g a) (g b) pg wo o l r0) ≠ ch) ((g a) (4 * (bkF (g a) (g b) pg wo o l r0).toNat + 3)) sy) 8) (o : Int)), qI (81 * (o : Int) + 9 * (l : Int) + (r0 : Int)), qR (m + t)] (rput h m f (gup (gup g t (qmx (81 * o + 9 * l + r0) (bkTc (g a) (g b) pg wo ch sy) (g t))) 26 (qmx (81 * o + 9 * l + r0) (bkFc (g a) (g b) pg wo) (g 26)))) r hr by
          refine z_icmp_ne 182 d_X12_laysBook_174 (by decide) (fun hc15 => ?_) (fun hc15 => ?_)
          · refine z_iload d_X12_laysBook_182 rfl ?_
            exact z_eq rfl (qc (qi (qif_t hc15).symm) (qc rfl (qc rfl rfl))) rfl kJ174
          · refine z_iload d_X12_laysBook_177 rfl ?_
            refine z_goto 184 d_X12_laysBook_179 (by decide) ?_
            exact z_eq rfl (qc (qi (qif_f hc15).symm) (qc rfl (qc rfl rfl))) rfl kJ174
        refine z_ist (81 * o + 9 * l + r0) d_X12_laysBook_184 (rput_a2 t (t := 0) (n := 648) (F := (qmx (81 * o + 9 * l + r0) (bkTc (g a) (g b) pg wo ch sy) (g t))) ht.1 ht.2.1 ((gup_ne (by omega)).trans (gup_eq _ _)) ht.2.2.1 ht.2.2.2) (by omega) rfl (by omega) ?_
        refine z_eq rfl rfl ((rput_sa t ht.1 ht.2.1 ht.2.2.1 ht.2.2.2).trans (rput_cg rfl ((gup_comm (by omega)).trans (congrArg (fun z => gup z 26 (qmx (81 * o + 9 * l + r0) (bkFc (g a) (g b) pg wo) (g 26))) (gup_gup _ _ _))))) ?_
        refine z_aload_n d_X12_laysBook_185 rfl rfl ?_
        refine z_getf (v := qR (m + 26)) d_X12_laysBook_186 fl_X12_89 rput_o rfl ?_
        refine z_iload d_X12_laysBook_189 rfl ?_
        refine z_iload d_X12_laysBook_191 rfl ?_
        refine z_ist (81 * o + 9 * l + r0) d_X12_laysBook_193 (rput_a2 26 (t := 0) (n := 648) (F := (qmx (81 * o + 9 * l + r0) (bkFc (g a) (g b) pg wo) (g 26))) rfl rfl (gup_eq _ _) (by decide) (by decide)) (by omega) rfl (by omega) ?_
        refine z_eq rfl rfl ((rput_sa 26 rfl rfl (by decide) (by decide)).trans (rput_cg rfl (gup_gup _ _ _))) ?_
        refine z_iinc (ls' := [qR m, qR (m + a), qR (m + b), qI pg, qI wo, qI ch, qI sy, qR (m + t), qI (o : Int), qI (l : Int), qI ((r0 : Int) + 1), qI (81 * (o : Int) + 9 * (l : Int) + (r0 : Int)), qI (bkF (g a) (g b) pg wo o l r0), qI (qif ((bkF (g a) (g b) pg wo o l r0) ≠ (-1)) (qif ((bkF (g a) (g b) pg wo o l r0) ≠ ch) ((g a) (4 * (bkF (g a) (g b) pg wo o l r0).toNat + 3)) sy) 8)]) d_X12_laysBook_194 rfl (by decide) (by omega) rfl ?_
        refine z_goto 23 d_X12_laysBook_197 (by decide) ?_
        exact z_dr (qle_k rfl (qle_k rfl (qle_k rfl (qle_k rfl (qle_k rfl (qle_k rfl (qle_k rfl (qle_k rfl (qle_k rfl (qle_k rfl (qle_k (qi (by omega)) (qle_d (qle_d (qle_d qle_n)))))))))))))) rfl (rput_cg rfl (gup_cg (F' := (qmx (81 * o + 9 * l + (r0 + 1)) (bkFc (g a) (g b) pg wo) (g 26))) (gup_cg (F' := (qmx (81 * o + 9 * l + (r0 + 1)) (bkTc (g a) (g b) pg wo ch sy) (g t))) rfl (by have e9 := qmx_s (81 * o + 9 * l + r0) (bkTc (g a) (g b) pg wo ch sy) (g t); rw [bkTc_at _ _ _ _ _ _ hil hir0] at e9; exact e9)) (by have e9 := qmx_s (81 * o + 9 * l + r0) (bkFc (g a) (g b) pg wo) (g 26); rw [bkFc_at _ _ _ _ hil hir0] at e9; exact e9))) (kkr0 trivial)
      · show qEx M_X12_laysBook 23 [qR m, qR (m + a), qR (m + b), qI pg, qI wo, qI ch, qI sy, qR (m + t), qI (o : Int), qI (l : Int), qI (9 : Int), qU, qU, qU] [] (rput h m f (gup (gup g t (qmx (81 * o + 9 * l + 9) (bkTc (g a) (g b) pg wo ch sy) (g t))) 26 (qmx (81 * o + 9 * l + 9) (bkFc (g a) (g b) pg wo) (g 26)))) r hr
        refine z_iload d_X12_laysBook_23 rfl ?_
        refine z_bipush d_X12_laysBook_25 (by decide) ?_
        refine z_icmp_ge 200 d_X12_laysBook_27 (by decide) (fun hc16 => ?_) (fun hc16 => absurd hc16 (by omega))
        refine z_iinc (ls' := [qR m, qR (m + a), qR (m + b), qI pg, qI wo, qI ch, qI sy, qR (m + t), qI (o : Int), qI ((l : Int) + 1), qI (9 : Int), qU, qU, qU]) d_X12_laysBook_200 rfl (by decide) (by omega) rfl ?_
        refine z_goto 13 d_X12_laysBook_203 (by decide) ?_
        exact z_dr (qle_k rfl (qle_k rfl (qle_k rfl (qle_k rfl (qle_k rfl (qle_k rfl (qle_k rfl (qle_k rfl (qle_k rfl (qle_k (qi (by omega)) (qle_d (qle_k rfl (qle_k rfl (qle_k rfl qle_n)))))))))))))) rfl (rput_cg rfl (gup_cg (F' := (qmx (81 * o + 9 * (l + 1)) (bkFc (g a) (g b) pg wo) (g 26))) (gup_cg (F' := (qmx (81 * o + 9 * (l + 1)) (bkTc (g a) (g b) pg wo ch sy) (g t))) rfl (by rw [show 81 * o + 9 * l + 9 = 81 * o + 9 * (l + 1) by omega])) (by rw [show 81 * o + 9 * l + 9 = 81 * o + 9 * (l + 1) by omega]))) (kkl trivial)
    · show qEx M_X12_laysBook 13 [qR m, qR (m + a), qR (m + b), qI pg, qI wo, qI ch, qI sy, qR (m + t), qI (o : Int), qI (9 : Int), qU, qU, qU, qU] [] (rput h m f (gup (gup g t (qmx (81 * o + 9 * 9) (bkTc (g a) (g b) pg wo ch sy) (g t))) 26 (qmx (81 * o + 9 * 9) (bkFc (g a) (g b) pg wo) (g 26)))) r hr
      refine z_iload d_X12_laysBook_13 rfl ?_
      refine z_bipush d_X12_laysBook_15 (by decide) ?_
      refine z_icmp_ge 206 d_X12_laysBook_17 (by decide) (fun hc17 => ?_) (fun hc17 => absurd hc17 (by omega))
      refine z_iinc (ls' := [qR m, qR (m + a), qR (m + b), qI pg, qI wo, qI ch, qI sy, qR (m + t), qI ((o : Int) + 1), qI (9 : Int), qU, qU, qU, qU]) d_X12_laysBook_206 rfl (by decide) (by omega) rfl ?_
      refine z_goto 3 d_X12_laysBook_209 (by decide) ?_
      exact z_dr (qle_k rfl (qle_k rfl (qle_k rfl (qle_k rfl (qle_k rfl (qle_k rfl (qle_k rfl (qle_k rfl (qle_k (qi (by omega)) (qle_d (qle_k rfl (qle_k rfl (qle_k rfl (qle_k rfl qle_n)))))))))))))) rfl (rput_cg rfl (gup_cg (F' := (qmx (81 * (o + 1)) (bkFc (g a) (g b) pg wo) (g 26))) (gup_cg (F' := (qmx (81 * (o + 1)) (bkTc (g a) (g b) pg wo ch sy) (g t))) rfl (by rw [show 81 * o + 9 * 9 = 81 * (o + 1) by omega])) (by rw [show 81 * o + 9 * 9 = 81 * (o + 1) by omega]))) (kko trivial)
  · show qEx M_X12_laysBook 3 [qR m, qR (m + a), qR (m + b), qI pg, qI wo, qI ch, qI sy, qR (m + t), qI (8 : Int), qU, qU, qU, qU, qU] [] (rput h m f (gup (gup g t (qmx (81 * 8) (bkTc (g a) (g b) pg wo ch sy) (g t))) 26 (qmx (81 * 8) (bkFc (g a) (g b) pg wo) (g 26)))) r hr
    refine z_iload d_X12_laysBook_3 rfl ?_
    refine z_bipush d_X12_laysBook_5 (by decide) ?_
    refine z_icmp_ge 212 d_X12_laysBook_7 (by decide) (fun hc18 => ?_) (fun hc18 => absurd hc18 (by omega))
    exact z_vret d_X12_laysBook_212 rfl er eh
