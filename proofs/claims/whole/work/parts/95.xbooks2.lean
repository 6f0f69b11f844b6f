/-! ===== CONTRACTS: trials of other books, more ===== -/
theorem mend_bk {F G : Nat → Nat → Int} {R C : Nat → Int} {i : Nat} {m : Int} (h : bkR F G 181 R C) (hi : i < 96) : bkR F (gup G (185 + 5 * (i / 24) + 4) (qup (G (185 + 5 * (i / 24) + 4)) (i % 24) m)) 181 (qup R (4 * i + 3) m) C := by
  intro k hk
  obtain ⟨a, b, d, e, f⟩ := h k hk
  by_cases z : k = i / 24
  · subst z
    refine ⟨a, b, d, fun j hj => ⟨fun s hs => ?_, ?_⟩, fun j s h1 h2 h3 => ?_⟩
    · refine ⟨?_, ?_, ?_⟩
      · rw [gup_ne (by omega), ((e j hj).1 s hs).1]; exact congrArg (fun z => tb z s) (qup_ne (show 96 * (i / 24) + 4 * j ≠ 4 * i + 3 by omega)).symm
      · rw [gup_ne (by omega), ((e j hj).1 s hs).2.1]; exact congrArg (fun z => tb z s) (qup_ne (show 96 * (i / 24) + (4 * j + 1) ≠ 4 * i + 3 by omega)).symm
      · rw [gup_ne (by omega), ((e j hj).1 s hs).2.2]; exact congrArg (fun z => tb z s) (qup_ne (show 96 * (i / 24) + (4 * j + 2) ≠ 4 * i + 3 by omega)).symm
    · rw [show 181 + 4 + 5 * (i / 24) + 4 = 185 + 5 * (i / 24) + 4 by omega, gup_eq]
      show _ = qup R (4 * i + 3) m (96 * (i / 24) + (4 * j + 3))
      by_cases y : j = i % 24
      · rw [y, qup_eq, show 96 * (i / 24) + (4 * (i % 24) + 3) = 4 * i + 3 by omega, qup_eq]
      · rw [qup_ne y, qup_ne (by omega)]
        exact (e j hj).2
    · rw [gup_ne (by omega)]; exact f j s h1 h2 h3
  · refine ⟨a, b, d, fun j hj => ⟨fun s hs => ?_, ?_⟩, fun j s h1 h2 h3 => ?_⟩
    · refine ⟨?_, ?_, ?_⟩
      · rw [gup_ne (by omega), ((e j hj).1 s hs).1]; exact congrArg (fun z => tb z s) (qup_ne (show 96 * k + 4 * j ≠ 4 * i + 3 by omega)).symm
      · rw [gup_ne (by omega), ((e j hj).1 s hs).2.1]; exact congrArg (fun z => tb z s) (qup_ne (show 96 * k + (4 * j + 1) ≠ 4 * i + 3 by omega)).symm
      · rw [gup_ne (by omega), ((e j hj).1 s hs).2.2]; exact congrArg (fun z => tb z s) (qup_ne (show 96 * k + (4 * j + 2) ≠ 4 * i + 3 by omega)).symm
    · have hj24 : j < 24 := by omega
      rw [gup_ne (by omega), (e j hj).2]
      exact (qup_ne (show 96 * k + (4 * j + 3) ≠ 4 * i + 3 by omega)).symm
    · rw [gup_ne (by omega)]; exact f j s h1 h2 h3
set_option maxRecDepth 20000 in
set_option maxHeartbeats 4000000 in
theorem c_mendMinds {h : qH} {F G : Nat → Nat → Int} {b to : Nat} {R C : Nat → Int} (i : Nat) (hb2 : 2 ≤ b) (hb : xk b = 0) (hbl : b + 23 < 172) (ht : to ≤ 24) (hR : bkR F G b R C) (hO : bkOk R C) (hS7 : ∀ c, 567 ≤ c → c < 648 → G (b + 2) c = 7 ∧ G (b + 3) c = -1) (hi : i < 96) (hi2 : ((i % 24 : Nat) : Int) < C (i / 24)) : ∃ F' G', (xfr 172 205 F G F' G' ∧ thi G') ∧ qEx M_X9_mendingMinds 0 [qR 172, qR b, qI (i : Int), qI (to : Int), qU, qU] [] (xput h F G) (some (qI (bst (fun k : Nat => k < 9 ∧ fbR (bkTc (qup R (4 * i + 3) (k : Int)) C 15 (-1) (-1) 0) to = -1)))) (xput h F' G') := by
  refine x_in (fun Q hQ => ?_)
  refine qy (fun _ _ k9 => z_aload_n d_X9_mendingMinds_0 rfl rfl k9) ?_
  refine qy (fun _ _ k9 => z_getf (v := qR 181) d_X9_mendingMinds_1 fl_X9_24 (xput_ob (c := (F 172)) xi_172 rfl (xsh_9 xo_172)) rfl k9) ?_
  refine qy (fun _ _ k9 => z_aload_n d_X9_mendingMinds_4 rfl rfl k9) ?_
  obtain ⟨F1, G1, ⟨hv1, hw1, hs1, hd1⟩, hx1⟩ := c_bkCopy (h := h) (F := F) (G := G) (b := 181) (c := b) (R := R) (C := C) (by decide) xo_181 hb2 hb (by omega) hR
  refine qy (fun _ _ k9 => z_cv0 (M1 := M_X0_copyFrom) d_X9_mendingMinds_5 lv_X9_93 k_X0_copyFrom [qR b] rfl rfl (xput_ob (c := (F 181)) xi_181 rfl (xsh_0 xo_181)) ⟨_, _, rfl⟩ (Nat.le_of_ble_eq_true rfl) (by decide) (by decide) (Nat.le_of_ble_eq_true rfl) hx1 k9) ?_
  refine qy (fun _ _ k9 => z_iconst d_X9_mendingMinds_8 (by decide) k9) ?_
  refine qy (fun _ _ k9 => z_istore (ls' := [qR 172, qR b, qI (i : Int), qI (to : Int), qI 0, qU]) d_X9_mendingMinds_9 (by decide) rfl k9) ?_
  refine qy (fun _ _ k9 => z_iconst d_X9_mendingMinds_11 (by decide) k9) ?_
  refine qy (fun _ _ k9 => z_istore (ls' := [qR 172, qR b, qI (i : Int), qI (to : Int), qI 0, qI 0]) d_X9_mendingMinds_12 (by decide) rfl k9) ?_
  refine qy (fun _ _ k9 => z_eq (qc rfl (qc rfl (qc rfl (qc rfl (qc (qi (bst_0.trans (bst_cg (fun k _ => ⟨False.elim, fun z => absurd z.1 (by omega)⟩)))) (qc (qi (rfl)) rfl)))))) rfl rfl k9) (y_wh4 (fun (m : Nat) (v : Int) (Fa : Nat → Nat → Int) (Ga : Nat → Nat → Int) => 9 - m) (fun (m : Nat) (v : Int) (Fa : Nat → Nat → Int) (Ga : Nat → Nat → Int) => [qR 172, qR b, qI (i : Int), qI (to : Int), qI (bst (fun k : Nat => k < m ∧ fbR (bkTc (qup R (4 * i + 3) (k : Int)) C 15 (-1) (-1) 0) to = -1)), qI (m : Int)]) (fun (m : Nat) (v : Int) (Fa : Nat → Nat → Int) (Ga : Nat → Nat → Int) => (xput h Fa Ga)) (fun (m : Nat) (v : Int) (Fa : Nat → Nat → Int) (Ga : Nat → Nat → Int) => m ≤ 9 ∧ xfr 172 205 F G Fa Ga ∧ thi Ga ∧ bkR Fa Ga 181 (qup R (4 * i + 3) v) C) 0 (R (4 * i + 3)) F1 G1 (⟨by omega, xfr_wd hv1 (by decide) (by decide), fun c h1 h2 => by rw [hs1 c h2, hd1 c h2]; exact hS7 c h1 h2, by rw [qup_self rfl]; exact hw1⟩) (fun m v Fa Ga hp kk => ?_))
  obtain ⟨hm9, hfr, hth, hbk⟩ := hp
  show qEy M_X9_mendingMinds 14 [qR 172, qR b, qI (i : Int), qI (to : Int), qI (bst (fun k : Nat => k < m ∧ fbR (bkTc (qup R (4 * i + 3) (k : Int)) C 15 (-1) (-1) 0) to = -1)), qI (m : Int)] [] (xput h Fa Ga) Q
  refine qy (fun _ _ k9 => z_iload d_X9_mendingMinds_14 rfl k9) ?_
  refine qy (fun _ _ k9 => z_bipush d_X9_mendingMinds_16 (by decide) k9) ?_
  refine qy2 (fun _ _ => z_icmp_gt 81 d_X9_mendingMinds_18 (by decide)) (fun hc1 => ?_) (fun hc1 => ?_)
  · refine qy (fun _ _ k9 => z_iload d_X9_mendingMinds_81 rfl k9) ?_
    exact y_ret (hQ Fa Ga (⟨hfr, hth⟩)) (z_iret d_X9_mendingMinds_83 rfl (qsi (by rw [show m = 9 by omega])) rfl)
  · refine qy (fun _ _ k9 => z_aload_n d_X9_mendingMinds_21 rfl rfl k9) ?_
    refine qy (fun _ _ k9 => z_getf (v := qR 181) d_X9_mendingMinds_22 fl_X9_24 (xput_ob (c := (Fa 172)) xi_172 rfl (xsh_9 xo_172)) rfl k9) ?_
    refine qy (fun _ _ k9 => z_getf (v := qR 182) d_X9_mendingMinds_25 fl_X9_97 (xput_ob (c := (Fa 181)) xi_181 rfl (xsh_0 xo_181)) rfl k9) ?_
    refine qy (fun _ _ k9 => z_iload_n d_X9_mendingMinds_28 rfl rfl k9) ?_
    refine qy (fun _ _ k9 => z_bipush d_X9_mendingMinds_29 (by decide) k9) ?_
    refine qy (fun _ _ k9 => z_idiv d_X9_mendingMinds_31 (by omega) k9) ?_
    refine qy (fun _ _ k9 => z_eq rfl (qc (qi (by rw [Int.tdiv_eq_ediv_of_nonneg (by omega)] <;> omega)) rfl) rfl k9) ?_
    refine qy (fun _ _ k9 => z_ald (i / 24) d_X9_mendingMinds_32 (Or.inl ⟨rfl, rfl, rfl⟩) (xput_ob xi_182 rfl (xsh_20 xo_182)) rfl (by omega) (show (if (i / 24) < 4 then some (182 + 3 + 5 * (i / 24)) else none) = some (185 + 5 * (i / 24)) from (if_pos (by omega)).trans (congrArg some (by omega))) k9) ?_
    refine qy (fun _ _ k9 => z_getf (v := qR ((185 + 5 * (i / 24)) + 4)) d_X9_mendingMinds_33 fl_X9_117 (xput_ob (c := (Fa (185 + 5 * (i / 24)))) (pgx_in (by omega) ((bkp (by decide) xo_181).2.2 (i / 24) (by omega))) rfl (xsh_2 ((bkp (by decide) xo_181).2.2 (i / 24) (by omega)))) rfl k9) ?_
    refine qy (fun _ _ k9 => z_iload_n d_X9_mendingMinds_36 rfl rfl k9) ?_
    refine qy (fun _ _ k9 => z_bipush d_X9_mendingMinds_37 (by decide) k9) ?_
    refine qy (fun _ _ k9 => z_irem d_X9_mendingMinds_39 (by omega) k9) ?_
    refine qy (fun _ _ k9 => z_eq rfl (qc (qi (by rw [Int.tmod_eq_emod_of_nonneg (by omega)] <;> omega)) rfl) rfl k9) ?_
    refine qy (fun _ _ k9 => z_iload d_X9_mendingMinds_40 rfl k9) ?_
    refine qy (fun _ _ k9 => z_ist (i % 24) d_X9_mendingMinds_42 (xput_ar (g := (Ga ((185 + 5 * (i / 24)) + 4))) (pgx_4 (by omega) ((bkp (by decide) xo_181).2.2 (i / 24) (by omega))) rfl) (by omega) rfl (by omega) k9) ?_
    refine qy (fun _ _ k9 => z_eq rfl rfl (xput_sa (pgx_4 (by omega) ((bkp (by decide) xo_181).2.2 (i / 24) (by omega)))) k9) ?_
    refine qy (fun _ _ k9 => z_aload_n d_X9_mendingMinds_43 rfl rfl k9) ?_
    refine qy (fun _ _ k9 => z_getf (v := qR 181) d_X9_mendingMinds_44 fl_X9_24 (xput_ob (c := (Fa 172)) xi_172 rfl (xsh_9 xo_172)) rfl k9) ?_
    obtain ⟨G2, ⟨hv2, hw2, ht2, hd2⟩, hx2⟩ := c_settle (h := h) (F := Fa) (G := (gup Ga ((185 + 5 * (i / 24)) + 4) (qup (Ga ((185 + 5 * (i / 24)) + 4)) (i % 24) (m : Int)))) (b := 181) (R := (qup R (4 * i + 3) (m : Int))) (C := C) (by decide) xo_181 (by have := mend_bk (m := (m : Int)) hbk hi; rwa [qup_qup] at this) (fun c h1 h2 => by rw [gup_ne (by omega), gup_ne (by omega)]; exact hth c h1 h2)
    refine qy (fun _ _ k9 => z_cv0 (M1 := M_X0_settle) d_X9_mendingMinds_47 lv_X9_107 k_X0_settle [] rfl rfl (xput_ob (c := (Fa 181)) xi_181 rfl (xsh_0 xo_181)) ⟨_, _, rfl⟩ (Nat.le_of_ble_eq_true rfl) (by decide) (by decide) (Nat.le_of_ble_eq_true rfl) hx2 k9) ?_
    refine qy (fun _ _ k9 => z_aload_n d_X9_mendingMinds_50 rfl rfl k9) ?_
    refine qy (fun _ _ k9 => z_aload_n d_X9_mendingMinds_51 rfl rfl k9) ?_
    refine qy (fun _ _ k9 => z_getf (v := qR 181) d_X9_mendingMinds_52 fl_X9_24 (xput_ob (c := (Fa 172)) xi_172 rfl (xsh_9 xo_172)) rfl k9) ?_
    refine qy (fun _ _ k9 => z_getf (v := qR 183) d_X9_mendingMinds_55 fl_X9_110 (xput_ob (c := (Fa 181)) xi_181 rfl (xsh_0 xo_181)) rfl k9) ?_
    refine qy (fun _ _ k9 => z_iload_n d_X9_mendingMinds_58 rfl rfl k9) ?_
    obtain ⟨F3, G3, ⟨hv3, -⟩, hx3⟩ := xc_firstBad (h := h) (F := Fa) (G := G2) (d := 183) (to := to) (T := (bkTc (qup R (4 * i + 3) (m : Int)) C 15 (-1) (-1) 0)) xa_183 (by decide) (by omega) ht2 (bkTc_bd (bkOk_mend hO (by omega)) (by decide))
    refine qy (fun _ _ k9 => z_cv (M1 := M_X9_firstBad) d_X9_mendingMinds_59 lv_X9_113 k_X9_firstBad [qR 183, qI (to : Int)] rfl rfl (xput_ob (c := (Fa 172)) xi_172 rfl (xsh_9 xo_172)) ⟨_, _, rfl⟩ (Nat.le_of_ble_eq_true rfl) (by decide) (by decide) (Nat.le_of_ble_eq_true rfl) hx3 k9) ?_
    refine qy (fun _ _ k9 => z_iconst d_X9_mendingMinds_62 (by decide) k9) ?_
    refine qy2 (fun _ _ => z_icmp_ne 75 d_X9_mendingMinds_63 (by decide)) (fun q1 => ?_) (fun q1 => ?_)
    · refine qy (fun _ _ k9 => z_iinc (ls' := [qR 172, qR b, qI (i : Int), qI (to : Int), qI (bst (fun k : Nat => k < m ∧ fbR (bkTc (qup R (4 * i + 3) (k : Int)) C 15 (-1) (-1) 0) to = -1)), qI ((m : Int) + 1)]) d_X9_mendingMinds_75 rfl (by decide) (by omega) rfl k9) ?_
      refine qy (fun _ _ k9 => z_goto 14 d_X9_mendingMinds_78 (by decide) k9) ?_
      exact qy (fun _ _ k9 => z_eq (qc rfl (qc rfl (qc rfl (qc rfl (qc (qi (bst_cg (fun k _ => ⟨fun z => ⟨by omega, z.2⟩, fun z => ⟨by rcases Nat.lt_or_ge k m with y | y; exact y; exact absurd ((show k = m by omega) ▸ z.2) q1, z.2⟩⟩))) (qc (qi (by omega)) rfl)))))) rfl rfl k9) (kk (m + 1) (m : Int) F3 G3 (⟨by omega, (fun a ha => ⟨(xfr_F hv3 (by omega)).trans (xfr_F hfr ha), ((xfr_G hv3 (by omega)).trans (hv2 a (by omega) (by omega))).trans ((gup_ne (by omega)).trans (xfr_G hfr ha))⟩), (fun c h1 h2 => by rw [xfr_G hv3 (by omega), xfr_G hv3 (by omega), ht2 c h2, hd2 c h2]; exact ⟨(bk_hi h1 h2).2, (bk_hi h1 h2).1⟩), bkR_cg hw2 (fun a h1 h2 => ⟨xfr_F hv3 (by omega), xfr_G hv3 (by omega)⟩)⟩) (by omega))
    · refine qy (fun _ _ k9 => z_iload d_X9_mendingMinds_66 rfl k9) ?_
      refine qy (fun _ _ k9 => z_iconst d_X9_mendingMinds_68 (by decide) k9) ?_
      refine qy (fun _ _ k9 => z_iload d_X9_mendingMinds_69 rfl k9) ?_
      refine qy (fun _ _ k9 => z_ishl d_X9_mendingMinds_71 k9) ?_
      refine qy (fun _ _ k9 => z_ior d_X9_mendingMinds_72 k9) ?_
      refine qy (fun _ _ k9 => z_istore (ls' := [qR 172, qR b, qI (i : Int), qI (to : Int), qI (qOr (bst (fun k : Nat => k < m ∧ fbR (bkTc (qup R (4 * i + 3) (k : Int)) C 15 (-1) (-1) 0) to = -1)) (qShl 1 (m : Int))), qI (m : Int)]) d_X9_mendingMinds_73 (by decide) rfl k9) ?_
      refine qy (fun _ _ k9 => z_iinc (ls' := [qR 172, qR b, qI (i : Int), qI (to : Int), qI (qOr (bst (fun k : Nat => k < m ∧ fbR (bkTc (qup R (4 * i + 3) (k : Int)) C 15 (-1) (-1) 0) to = -1)) (qShl 1 (m : Int))), qI ((m : Int) + 1)]) d_X9_mendingMinds_75 rfl (by decide) (by omega) rfl k9) ?_
      refine qy (fun _ _ k9 => z_goto 14 d_X9_mendingMinds_78 (by decide) k9) ?_
      exact qy (fun _ _ k9 => z_eq (qc rfl (qc rfl (qc rfl (qc rfl (qc (qi ((bst_or (by omega) (by omega)).trans (bst_cg (fun k _ => ⟨fun z => z.elim (fun y => ⟨by omega, y.2⟩) (fun y => ⟨by omega, (show m = k by omega) ▸ Classical.not_not.mp q1⟩), fun z => by rcases Nat.lt_or_ge k m with y | y; exact Or.inl ⟨y, z.2⟩; exact Or.inr (by omega)⟩)))) (qc (qi (by omega)) rfl)))))) rfl rfl k9) (kk (m + 1) (m : Int) F3 G3 (⟨by omega, (fun a ha => ⟨(xfr_F hv3 (by omega)).trans (xfr_F hfr ha), ((xfr_G hv3 (by omega)).trans (hv2 a (by omega) (by omega))).trans ((gup_ne (by omega)).trans (xfr_G hfr ha))⟩), (fun c h1 h2 => by rw [xfr_G hv3 (by omega), xfr_G hv3 (by omega), ht2 c h2, hd2 c h2]; exact ⟨(bk_hi h1 h2).2, (bk_hi h1 h2).1⟩), bkR_cg hw2 (fun a h1 h2 => ⟨xfr_F hv3 (by omega), xfr_G hv3 (by omega)⟩)⟩) (by omega))
set_option maxRecDepth 20000 in
set_option maxHeartbeats 4000000 in
theorem c_wwPages {h : qH} {F G : Nat → Nat → Int} {b to : Nat} {R C : Nat → Int} (st : Nat) (hb2 : 2 ≤ b) (hb : xk b = 0) (hbl : b + 23 < 172) (ht : to ≤ 24) (hR : bkR F G b R C) (hO : bkOk R C) (hth : thi G) (hst : st < 16) : ∃ F' G', (xfr 172 205 F G F' G' ∧ thi G') ∧ qEx M_X9_worksWithPages 0 [qR 172, qR b, qI (st : Int), qI (to : Int), qU] [] (xput h F G) (some (qI (qb (fbR (bkTc R (pgC C (st : Int)) 15 (-1) (-1) 0) to = -1)))) (xput h F' G') := by
  refine x_in (fun Q hQ => ?_)
  refine qy (fun _ _ k9 => z_iconst d_X9_worksWithPages_0 (by decide) k9) ?_
  refine qy (fun _ _ k9 => z_istore (ls' := [qR 172, qR b, qI (st : Int), qI (to : Int), qI 0]) d_X9_worksWithPages_1 (by decide) rfl k9) ?_
  refine qy (fun _ _ k9 => z_eq (qc rfl (qc rfl (qc rfl (qc rfl (qc (qi (rfl)) rfl))))) rfl rfl k9) (y_wh3 (fun (k : Nat) (Fa : Nat → Nat → Int) (Ga : Nat → Nat → Int) => 4 - k) (fun (k : Nat) (Fa : Nat → Nat → Int) (Ga : Nat → Nat → Int) => [qR 172, qR b, qI (st : Int), qI (to : Int), qI (k : Int)]) (fun (k : Nat) (Fa : Nat → Nat → Int) (Ga : Nat → Nat → Int) => (xput h Fa Ga)) (fun (k : Nat) (Fa : Nat → Nat → Int) (Ga : Nat → Nat → Int) => k ≤ 4 ∧ xfr 185 204 F G Fa Ga ∧ ∀ q, q < k → pgR Fa Ga (185 + 5 * q) (fun j => R (96 * q + j)) (pgC C (st : Int) q)) 0 F G (⟨by omega, xfr_rf _ _ _ _, fun q hq => absurd hq (by omega)⟩) (fun k Fa Ga hp kk => ?_))
  obtain ⟨hk4, hfr, hpg⟩ := hp
  show qEy M_X9_worksWithPages 3 [qR 172, qR b, qI (st : Int), qI (to : Int), qI (k : Int)] [] (xput h Fa Ga) Q
  have hR1 : bkR Fa Ga b R C := bkR_cg hR (fun a h1 h2 => hfr a (by omega))
  refine qy (fun _ _ k9 => z_iload d_X9_worksWithPages_3 rfl k9) ?_
  refine qy (fun _ _ k9 => z_iconst d_X9_worksWithPages_5 (by decide) k9) ?_
  refine qy2 (fun _ _ => z_icmp_ge 60 d_X9_worksWithPages_6 (by decide)) (fun hc1 => ?_) (fun hc1 => ?_)
  · refine qy (fun _ _ k9 => z_aload_n d_X9_worksWithPages_60 rfl rfl k9) ?_
    refine qy (fun _ _ k9 => z_getf (v := qR 181) d_X9_worksWithPages_61 fl_X9_24 (xput_ob (c := (Fa 172)) xi_172 rfl (xsh_9 xo_172)) rfl k9) ?_
    obtain ⟨G1, ⟨hv1, hw1, ht1, hd1⟩, hx1⟩ := c_settle (h := h) (F := Fa) (G := Ga) (b := 181) (R := R) (C := pgC C (st : Int)) (by decide) xo_181 (fun q hq => hpg q (by omega)) (fun c h1 h2 => by rw [xfr_G hfr (by omega), xfr_G hfr (by omega)]; exact hth c h1 h2)
    refine qy (fun _ _ k9 => z_cv0 (M1 := M_X0_settle) d_X9_worksWithPages_64 lv_X9_107 k_X0_settle [] rfl rfl (xput_ob (c := (Fa 181)) xi_181 rfl (xsh_0 xo_181)) ⟨_, _, rfl⟩ (Nat.le_of_ble_eq_true rfl) (by decide) (by decide) (Nat.le_of_ble_eq_true rfl) hx1 k9) ?_
    refine qy (fun _ _ k9 => z_aload_n d_X9_worksWithPages_67 rfl rfl k9) ?_
    refine qy (fun _ _ k9 => z_aload_n d_X9_worksWithPages_68 rfl rfl k9) ?_
    refine qy (fun _ _ k9 => z_getf (v := qR 181) d_X9_worksWithPages_69 fl_X9_24 (xput_ob (c := (Fa 172)) xi_172 rfl (xsh_9 xo_172)) rfl k9) ?_
    refine qy (fun _ _ k9 => z_getf (v := qR 183) d_X9_worksWithPages_72 fl_X9_110 (xput_ob (c := (Fa 181)) xi_181 rfl (xsh_0 xo_181)) rfl k9) ?_
    refine qy (fun _ _ k9 => z_iload_n d_X9_worksWithPages_75 rfl rfl k9) ?_
    obtain ⟨F2, G2, ⟨hv2, -⟩, hx2⟩ := xc_firstBad (h := h) (F := Fa) (G := G1) (d := 183) (to := to) (T := (bkTc R (pgC C (st : Int)) 15 (-1) (-1) 0)) xa_183 (by decide) (by omega) ht1 (bkTc_bd (bkOk_pg hO) (by decide))
    refine qy (fun _ _ k9 => z_cv (M1 := M_X9_firstBad) d_X9_worksWithPages_76 lv_X9_113 k_X9_firstBad [qR 183, qI (to : Int)] rfl rfl (xput_ob (c := (Fa 172)) xi_172 rfl (xsh_9 xo_172)) ⟨_, _, rfl⟩ (Nat.le_of_ble_eq_true rfl) (by decide) (by decide) (Nat.le_of_ble_eq_true rfl) hx2 k9) ?_
    refine qy (fun _ _ k9 => z_iconst d_X9_worksWithPages_79 (by decide) k9) ?_
    suffices kJ80 : qEy M_X9_worksWithPages 88 [qR 172, qR b, qI (st : Int), qI (to : Int), qI (k : Int)] [qI (qb ((fbR (bkTc R (pgC C (st : Int)) 15 (-1) (-1) 0) to) = (-1)))] (xput h F2 G2) Q by
      refine qy2 (fun _ _ => z_icmp_ne 87 d_X9_worksWithPages_80 (by decide)) (fun hc2 => ?_) (fun hc2 => ?_)
      · refine qy (fun _ _ k9 => z_iconst d_X9_worksWithPages_87 (by decide) k9) ?_
        exact qy (fun _ _ k9 => z_eq rfl (qc (qi (qb_f (by omega)).symm) rfl) rfl k9) kJ80
      · refine qy (fun _ _ k9 => z_iconst d_X9_worksWithPages_83 (by decide) k9) ?_
        refine qy (fun _ _ k9 => z_goto 88 d_X9_worksWithPages_84 (by decide) k9) ?_
        exact qy (fun _ _ k9 => z_eq rfl (qc (qi (qb_t (by omega)).symm) rfl) rfl k9) kJ80
    exact y_ret (hQ F2 G2 (⟨(fun a ha => ⟨(xfr_F hv2 (by omega)).trans (xfr_F hfr (by omega)), ((xfr_G hv2 (by omega)).trans (hv1 a (by omega) (by omega))).trans (xfr_G hfr (by omega))⟩), fun c h1 h2 => by rw [xfr_G hv2 (by omega), xfr_G hv2 (by omega), ht1 c h2, hd1 c h2]; exact ⟨(bk_hi h1 h2).2, (bk_hi h1 h2).1⟩⟩)) (z_zret d_X9_worksWithPages_88 rfl (by first | exact qb_01 _ | decide | omega) rfl rfl)
  · refine qy (fun _ _ k9 => z_iload_n d_X9_worksWithPages_9 rfl rfl k9) ?_
    refine qy (fun _ _ k9 => z_iload d_X9_worksWithPages_10 rfl k9) ?_
    refine qy (fun _ _ k9 => z_ishr d_X9_worksWithPages_12 k9) ?_
    refine qy (fun _ _ k9 => z_iconst d_X9_worksWithPages_13 (by decide) k9) ?_
    refine qy (fun _ _ k9 => z_iand d_X9_worksWithPages_14 k9) ?_
    refine qy2 (fun _ _ => z_if_eq 41 d_X9_worksWithPages_15 (by decide)) (fun q15 => ?_) (fun q15 => ?_)
    · have hbit : ¬ tb (st : Int) k = true := fun z => by rw [q_hasB _ (by omega), qb_t z] at q15; exact absurd q15 (by decide)
      refine qy (fun _ _ k9 => z_aload_n d_X9_worksWithPages_41 rfl rfl k9) ?_
      refine qy (fun _ _ k9 => z_getf (v := qR 181) d_X9_worksWithPages_42 fl_X9_24 (xput_ob (c := (Fa 172)) xi_172 rfl (xsh_9 xo_172)) rfl k9) ?_
      refine qy (fun _ _ k9 => z_getf (v := qR 182) d_X9_worksWithPages_45 fl_X9_97 (xput_ob (c := (Fa 181)) xi_181 rfl (xsh_0 xo_181)) rfl k9) ?_
      refine qy (fun _ _ k9 => z_iload d_X9_worksWithPages_48 rfl k9) ?_
      refine qy (fun _ _ k9 => z_ald k d_X9_worksWithPages_50 (Or.inl ⟨rfl, rfl, rfl⟩) (xput_ob xi_182 rfl (xsh_20 xo_182)) rfl (by omega) (show (if k < 4 then some (182 + 3 + 5 * k) else none) = some (185 + 5 * k) from (if_pos (by omega)).trans (congrArg some (by omega))) k9) ?_
      obtain ⟨F3, G3, ⟨hv3, hw3⟩, hx3⟩ := c_pgClr (h := h) (F := Fa) (G := Ga) (p := (185 + 5 * k)) (fun j => R (96 * k + j)) (by omega) ((bkp (by decide) xo_181).2.2 k (by omega))
      refine qy (fun _ _ k9 => z_cv0 (M1 := M_X2_clear) d_X9_worksWithPages_51 lv_X9_155 k_X2_clear [] rfl rfl (xput_ob (c := (Fa (185 + 5 * k))) (pgx_in (by omega) ((bkp (by decide) xo_181).2.2 k (by omega))) rfl (xsh_2 ((bkp (by decide) xo_181).2.2 k (by omega)))) ⟨_, _, rfl⟩ (Nat.le_of_ble_eq_true rfl) (by decide) (by decide) (Nat.le_of_ble_eq_true rfl) hx3 k9) ?_
      refine qy (fun _ _ k9 => z_iinc (ls' := [qR 172, qR b, qI (st : Int), qI (to : Int), qI ((k : Int) + 1)]) d_X9_worksWithPages_54 rfl (by decide) (by omega) rfl k9) ?_
      refine qy (fun _ _ k9 => z_goto 3 d_X9_worksWithPages_57 (by decide) k9) ?_
      exact qy (fun _ _ k9 => z_eq (qc rfl (qc rfl (qc rfl (qc rfl (qc (qi (by omega)) rfl))))) rfl rfl k9) (kk (k + 1) F3 G3 (⟨by omega, xfr_tr hfr (xfr_wd hv3 (by omega) (by omega)), q_lts (fun q hq => pgR_cg (hpg q hq) (by rw [xfr_F hv3 (by omega)]) (fun s _ => by rw [xfr_G hv3 (by omega)]) (fun s _ => by rw [xfr_G hv3 (by omega)]) (fun s _ => by rw [xfr_G hv3 (by omega)]) (fun s _ => by rw [xfr_G hv3 (by omega)])) (by have e9 : pgC C (st : Int) k = 0 := qif_f hbit; rw [e9]; exact hw3)⟩) (by omega))
    · have hbit : tb (st : Int) k = true := Classical.not_not.mp (fun z => q15 (by rw [q_hasB _ (by omega), qb_f z]))
      refine qy (fun _ _ k9 => z_aload_n d_X9_worksWithPages_18 rfl rfl k9) ?_
      refine qy (fun _ _ k9 => z_getf (v := qR 181) d_X9_worksWithPages_19 fl_X9_24 (xput_ob (c := (Fa 172)) xi_172 rfl (xsh_9 xo_172)) rfl k9) ?_
      refine qy (fun _ _ k9 => z_getf (v := qR 182) d_X9_worksWithPages_22 fl_X9_97 (xput_ob (c := (Fa 181)) xi_181 rfl (xsh_0 xo_181)) rfl k9) ?_
      refine qy (fun _ _ k9 => z_iload d_X9_worksWithPages_25 rfl k9) ?_
      refine qy (fun _ _ k9 => z_ald k d_X9_worksWithPages_27 (Or.inl ⟨rfl, rfl, rfl⟩) (xput_ob xi_182 rfl (xsh_20 xo_182)) rfl (by omega) (show (if k < 4 then some (182 + 3 + 5 * k) else none) = some (185 + 5 * k) from (if_pos (by omega)).trans (congrArg some (by omega))) k9) ?_
      refine qy (fun _ _ k9 => z_aload_n d_X9_worksWithPages_28 rfl rfl k9) ?_
      refine qy (fun _ _ k9 => z_getf (v := qR (b + 1)) d_X9_worksWithPages_29 fl_X9_97 (xput_ob (c := (Fa b)) (bkx_in hb2 hb) rfl (xsh_0 hb)) rfl k9) ?_
      refine qy (fun _ _ k9 => z_iload d_X9_worksWithPages_32 rfl k9) ?_
      refine qy (fun _ _ k9 => z_ald k d_X9_worksWithPages_34 (Or.inl ⟨rfl, rfl, rfl⟩) (xput_ob ⟨by omega, by have := (bkp hb2 hb).2.1; omega⟩ rfl (xsh_20 (bkp hb2 hb).1)) rfl (by omega) (show (if k < 4 then some ((b + 1) + 3 + 5 * k) else none) = some (b + 4 + 5 * k) from (if_pos (by omega)).trans (congrArg some (by omega))) k9) ?_
      obtain ⟨F4, G4, ⟨hv4, hw4⟩, hx4⟩ := c_pgCopy (h := h) (F := Fa) (G := Ga) (p := (185 + 5 * k)) (q := (b + 4 + 5 * k)) (R := (fun j => R (96 * k + j))) (c := C k) (by omega) ((bkp (by decide) xo_181).2.2 k (by omega)) (by omega) ((bkp hb2 hb).2.2 k (by omega)) (by omega) (hR1 k (by omega))
      refine qy (fun _ _ k9 => z_cv0 (M1 := M_X2_copyFrom) d_X9_worksWithPages_35 lv_X9_152 k_X2_copyFrom [qR (b + 4 + 5 * k)] rfl rfl (xput_ob (c := (Fa (185 + 5 * k))) (pgx_in (by omega) ((bkp (by decide) xo_181).2.2 k (by omega))) rfl (xsh_2 ((bkp (by decide) xo_181).2.2 k (by omega)))) ⟨_, _, rfl⟩ (Nat.le_of_ble_eq_true rfl) (by decide) (by decide) (Nat.le_of_ble_eq_true rfl) hx4 k9) ?_
      refine qy (fun _ _ k9 => z_goto 54 d_X9_worksWithPages_38 (by decide) k9) ?_
      refine qy (fun _ _ k9 => z_iinc (ls' := [qR 172, qR b, qI (st : Int), qI (to : Int), qI ((k : Int) + 1)]) d_X9_worksWithPages_54 rfl (by decide) (by omega) rfl k9) ?_
      refine qy (fun _ _ k9 => z_goto 3 d_X9_worksWithPages_57 (by decide) k9) ?_
      exact qy (fun _ _ k9 => z_eq (qc rfl (qc rfl (qc rfl (qc rfl (qc (qi (by omega)) rfl))))) rfl rfl k9) (kk (k + 1) F4 G4 (⟨by omega, xfr_tr hfr (xfr_wd hv4 (by omega) (by omega)), q_lts (fun q hq => pgR_cg (hpg q hq) (by rw [xfr_F hv4 (by omega)]) (fun s _ => by rw [xfr_G hv4 (by omega)]) (fun s _ => by rw [xfr_G hv4 (by omega)]) (fun s _ => by rw [xfr_G hv4 (by omega)]) (fun s _ => by rw [xfr_G hv4 (by omega)])) (by have e9 : pgC C (st : Int) k = C k := qif_t hbit; rw [e9]; exact hw4)⟩) (by omega))
