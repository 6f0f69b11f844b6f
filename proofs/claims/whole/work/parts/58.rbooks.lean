/-! ===== CONTRACTS: the reference: mends, enough, mixes, mixed, unlike, more ===== -/
theorem y_laysBook {h : qH} {m : Nat} {f : Nat → Int} {g : Nat → Nat → Int} {a b t : Nat} {R C : Nat → Int} (pg wo ch sy : Int) (hR : g a = R) (hC : g b = C) (hm : 2 ≤ m) (ha : rT a = 0 ∧ rN a = 384 ∧ 1 ≤ a ∧ a ≤ 37) (hb : rT b = 0 ∧ rN b = 4 ∧ 1 ≤ b ∧ b ≤ 37) (ht : rT t = 0 ∧ rN t = 648 ∧ 1 ≤ t ∧ t ≤ 37) (hat : a ≠ t) (hbt : b ≠ t) (ha2 : a ≠ 26) (hb2 : b ≠ 26) (ht2 : t ≠ 26) : ∃ g', (fr [t, 26] g g' ∧ (∀ c, c < 648 → g' t c = bkTc R C pg wo ch sy c) ∧ ∀ c, c < 648 → g' 26 c = bkFc R C pg wo c) ∧ qEx M_X12_laysBook 0 [qR m, qR (m + a), qR (m + b), qI pg, qI wo, qI ch, qI sy, qR (m + t), qU, qU, qU, qU, qU, qU] [] (rput h m f g) none (rput h m f g') := by
  subst hR; subst hC
  refine ⟨_, ⟨fun j hj => (gup_ne (fun e => hj (by simp [e]))).trans (gup_ne (fun e => hj (by simp [e]))), fun c hc => ?_, fun c hc => ?_⟩, c_laysBook pg wo ch sy hm ha hb ht hat hbt ha2 hb2 ht2⟩
  · rw [gup_ne ht2, gup_eq, qmx_lt hc]
  · rw [gup_eq, qmx_lt hc]
theorem bst_add {p : Nat → Prop} {j : Nat} (hj : j < 32) : qOr (bst (fun k => k < j ∧ p k)) (qif (¬ p j) 0 (qShl 1 (j : Int))) = bst (fun k => k < j + 1 ∧ p k) := by
  refine bst_eq (qOr_R _ _) (fun k hk => ?_)
  rw [tb_or, Bool.or_eq_true, tb_bst hk]
  by_cases h : p j
  · rw [qif_f (fun z => z h), tb_bit hj, decide_eq_true_eq]
    constructor
    · rintro (⟨a, b⟩ | e)
      · exact ⟨by omega, b⟩
      · exact ⟨by omega, e ▸ h⟩
    · rintro ⟨a, b⟩
      rcases Nat.lt_or_ge k j with q | q
      · exact Or.inl ⟨q, b⟩
      · exact Or.inr (by omega)
  · rw [qif_t h, tb_0]
    constructor
    · rintro (⟨a, b⟩ | e)
      · exact ⟨by omega, b⟩
      · exact absurd e (by decide)
    · rintro ⟨a, b⟩
      rcases Nat.lt_or_ge k j with q | q
      · exact Or.inl ⟨q, b⟩
      · exact absurd ((show k = j by omega) ▸ b) h
theorem bst_add0 {p : Nat → Prop} : (0 : Int) = bst (fun k => k < 0 ∧ p k) := bst_0.trans (bst_cg (fun k _ => ⟨False.elim, fun h => absurd h.1 (by omega)⟩))
set_option maxRecDepth 20000 in
set_option maxHeartbeats 1000000 in
theorem c_mends {h : qH} {m : Nat} {f : Nat → Int} {g : Nat → Nat → Int} (i : Int) {to : Nat} (hm : 2 ≤ m) (h0 : f 0 = 0) (hi : (0 ≤ i ∧ i ≤ 95 ∧ i % 24 < g 5 (i.toNat / 24))) (ht : 1 ≤ to ∧ to ≤ 24) (hO : bkOk (g 2) (g 5)) : ∃ g', (sq g g') ∧ qEx M_X12_mends 0 [qR m, qI i, qI (to : Int), qU, qU] [] (rput h m f g) (some (qI (bst (fun k : Nat => k < 9 ∧ fbR (mendT g i k) to = -1)))) (rput h m f g') := by
  refine y_in (fun Q hQ => ?_)
  refine qy (fun _ _ k9 => z_aload_n d_X12_mends_0 rfl rfl k9) ?_
  refine qy (fun _ _ k9 => z_iconst d_X12_mends_1 (by decide) k9) ?_
  refine qy (fun _ _ k9 => z_putf (fs' := [qI 0, qI (f 1), qI (f 2), qI (f 3), qI (f 4), qI (f 5), qI (f 6), qI (f 7), qR (m + 1), qR (m + 2), qR (m + 3), qR (m + 4), qR (m + 5), qR (m + 6), qR (m + 7), qR (m + 8), qR (m + 9), qR (m + 10), qI (f 18), qI (f 19), qI (f 20), qR (m + 11), qR (m + 12), qR (m + 13), qR (m + 14), qI (f 25), qR (m + 15), qI (f 27), qR (m + 16), qR (m + 17), qR (m + 18), qR (m + 19), qR (m + 20), qR (m + 21), qR (m + 22), qR (m + 23), qR (m + 24), qI (f 37), qI (f 38), qI (f 39), qI (f 40), qR (m + 25), qR (m + 26), qR (m + 27), qR (m + 28), qR (m + 29), qR (m + 30), qR (m + 31), qI (f 48), qR (m + 32), qR (m + 33), qR (m + 34), qR (m + 35), qR (m + 36), qR (m + 37)]) d_X12_mends_2 fp_X12_127 rput_o (fun _ => rfl) (fun _ => rfl) (Nat.le_of_ble_eq_true rfl) rfl k9) ?_
  refine qy (fun _ _ k9 => z_eq rfl rfl ((rput_sf (f' := qup f 0 0) rfl).trans (rput_cg (qup_self h0) rfl)) k9) ?_
  refine qy (fun _ _ k9 => z_aload_n d_X12_mends_5 rfl rfl k9) ?_
  refine qy (fun _ _ k9 => z_iload_n d_X12_mends_6 rfl rfl k9) ?_
  refine qy (fun _ _ k9 => z_cv (M1 := M_X12_isRule) d_X12_mends_7 lv_X12_366 k_X12_isRule [qI i] rfl rfl rput_o ⟨_, _, rfl⟩ (Nat.le_of_ble_eq_true rfl) (by decide) (by decide) (Nat.le_of_ble_eq_true rfl) (c_isRule i hm) k9) ?_
  refine qy2n (fun _ _ => z_ifeqB 23 d_X12_mends_10 (by decide)) (fun hc1 => absurd hc1 (by exact fun z => z hi)) (fun hc1 => ?_)
  refine qy (fun _ _ k9 => z_iload_n d_X12_mends_13 rfl rfl k9) ?_
  refine qy (fun _ _ k9 => z_iconst d_X12_mends_14 (by decide) k9) ?_
  refine qy (fun _ _ k9 => z_bipush d_X12_mends_15 (by decide) k9) ?_
  refine qy (fun _ _ k9 => z_cs (M1 := M_X12_in) d_X12_mends_17 ls_X12_137 k_X12_in [qI (to : Int), qI 1, qI 24] rfl rfl (Nat.le_of_ble_eq_true rfl) (by decide) (by decide) (Nat.le_of_ble_eq_true rfl) (c_in (to : Int) 1 24) k9) ?_
  refine qy2 (fun _ _ => z_ifneB 25 d_X12_mends_20 (by decide)) (fun hc2 => ?_) (fun hc2 => absurd hc2 (by omega))
  refine qy (fun _ _ k9 => z_iconst d_X12_mends_25 (by decide) k9) ?_
  refine qy (fun _ _ k9 => z_istore_n (ls' := [qR m, qI i, qI (to : Int), qI 0, qU]) d_X12_mends_26 rfl (by decide) rfl k9) ?_
  refine qy (fun _ _ k9 => z_iconst d_X12_mends_27 (by decide) k9) ?_
  refine qy (fun _ _ k9 => z_istore (ls' := [qR m, qI i, qI (to : Int), qI 0, qI 0]) d_X12_mends_28 (by decide) rfl k9) ?_
  refine qy (fun _ _ k9 => z_eq (qc rfl (qc rfl (qc rfl (qc (qi (bst_add0)) (qc (qi (by omega)) rfl))))) rfl rfl k9) (y_wh2 (fun (j : Nat) (x : Nat → Nat → Int) => 9 - j) (fun (j : Nat) (x : Nat → Nat → Int) => [qR m, qI i, qI (to : Int), qI (bst (fun k : Nat => k < j ∧ fbR (mendT g i k) to = -1)), qI (j : Int)]) (fun (j : Nat) (x : Nat → Nat → Int) => (rput h m f x)) (fun (j : Nat) (x : Nat → Nat → Int) => j ≤ 9 ∧ sq g x) 0 g (⟨by omega, sq_rf⟩) (fun j x hp kk => ?_))
  obtain ⟨hj, hs⟩ := hp
  show qEy M_X12_mends 30 [qR m, qI i, qI (to : Int), qI (bst (fun k : Nat => k < j ∧ fbR (mendT g i k) to = -1)), qI (j : Int)] [] (rput h m f x) Q
  refine qy (fun _ _ k9 => z_iload d_X12_mends_30 rfl k9) ?_
  refine qy (fun _ _ k9 => z_bipush d_X12_mends_32 (by decide) k9) ?_
  refine qy2 (fun _ _ => z_icmp_gt 85 d_X12_mends_34 (by decide)) (fun hc3 => ?_) (fun hc3 => ?_)
  · refine qy (fun _ _ k9 => z_iload_n d_X12_mends_85 rfl rfl k9) ?_
    exact y_ret (hQ x hs) (z_iret d_X12_mends_86 rfl (qsi (by rw [show j = 9 by omega])) rfl)
  · refine qy (fun _ _ k9 => z_aload_n d_X12_mends_37 rfl rfl k9) ?_
    refine qy (fun _ _ k9 => z_aload_n d_X12_mends_38 rfl rfl k9) ?_
    refine qy (fun _ _ k9 => z_getf (v := qR (m + 2)) d_X12_mends_39 fl_X12_17 rput_o rfl k9) ?_
    refine qy (fun _ _ k9 => z_aload_n d_X12_mends_42 rfl rfl k9) ?_
    refine qy (fun _ _ k9 => z_getf (v := qR (m + 5)) d_X12_mends_43 fl_X12_26 rput_o rfl k9) ?_
    refine qy (fun _ _ k9 => z_bipush d_X12_mends_46 (by decide) k9) ?_
    refine qy (fun _ _ k9 => z_iconst d_X12_mends_48 (by decide) k9) ?_
    refine qy (fun _ _ k9 => z_iload_n d_X12_mends_49 rfl rfl k9) ?_
    refine qy (fun _ _ k9 => z_iload d_X12_mends_50 rfl k9) ?_
    refine qy (fun _ _ k9 => z_aload_n d_X12_mends_52 rfl rfl k9) ?_
    refine qy (fun _ _ k9 => z_getf (v := qR (m + 25)) d_X12_mends_53 fl_X12_86 rput_o rfl k9) ?_
    obtain ⟨y1, ⟨hlf, hlT, hlF⟩, hx1⟩ := y_laysBook (h := h) (f := f) (a := 2) (b := 5) (t := 25) 15 (-1) i (j : Int) (hs 2 (by decide) (by decide)) (hs 5 (by decide) (by decide)) hm (by decide) (by decide) (by decide) (by decide) (by decide) (by decide) (by decide) (by decide)
    refine qy (fun _ _ k9 => z_cv0 (M1 := M_X12_laysBook) d_X12_mends_56 lv_X12_271 k_X12_laysBook [qR (m + 2), qR (m + 5), qI 15, qI (-1), qI i, qI (j : Int), qR (m + 25)] rfl rfl rput_o ⟨_, _, rfl⟩ (Nat.le_of_ble_eq_true rfl) (by decide) (by decide) (Nat.le_of_ble_eq_true rfl) hx1 k9) ?_
    refine qy (fun _ _ k9 => z_iload_n d_X12_mends_59 rfl rfl k9) ?_
    have hB9 : ∀ c, c < 648 → 0 ≤ mendT g i j c ∧ mendT g i j c ≤ 7 := fun c hc => bkTc_bd hO (by omega) c hc
    refine qy (fun _ _ k9 => z_aload_n d_X12_mends_60 rfl rfl k9) ?_
    refine qy (fun _ _ k9 => z_iload_n d_X12_mends_61 rfl rfl k9) ?_
    obtain ⟨y2, hff, hx2⟩ := y_firstBad (h := h) (f := f) (to := to) (mendT g i j) hm (by omega) hlT hB9
    refine qy (fun _ _ k9 => z_cv (M1 := M_X12_firstBad) d_X12_mends_62 lv_X12_354 k_X12_firstBad [qI (to : Int)] rfl rfl rput_o ⟨_, _, rfl⟩ (Nat.le_of_ble_eq_true rfl) (by decide) (by decide) (Nat.le_of_ble_eq_true rfl) hx2 k9) ?_
    refine qy (fun _ _ k9 => z_iconst d_X12_mends_65 (by decide) k9) ?_
    suffices kJ66 : qEy M_X12_mends 77 [qR m, qI i, qI (to : Int), qI (bst (fun k : Nat => k < j ∧ fbR (mendT g i k) to = -1)), qI (j : Int)] [qI (qif ((fbR (mendT g i j) to) ≠ (-1)) 0 (qShl 1 (j : Int))), qI (bst (fun k : Nat => k < j ∧ fbR (mendT g i k) to = -1))] (rput h m f y2) Q by
      refine qy2 (fun _ _ => z_icmp_ne 76 d_X12_mends_66 (by decide)) (fun hc4 => ?_) (fun hc4 => ?_)
      · refine qy (fun _ _ k9 => z_iconst d_X12_mends_76 (by decide) k9) ?_
        exact qy (fun _ _ k9 => z_eq rfl (qc (qi (qif_t hc4).symm) (qc rfl rfl)) rfl k9) kJ66
      · refine qy (fun _ _ k9 => z_iconst d_X12_mends_69 (by decide) k9) ?_
        refine qy (fun _ _ k9 => z_iload d_X12_mends_70 rfl k9) ?_
        refine qy (fun _ _ k9 => z_ishl d_X12_mends_72 k9) ?_
        refine qy (fun _ _ k9 => z_goto 77 d_X12_mends_73 (by decide) k9) ?_
        exact qy (fun _ _ k9 => z_eq rfl (qc (qi (qif_f hc4).symm) (qc rfl rfl)) rfl k9) kJ66
    refine qy (fun _ _ k9 => z_ior d_X12_mends_77 k9) ?_
    refine qy (fun _ _ k9 => z_istore_n (ls' := [qR m, qI i, qI (to : Int), qI (qOr (bst (fun k : Nat => k < j ∧ fbR (mendT g i k) to = -1)) (qif ((fbR (mendT g i j) to) ≠ (-1)) 0 (qShl 1 (j : Int)))), qI (j : Int)]) d_X12_mends_78 rfl (by decide) rfl k9) ?_
    refine qy (fun _ _ k9 => z_iinc (ls' := [qR m, qI i, qI (to : Int), qI (qOr (bst (fun k : Nat => k < j ∧ fbR (mendT g i k) to = -1)) (qif ((fbR (mendT g i j) to) ≠ (-1)) 0 (qShl 1 (j : Int)))), qI ((j : Int) + 1)]) d_X12_mends_79 rfl (by decide) (by omega) rfl k9) ?_
    refine qy (fun _ _ k9 => z_goto 30 d_X12_mends_82 (by decide) k9) ?_
    exact qy (fun _ _ k9 => z_eq (qc rfl (qc rfl (qc rfl (qc (qi (bst_add (p := (fun k9 : Nat => fbR (mendT g i k9) to = -1)) (by omega))) (qc (qi (by omega)) rfl))))) rfl rfl k9) (kk (j + 1) y2 (⟨by omega, (sq_tr (sq_tr hs (sq_fr hlf (by decide))) (sq_fr hff (by decide)))⟩) (by omega))
noncomputable def pgT (g : Nat → Nat → Int) (pg : Int) : Nat → Int := bkTc (g 2) (g 5) pg (-1) (-1) 0
noncomputable def enF (g : Nat → Nat → Int) (to : Nat) : Nat → Int
  | 0 => -1
  | s + 1 => qif (enF g to s ≠ -1 ∧ on12 s ≥ on12 (enF g to s)) (enF g to s) (qif (fbR (pgT g s) to ≠ -1) (enF g to s) s)
set_option maxRecDepth 20000 in
set_option maxHeartbeats 1000000 in
theorem c_enough {h : qH} {m : Nat} {f : Nat → Int} {g : Nat → Nat → Int} {to : Nat} (hm : 2 ≤ m) (h0 : f 0 = 0) (ht : 1 ≤ to ∧ to ≤ 24) (hO : bkOk (g 2) (g 5)) : ∃ g', (sq g g') ∧ qEx M_X12_enough 0 [qR m, qI (to : Int), qU, qU] [] (rput h m f g) (some (qI (enF g to 16))) (rput h m f g') := by
  refine y_in (fun Q hQ => ?_)
  refine qy (fun _ _ k9 => z_aload_n d_X12_enough_0 rfl rfl k9) ?_
  refine qy (fun _ _ k9 => z_iconst d_X12_enough_1 (by decide) k9) ?_
  refine qy (fun _ _ k9 => z_putf (fs' := [qI 0, qI (f 1), qI (f 2), qI (f 3), qI (f 4), qI (f 5), qI (f 6), qI (f 7), qR (m + 1), qR (m + 2), qR (m + 3), qR (m + 4), qR (m + 5), qR (m + 6), qR (m + 7), qR (m + 8), qR (m + 9), qR (m + 10), qI (f 18), qI (f 19), qI (f 20), qR (m + 11), qR (m + 12), qR (m + 13), qR (m + 14), qI (f 25), qR (m + 15), qI (f 27), qR (m + 16), qR (m + 17), qR (m + 18), qR (m + 19), qR (m + 20), qR (m + 21), qR (m + 22), qR (m + 23), qR (m + 24), qI (f 37), qI (f 38), qI (f 39), qI (f 40), qR (m + 25), qR (m + 26), qR (m + 27), qR (m + 28), qR (m + 29), qR (m + 30), qR (m + 31), qI (f 48), qR (m + 32), qR (m + 33), qR (m + 34), qR (m + 35), qR (m + 36), qR (m + 37)]) d_X12_enough_2 fp_X12_127 rput_o (fun _ => rfl) (fun _ => rfl) (Nat.le_of_ble_eq_true rfl) rfl k9) ?_
  refine qy (fun _ _ k9 => z_eq rfl rfl ((rput_sf (f' := qup f 0 0) rfl).trans (rput_cg (qup_self h0) rfl)) k9) ?_
  refine qy (fun _ _ k9 => z_iload_n d_X12_enough_5 rfl rfl k9) ?_
  refine qy (fun _ _ k9 => z_iconst d_X12_enough_6 (by decide) k9) ?_
  refine qy (fun _ _ k9 => z_bipush d_X12_enough_7 (by decide) k9) ?_
  refine qy (fun _ _ k9 => z_cs (M1 := M_X12_in) d_X12_enough_9 ls_X12_137 k_X12_in [qI (to : Int), qI 1, qI 24] rfl rfl (Nat.le_of_ble_eq_true rfl) (by decide) (by decide) (Nat.le_of_ble_eq_true rfl) (c_in (to : Int) 1 24) k9) ?_
  refine qy2 (fun _ _ => z_ifneB 17 d_X12_enough_12 (by decide)) (fun hc1 => ?_) (fun hc1 => absurd hc1 (by omega))
  refine qy (fun _ _ k9 => z_iconst d_X12_enough_17 (by decide) k9) ?_
  refine qy (fun _ _ k9 => z_istore_n (ls' := [qR m, qI (to : Int), qI (-1), qU]) d_X12_enough_18 rfl (by decide) rfl k9) ?_
  refine qy (fun _ _ k9 => z_iconst d_X12_enough_19 (by decide) k9) ?_
  refine qy (fun _ _ k9 => z_istore_n (ls' := [qR m, qI (to : Int), qI (-1), qI 0]) d_X12_enough_20 rfl (by decide) rfl k9) ?_
  refine qy (fun _ _ k9 => z_eq (qc rfl (qc rfl (qc (qi (rfl)) (qc (qi (by omega)) rfl)))) rfl rfl k9) (y_wh2 (fun (j : Nat) (x : Nat → Nat → Int) => 16 - j) (fun (j : Nat) (x : Nat → Nat → Int) => [qR m, qI (to : Int), qI (enF g to j), qI (j : Int)]) (fun (j : Nat) (x : Nat → Nat → Int) => (rput h m f x)) (fun (j : Nat) (x : Nat → Nat → Int) => j ≤ 16 ∧ sq g x) 0 g (⟨by omega, sq_rf⟩) (fun j x hp kk => ?_))
  obtain ⟨hj, hs⟩ := hp
  show qEy M_X12_enough 21 [qR m, qI (to : Int), qI (enF g to j), qI (j : Int)] [] (rput h m f x) Q
  refine qy (fun _ _ k9 => z_iload_n d_X12_enough_21 rfl rfl k9) ?_
  refine qy (fun _ _ k9 => z_bipush d_X12_enough_22 (by decide) k9) ?_
  refine qy2 (fun _ _ => z_icmp_ge 87 d_X12_enough_24 (by decide)) (fun hc2 => ?_) (fun hc2 => ?_)
  · refine qy (fun _ _ k9 => z_iload_n d_X12_enough_87 rfl rfl k9) ?_
    exact y_ret (hQ x hs) (z_iret d_X12_enough_88 rfl (qsi (by rw [show j = 16 by omega])) rfl)
  · refine qy (fun _ _ k9 => z_iload_n d_X12_enough_27 rfl rfl k9) ?_
    refine qy (fun _ _ k9 => z_iconst d_X12_enough_28 (by decide) k9) ?_
    refine qy2 (fun _ _ => z_icmp_eq 46 d_X12_enough_29 (by decide)) (fun hc3 => ?_) (fun hc3 => ?_)
    · refine qy (fun _ _ k9 => z_aload_n d_X12_enough_46 rfl rfl k9) ?_
      refine qy (fun _ _ k9 => z_aload_n d_X12_enough_47 rfl rfl k9) ?_
      refine qy (fun _ _ k9 => z_getf (v := qR (m + 2)) d_X12_enough_48 fl_X12_17 rput_o rfl k9) ?_
      refine qy (fun _ _ k9 => z_aload_n d_X12_enough_51 rfl rfl k9) ?_
      refine qy (fun _ _ k9 => z_getf (v := qR (m + 5)) d_X12_enough_52 fl_X12_26 rput_o rfl k9) ?_
      refine qy (fun _ _ k9 => z_iload_n d_X12_enough_55 rfl rfl k9) ?_
      refine qy (fun _ _ k9 => z_iconst d_X12_enough_56 (by decide) k9) ?_
      refine qy (fun _ _ k9 => z_iconst d_X12_enough_57 (by decide) k9) ?_
      refine qy (fun _ _ k9 => z_iconst d_X12_enough_58 (by decide) k9) ?_
      refine qy (fun _ _ k9 => z_aload_n d_X12_enough_59 rfl rfl k9) ?_
      refine qy (fun _ _ k9 => z_getf (v := qR (m + 25)) d_X12_enough_60 fl_X12_86 rput_o rfl k9) ?_
      obtain ⟨y1, ⟨hlf, hlT, hlF⟩, hx1⟩ := y_laysBook (h := h) (f := f) (a := 2) (b := 5) (t := 25) (j : Int) (-1) (-1) 0 (hs 2 (by decide) (by decide)) (hs 5 (by decide) (by decide)) hm (by decide) (by decide) (by decide) (by decide) (by decide) (by decide) (by decide) (by decide)
      refine qy (fun _ _ k9 => z_cv0 (M1 := M_X12_laysBook) d_X12_enough_63 lv_X12_271 k_X12_laysBook [qR (m + 2), qR (m + 5), qI (j : Int), qI (-1), qI (-1), qI 0, qR (m + 25)] rfl rfl rput_o ⟨_, _, rfl⟩ (Nat.le_of_ble_eq_true rfl) (by decide) (by decide) (Nat.le_of_ble_eq_true rfl) hx1 k9) ?_
      have hB9 : ∀ c, c < 648 → 0 ≤ pgT g j c ∧ pgT g j c ≤ 7 := fun c hc => bkTc_bd hO (by omega) c hc
      refine qy (fun _ _ k9 => z_aload_n d_X12_enough_66 rfl rfl k9) ?_
      refine qy (fun _ _ k9 => z_iload_n d_X12_enough_67 rfl rfl k9) ?_
      obtain ⟨y2, hff, hx2⟩ := y_firstBad (h := h) (f := f) (to := to) (pgT g j) hm (by omega) hlT hB9
      refine qy (fun _ _ k9 => z_cv (M1 := M_X12_firstBad) d_X12_enough_68 lv_X12_354 k_X12_firstBad [qI (to : Int)] rfl rfl rput_o ⟨_, _, rfl⟩ (Nat.le_of_ble_eq_true rfl) (by decide) (by decide) (Nat.le_of_ble_eq_true rfl) hx2 k9) ?_
      refine qy (fun _ _ k9 => z_iconst d_X12_enough_71 (by decide) k9) ?_
      refine qy2 (fun _ _ => z_icmp_ne 79 d_X12_enough_72 (by decide)) (fun hc4 => ?_) (fun hc4 => ?_)
      · refine qy (fun _ _ k9 => z_iload_n d_X12_enough_79 rfl rfl k9) ?_
        refine qy (fun _ _ k9 => z_istore_n (ls' := [qR m, qI (to : Int), qI (enF g to j), qI (j : Int)]) d_X12_enough_80 rfl (by decide) rfl k9) ?_
        refine qy (fun _ _ k9 => z_iinc (ls' := [qR m, qI (to : Int), qI (enF g to j), qI ((j : Int) + 1)]) d_X12_enough_81 rfl (by decide) (by omega) rfl k9) ?_
        refine qy (fun _ _ k9 => z_goto 21 d_X12_enough_84 (by decide) k9) ?_
        exact qy (fun _ _ k9 => z_eq (qc rfl (qc rfl (qc (qi (by show _ = qif (enF g to j ≠ -1 ∧ on12 j ≥ on12 (enF g to j)) _ _; unfold on12; repeat first | rw [qif_t (by first | assumption | omega)] | rw [qif_f (by first | assumption | omega)])) (qc (qi (by omega)) rfl)))) rfl rfl k9) (kk (j + 1) y2 (⟨by omega, (sq_tr (sq_tr hs (sq_fr hlf (by decide))) (sq_fr hff (by decide)))⟩) (by omega))
      · refine qy (fun _ _ k9 => z_iload_n d_X12_enough_75 rfl rfl k9) ?_
        refine qy (fun _ _ k9 => z_goto 80 d_X12_enough_76 (by decide) k9) ?_
        refine qy (fun _ _ k9 => z_istore_n (ls' := [qR m, qI (to : Int), qI (j : Int), qI (j : Int)]) d_X12_enough_80 rfl (by decide) rfl k9) ?_
        refine qy (fun _ _ k9 => z_iinc (ls' := [qR m, qI (to : Int), qI (j : Int), qI ((j : Int) + 1)]) d_X12_enough_81 rfl (by decide) (by omega) rfl k9) ?_
        refine qy (fun _ _ k9 => z_goto 21 d_X12_enough_84 (by decide) k9) ?_
        exact qy (fun _ _ k9 => z_eq (qc rfl (qc rfl (qc (qi (by show _ = qif (enF g to j ≠ -1 ∧ on12 j ≥ on12 (enF g to j)) _ _; unfold on12; repeat first | rw [qif_t (by first | assumption | omega)] | rw [qif_f (by first | assumption | omega)])) (qc (qi (by omega)) rfl)))) rfl rfl k9) (kk (j + 1) y2 (⟨by omega, (sq_tr (sq_tr hs (sq_fr hlf (by decide))) (sq_fr hff (by decide)))⟩) (by omega))
    · refine qy (fun _ _ k9 => z_iload_n d_X12_enough_32 rfl rfl k9) ?_
      refine qy (fun _ _ k9 => z_cs (M1 := M_X12_ones) d_X12_enough_33 ls_X12_411 k_X12_ones [qI (j : Int)] rfl rfl (Nat.le_of_ble_eq_true rfl) (by decide) (by decide) (Nat.le_of_ble_eq_true rfl) (c_ones (j : Int)) k9) ?_
      refine qy (fun _ _ k9 => z_iload_n d_X12_enough_36 rfl rfl k9) ?_
      refine qy (fun _ _ k9 => z_cs (M1 := M_X12_ones) d_X12_enough_37 ls_X12_411 k_X12_ones [qI (enF g to j)] rfl rfl (Nat.le_of_ble_eq_true rfl) (by decide) (by decide) (Nat.le_of_ble_eq_true rfl) (c_ones (enF g to j)) k9) ?_
      refine qy2 (fun _ _ => z_icmp_lt 46 d_X12_enough_40 (by decide)) (fun hc5 => ?_) (fun hc5 => ?_)
      · refine qy (fun _ _ k9 => z_aload_n d_X12_enough_46 rfl rfl k9) ?_
        refine qy (fun _ _ k9 => z_aload_n d_X12_enough_47 rfl rfl k9) ?_
        refine qy (fun _ _ k9 => z_getf (v := qR (m + 2)) d_X12_enough_48 fl_X12_17 rput_o rfl k9) ?_
        refine qy (fun _ _ k9 => z_aload_n d_X12_enough_51 rfl rfl k9) ?_
        refine qy (fun _ _ k9 => z_getf (v := qR (m + 5)) d_X12_enough_52 fl_X12_26 rput_o rfl k9) ?_
        refine qy (fun _ _ k9 => z_iload_n d_X12_enough_55 rfl rfl k9) ?_
        refine qy (fun _ _ k9 => z_iconst d_X12_enough_56 (by decide) k9) ?_
        refine qy (fun _ _ k9 => z_iconst d_X12_enough_57 (by decide) k9) ?_
        refine qy (fun _ _ k9 => z_iconst d_X12_enough_58 (by decide) k9) ?_
        refine qy (fun _ _ k9 => z_aload_n d_X12_enough_59 rfl rfl k9) ?_
        refine qy (fun _ _ k9 => z_getf (v := qR (m + 25)) d_X12_enough_60 fl_X12_86 rput_o rfl k9) ?_
        obtain ⟨y3, ⟨hlf, hlT, hlF⟩, hx3⟩ := y_laysBook (h := h) (f := f) (a := 2) (b := 5) (t := 25) (j : Int) (-1) (-1) 0 (hs 2 (by decide) (by decide)) (hs 5 (by decide) (by decide)) hm (by decide) (by decide) (by decide) (by decide) (by decide) (by decide) (by decide) (by decide)
        refine qy (fun _ _ k9 => z_cv0 (M1 := M_X12_laysBook) d_X12_enough_63 lv_X12_271 k_X12_laysBook [qR (m + 2), qR (m + 5), qI (j : Int), qI (-1), qI (-1), qI 0, qR (m + 25)] rfl rfl rput_o ⟨_, _, rfl⟩ (Nat.le_of_ble_eq_true rfl) (by decide) (by decide) (Nat.le_of_ble_eq_true rfl) hx3 k9) ?_
        have hB9 : ∀ c, c < 648 → 0 ≤ pgT g j c ∧ pgT g j c ≤ 7 := fun c hc => bkTc_bd hO (by omega) c hc
        refine qy (fun _ _ k9 => z_aload_n d_X12_enough_66 rfl rfl k9) ?_
        refine qy (fun _ _ k9 => z_iload_n d_X12_enough_67 rfl rfl k9) ?_
        obtain ⟨y4, hff, hx4⟩ := y_firstBad (h := h) (f := f) (to := to) (pgT g j) hm (by omega) hlT hB9
        refine qy (fun _ _ k9 => z_cv (M1 := M_X12_firstBad) d_X12_enough_68 lv_X12_354 k_X12_firstBad [qI (to : Int)] rfl rfl rput_o ⟨_, _, rfl⟩ (Nat.le_of_ble_eq_true rfl) (by decide) (by decide) (Nat.le_of_ble_eq_true rfl) hx4 k9) ?_
        refine qy (fun _ _ k9 => z_iconst d_X12_enough_71 (by decide) k9) ?_
        refine qy2 (fun _ _ => z_icmp_ne 79 d_X12_enough_72 (by decide)) (fun hc6 => ?_) (fun hc6 => ?_)
        · refine qy (fun _ _ k9 => z_iload_n d_X12_enough_79 rfl rfl k9) ?_
          refine qy (fun _ _ k9 => z_istore_n (ls' := [qR m, qI (to : Int), qI (enF g to j), qI (j : Int)]) d_X12_enough_80 rfl (by decide) rfl k9) ?_
          refine qy (fun _ _ k9 => z_iinc (ls' := [qR m, qI (to : Int), qI (enF g to j), qI ((j : Int) + 1)]) d_X12_enough_81 rfl (by decide) (by omega) rfl k9) ?_
          refine qy (fun _ _ k9 => z_goto 21 d_X12_enough_84 (by decide) k9) ?_
          exact qy (fun _ _ k9 => z_eq (qc rfl (qc rfl (qc (qi (by show _ = qif (enF g to j ≠ -1 ∧ on12 j ≥ on12 (enF g to j)) _ _; unfold on12; repeat first | rw [qif_t (by first | assumption | omega)] | rw [qif_f (by first | assumption | omega)])) (qc (qi (by omega)) rfl)))) rfl rfl k9) (kk (j + 1) y4 (⟨by omega, (sq_tr (sq_tr hs (sq_fr hlf (by decide))) (sq_fr hff (by decide)))⟩) (by omega))
        · refine qy (fun _ _ k9 => z_iload_n d_X12_enough_75 rfl rfl k9) ?_
          refine qy (fun _ _ k9 => z_goto 80 d_X12_enough_76 (by decide) k9) ?_
          refine qy (fun _ _ k9 => z_istore_n (ls' := [qR m, qI (to : Int), qI (j : Int), qI (j : Int)]) d_X12_enough_80 rfl (by decide) rfl k9) ?_
          refine qy (fun _ _ k9 => z_iinc (ls' := [qR m, qI (to : Int), qI (j : Int), qI ((j : Int) + 1)]) d_X12_enough_81 rfl (by decide) (by omega) rfl k9) ?_
          refine qy (fun _ _ k9 => z_goto 21 d_X12_enough_84 (by decide) k9) ?_
          exact qy (fun _ _ k9 => z_eq (qc rfl (qc rfl (qc (qi (by show _ = qif (enF g to j ≠ -1 ∧ on12 j ≥ on12 (enF g to j)) _ _; unfold on12; repeat first | rw [qif_t (by first | assumption | omega)] | rw [qif_f (by first | assumption | omega)])) (qc (qi (by omega)) rfl)))) rfl rfl k9) (kk (j + 1) y4 (⟨by omega, (sq_tr (sq_tr hs (sq_fr hlf (by decide))) (sq_fr hff (by decide)))⟩) (by omega))
      · refine qy (fun _ _ k9 => z_goto 81 d_X12_enough_43 (by decide) k9) ?_
        refine qy (fun _ _ k9 => z_iinc (ls' := [qR m, qI (to : Int), qI (enF g to j), qI ((j : Int) + 1)]) d_X12_enough_81 rfl (by decide) (by omega) rfl k9) ?_
        refine qy (fun _ _ k9 => z_goto 21 d_X12_enough_84 (by decide) k9) ?_
        exact qy (fun _ _ k9 => z_eq (qc rfl (qc rfl (qc (qi (by show _ = qif (enF g to j ≠ -1 ∧ on12 j ≥ on12 (enF g to j)) _ _; unfold on12; repeat first | rw [qif_t (by first | assumption | omega)] | rw [qif_f (by first | assumption | omega)])) (qc (qi (by omega)) rfl)))) rfl rfl k9) (kk (j + 1) x (⟨by omega, hs⟩) (by omega))
set_option maxRecDepth 20000 in
set_option maxHeartbeats 4000000 in
theorem c_enough_no {h : qH} {m : Nat} {f : Nat → Int} {g : Nat → Nat → Int} (to : Int) (hm : 2 ≤ m) (h0 : f 0 = 0) (hno : ¬ (1 ≤ to ∧ to ≤ 24)) : qEx M_X12_enough 0 [qR m, qI to, qU, qU] [] (rput h m f g) (some (qI (-1))) (rput h m f g) := by
  refine q_gen (fun r hr er eh => ?_)
  refine z_aload_n d_X12_enough_0 rfl rfl ?_
  refine z_iconst d_X12_enough_1 (by decide) ?_
  refine z_putf (fs' := [qI 0, qI (f 1), qI (f 2), qI (f 3), qI (f 4), qI (f 5), qI (f 6), qI (f 7), qR (m + 1), qR (m + 2), qR (m + 3), qR (m + 4), qR (m + 5), qR (m + 6), qR (m + 7), qR (m + 8), qR (m + 9), qR (m + 10), qI (f 18), qI (f 19), qI (f 20), qR (m + 11), qR (m + 12), qR (m + 13), qR (m + 14), qI (f 25), qR (m + 15), qI (f 27), qR (m + 16), qR (m + 17), qR (m + 18), qR (m + 19), qR (m + 20), qR (m + 21), qR (m + 22), qR (m + 23), qR (m + 24), qI (f 37), qI (f 38), qI (f 39), qI (f 40), qR (m + 25), qR (m + 26), qR (m + 27), qR (m + 28), qR (m + 29), qR (m + 30), qR (m + 31), qI (f 48), qR (m + 32), qR (m + 33), qR (m + 34), qR (m + 35), qR (m + 36), qR (m + 37)]) d_X12_enough_2 fp_X12_127 rput_o (fun _ => rfl) (fun _ => rfl) (Nat.le_of_ble_eq_true rfl) rfl ?_
  refine z_eq rfl rfl ((rput_sf (f' := qup f 0 0) rfl).trans (rput_cg (qup_self h0) rfl)) ?_
  refine z_iload_n d_X12_enough_5 rfl rfl ?_
  refine z_iconst d_X12_enough_6 (by decide) ?_
  refine z_bipush d_X12_enough_7 (by decide) ?_
  refine z_cs (M1 := M_X12_in) d_X12_enough_9 ls_X12_137 k_X12_in [qI to, qI 1, qI 24] rfl rfl (Nat.le_of_ble_eq_true rfl) (by decide) (by decide) (Nat.le_of_ble_eq_true rfl) (c_in to 1 24) ?_
  refine z_ifneB 17 d_X12_enough_12 (by decide) (fun hc1 => ?_) (fun hc1 => ?_)
  · exact absurd (by omega) hno
  · refine z_iconst d_X12_enough_15 (by decide) ?_
    exact z_iret d_X12_enough_16 rfl er eh
