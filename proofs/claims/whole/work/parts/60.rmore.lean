/-! ===== CONTRACTS: the reference: unlike, more ===== -/
/-- a case as a number of three digits -/
def c3 (c : Nat) : Int := 100 * ((c / 81 : Nat) : Int) + 10 * ((c / 9 % 9 : Nat) : Int) + ((c % 9 : Nat) : Int)
def ulP (g : Nat → Nat → Int) (p q : Int) (c : Nat) : Prop := pgT g (qShl 1 p) c ≠ pgT g (qShl 1 q) c
noncomputable def ulE (z : Int) : Int := qif (z = -1) (-1) (c3 z.toNat)
set_option maxRecDepth 20000 in
set_option maxHeartbeats 1000000 in
theorem c_unlike {h : qH} {m : Nat} {f : Nat → Int} {g : Nat → Nat → Int} (p q what : Int) (hm : 2 ≤ m) (h0 : f 0 = 0) (hp3 : 0 ≤ p ∧ p ≤ 3) (hq3 : 0 ≤ q ∧ q ≤ 3) (hw : 0 ≤ what ∧ what ≤ 1) : ∃ g', (sq g g') ∧ qEx M_X12_unlike 0 [qR m, qI p, qI q, qI what, qU, qU, qU] [] (rput h m f g) (some (qI (qif (what ≠ 0) (ulE (fst (ulP g p q) 567)) (cnt (ulP g p q) 567)))) (rput h m f g') := by
  refine y_in (fun Q hQ => ?_)
  refine qy (fun _ _ k9 => z_aload_n d_X12_unlike_0 rfl rfl k9) ?_
  refine qy (fun _ _ k9 => z_iconst d_X12_unlike_1 (by decide) k9) ?_
  refine qy (fun _ _ k9 => z_putf (fs' := [qI 0, qI (f 1), qI (f 2), qI (f 3), qI (f 4), qI (f 5), qI (f 6), qI (f 7), qR (m + 1), qR (m + 2), qR (m + 3), qR (m + 4), qR (m + 5), qR (m + 6), qR (m + 7), qR (m + 8), qR (m + 9), qR (m + 10), qI (f 18), qI (f 19), qI (f 20), qR (m + 11), qR (m + 12), qR (m + 13), qR (m + 14), qI (f 25), qR (m + 15), qI (f 27), qR (m + 16), qR (m + 17), qR (m + 18), qR (m + 19), qR (m + 20), qR (m + 21), qR (m + 22), qR (m + 23), qR (m + 24), qI (f 37), qI (f 38), qI (f 39), qI (f 40), qR (m + 25), qR (m + 26), qR (m + 27), qR (m + 28), qR (m + 29), qR (m + 30), qR (m + 31), qI (f 48), qR (m + 32), qR (m + 33), qR (m + 34), qR (m + 35), qR (m + 36), qR (m + 37)]) d_X12_unlike_2 fp_X12_127 rput_o (fun _ => rfl) (fun _ => rfl) (Nat.le_of_ble_eq_true rfl) rfl k9) ?_
  refine qy (fun _ _ k9 => z_eq rfl rfl ((rput_sf (f' := qup f 0 0) rfl).trans (rput_cg (qup_self h0) rfl)) k9) ?_
  refine qy (fun _ _ k9 => z_iload_n d_X12_unlike_5 rfl rfl k9) ?_
  refine qy (fun _ _ k9 => z_iconst d_X12_unlike_6 (by decide) k9) ?_
  refine qy (fun _ _ k9 => z_iconst d_X12_unlike_7 (by decide) k9) ?_
  refine qy (fun _ _ k9 => z_cs (M1 := M_X12_in) d_X12_unlike_8 ls_X12_137 k_X12_in [qI p, qI 0, qI 3] rfl rfl (Nat.le_of_ble_eq_true rfl) (by decide) (by decide) (Nat.le_of_ble_eq_true rfl) (c_in p 0 3) k9) ?_
  refine qy2n (fun _ _ => z_ifeqB 32 d_X12_unlike_11 (by decide)) (fun hc1 => absurd hc1 (by omega)) (fun hc1 => ?_)
  refine qy (fun _ _ k9 => z_iload_n d_X12_unlike_14 rfl rfl k9) ?_
  refine qy (fun _ _ k9 => z_iconst d_X12_unlike_15 (by decide) k9) ?_
  refine qy (fun _ _ k9 => z_iconst d_X12_unlike_16 (by decide) k9) ?_
  refine qy (fun _ _ k9 => z_cs (M1 := M_X12_in) d_X12_unlike_17 ls_X12_137 k_X12_in [qI q, qI 0, qI 3] rfl rfl (Nat.le_of_ble_eq_true rfl) (by decide) (by decide) (Nat.le_of_ble_eq_true rfl) (c_in q 0 3) k9) ?_
  refine qy2n (fun _ _ => z_ifeqB 32 d_X12_unlike_20 (by decide)) (fun hc2 => absurd hc2 (by omega)) (fun hc2 => ?_)
  refine qy (fun _ _ k9 => z_iload_n d_X12_unlike_23 rfl rfl k9) ?_
  refine qy (fun _ _ k9 => z_iconst d_X12_unlike_24 (by decide) k9) ?_
  refine qy (fun _ _ k9 => z_iconst d_X12_unlike_25 (by decide) k9) ?_
  refine qy (fun _ _ k9 => z_cs (M1 := M_X12_in) d_X12_unlike_26 ls_X12_137 k_X12_in [qI what, qI 0, qI 1] rfl rfl (Nat.le_of_ble_eq_true rfl) (by decide) (by decide) (Nat.le_of_ble_eq_true rfl) (c_in what 0 1) k9) ?_
  refine qy2 (fun _ _ => z_ifneB 34 d_X12_unlike_29 (by decide)) (fun hc3 => ?_) (fun hc3 => absurd hc3 (by omega))
  refine qy (fun _ _ k9 => z_aload_n d_X12_unlike_34 rfl rfl k9) ?_
  refine qy (fun _ _ k9 => z_aload_n d_X12_unlike_35 rfl rfl k9) ?_
  refine qy (fun _ _ k9 => z_getf (v := qR (m + 2)) d_X12_unlike_36 fl_X12_17 rput_o rfl k9) ?_
  refine qy (fun _ _ k9 => z_aload_n d_X12_unlike_39 rfl rfl k9) ?_
  refine qy (fun _ _ k9 => z_getf (v := qR (m + 5)) d_X12_unlike_40 fl_X12_26 rput_o rfl k9) ?_
  refine qy (fun _ _ k9 => z_iconst d_X12_unlike_43 (by decide) k9) ?_
  refine qy (fun _ _ k9 => z_iload_n d_X12_unlike_44 rfl rfl k9) ?_
  refine qy (fun _ _ k9 => z_ishl d_X12_unlike_45 k9) ?_
  refine qy (fun _ _ k9 => z_iconst d_X12_unlike_46 (by decide) k9) ?_
  refine qy (fun _ _ k9 => z_iconst d_X12_unlike_47 (by decide) k9) ?_
  refine qy (fun _ _ k9 => z_iconst d_X12_unlike_48 (by decide) k9) ?_
  refine qy (fun _ _ k9 => z_aload_n d_X12_unlike_49 rfl rfl k9) ?_
  refine qy (fun _ _ k9 => z_getf (v := qR (m + 25)) d_X12_unlike_50 fl_X12_86 rput_o rfl k9) ?_
  obtain ⟨y1, ⟨hlf, hlT, hlF⟩, hx1⟩ := y_laysBook (h := h) (f := f) (a := 2) (b := 5) (t := 25) (qShl 1 p) (-1) (-1) 0 rfl rfl hm (by decide) (by decide) (by decide) (by decide) (by decide) (by decide) (by decide) (by decide)
  refine qy (fun _ _ k9 => z_cv0 (M1 := M_X12_laysBook) d_X12_unlike_53 lv_X12_271 k_X12_laysBook [qR (m + 2), qR (m + 5), qI (qShl 1 p), qI (-1), qI (-1), qI 0, qR (m + 25)] rfl rfl rput_o ⟨_, _, rfl⟩ (Nat.le_of_ble_eq_true rfl) (by decide) (by decide) (Nat.le_of_ble_eq_true rfl) hx1 k9) ?_
  refine qy (fun _ _ k9 => z_aload_n d_X12_unlike_56 rfl rfl k9) ?_
  refine qy (fun _ _ k9 => z_aload_n d_X12_unlike_57 rfl rfl k9) ?_
  refine qy (fun _ _ k9 => z_getf (v := qR (m + 2)) d_X12_unlike_58 fl_X12_17 rput_o rfl k9) ?_
  refine qy (fun _ _ k9 => z_aload_n d_X12_unlike_61 rfl rfl k9) ?_
  refine qy (fun _ _ k9 => z_getf (v := qR (m + 5)) d_X12_unlike_62 fl_X12_26 rput_o rfl k9) ?_
  refine qy (fun _ _ k9 => z_iconst d_X12_unlike_65 (by decide) k9) ?_
  refine qy (fun _ _ k9 => z_iload_n d_X12_unlike_66 rfl rfl k9) ?_
  refine qy (fun _ _ k9 => z_ishl d_X12_unlike_67 k9) ?_
  refine qy (fun _ _ k9 => z_iconst d_X12_unlike_68 (by decide) k9) ?_
  refine qy (fun _ _ k9 => z_iconst d_X12_unlike_69 (by decide) k9) ?_
  refine qy (fun _ _ k9 => z_iconst d_X12_unlike_70 (by decide) k9) ?_
  refine qy (fun _ _ k9 => z_aload_n d_X12_unlike_71 rfl rfl k9) ?_
  refine qy (fun _ _ k9 => z_getf (v := qR (m + 27)) d_X12_unlike_72 fl_X12_92 rput_o rfl k9) ?_
  obtain ⟨y2, ⟨hlf2, hlT2, hlF2⟩, hx2⟩ := y_laysBook (h := h) (f := f) (a := 2) (b := 5) (t := 27) (qShl 1 q) (-1) (-1) 0 (hlf 2 (by decide)) (hlf 5 (by decide)) hm (by decide) (by decide) (by decide) (by decide) (by decide) (by decide) (by decide) (by decide)
  refine qy (fun _ _ k9 => z_cv0 (M1 := M_X12_laysBook) d_X12_unlike_75 lv_X12_271 k_X12_laysBook [qR (m + 2), qR (m + 5), qI (qShl 1 q), qI (-1), qI (-1), qI 0, qR (m + 27)] rfl rfl rput_o ⟨_, _, rfl⟩ (Nat.le_of_ble_eq_true rfl) (by decide) (by decide) (Nat.le_of_ble_eq_true rfl) hx2 k9) ?_
  refine qy (fun _ _ k9 => z_iconst d_X12_unlike_78 (by decide) k9) ?_
  refine qy (fun _ _ k9 => z_istore (ls' := [qR m, qI p, qI q, qI what, qI 0, qU, qU]) d_X12_unlike_79 (by decide) rfl k9) ?_
  refine qy (fun _ _ k9 => z_iconst d_X12_unlike_81 (by decide) k9) ?_
  refine qy (fun _ _ k9 => z_istore (ls' := [qR m, qI p, qI q, qI what, qI 0, qI (-1), qU]) d_X12_unlike_82 (by decide) rfl k9) ?_
  refine qy (fun _ _ k9 => z_bipush d_X12_unlike_84 (by decide) k9) ?_
  refine qy (fun _ _ k9 => z_iconst d_X12_unlike_86 (by decide) k9) ?_
  refine qy (fun _ _ k9 => z_iconst d_X12_unlike_87 (by decide) k9) ?_
  refine qy (fun _ _ k9 => z_cs (M1 := M_X12_caseOf) d_X12_unlike_88 ls_X12_263 k_X12_caseOf [qI 7, qI 0, qI 0] rfl rfl (Nat.le_of_ble_eq_true rfl) (by decide) (by decide) (Nat.le_of_ble_eq_true rfl) (c_caseOf2 7 0 0 (by omega) (by omega) (by omega)) k9) ?_
  refine qy (fun _ _ k9 => z_iconst d_X12_unlike_91 (by decide) k9) ?_
  refine qy (fun _ _ k9 => z_isub d_X12_unlike_92 (by omega) k9) ?_
  refine qy (fun _ _ k9 => z_eq rfl (qc (qi (show ((81 * 7 + 9 * 0 + 0) - 1) = 566 from by decide)) rfl) rfl k9) ?_
  refine qy (fun _ _ k9 => z_istore (ls' := [qR m, qI p, qI q, qI what, qI 0, qI (-1), qI 566]) d_X12_unlike_93 (by decide) rfl k9) ?_
  have hA : ∀ c, c < 648 → y2 25 c = pgT g (qShl 1 p) c := fr_at hlf2 25 (by decide) hlT
  have hB : ∀ c, c < 648 → y2 27 c = pgT g (qShl 1 q) c := hlT2
  refine qy (fun _ _ k9 => z_eq (qc rfl (qc rfl (qc rfl (qc rfl (qc (qi (by show (0 : Int) = cnt _ 567 - cnt _ 567; omega)) (qc (qi (by show (-1 : Int) = ulE (-1); unfold ulE; rw [qif_t rfl])) (qc (qi (by omega)) rfl))))))) rfl rfl k9) (y_wh1 (fun (j : Nat) => 567 - j) (fun (j : Nat) => [qR m, qI p, qI q, qI what, qI (cnt (ulP g p q) 567 - cnt (ulP g p q) (567 - j)), qI (ulE (fstF (ulP g p q) j (567 - j))), qI (566 - (j : Int))]) (fun (j : Nat) => (rput h m f y2)) (fun (j : Nat) => j ≤ 567) 0 (Nat.zero_le 567) (fun j hj kk => ?_))
  show qEy M_X12_unlike 95 [qR m, qI p, qI q, qI what, qI (cnt (ulP g p q) 567 - cnt (ulP g p q) (567 - j)), qI (ulE (fstF (ulP g p q) j (567 - j))), qI (566 - (j : Int))] [] (rput h m f y2) Q
  have hc1 := cnt_bd (ulP g p q) 567
  have hc2 := cnt_bd (ulP g p q) (567 - j)
  refine qy (fun _ _ k9 => z_iload d_X12_unlike_95 rfl k9) ?_
  refine qy2 (fun _ _ => z_if_lt 157 d_X12_unlike_97 (by decide)) (fun hc4 => ?_) (fun hc4 => ?_)
  · refine qy (fun _ _ k9 => z_iload_n d_X12_unlike_157 rfl rfl k9) ?_
    suffices kJ158 : qEy M_X12_unlike 168 [qR m, qI p, qI q, qI what, qI (cnt (ulP g p q) 567 - cnt (ulP g p q) (567 - j)), qI (ulE (fstF (ulP g p q) j (567 - j))), qI (566 - (j : Int))] [qI (qif (what ≠ 0) (ulE (fstF (ulP g p q) j (567 - j))) (cnt (ulP g p q) 567 - cnt (ulP g p q) (567 - j)))] (rput h m f y2) Q by
      refine qy2 (fun _ _ => z_if_ne 166 d_X12_unlike_158 (by decide)) (fun hc5 => ?_) (fun hc5 => ?_)
      · refine qy (fun _ _ k9 => z_iload d_X12_unlike_166 rfl k9) ?_
        exact qy (fun _ _ k9 => z_eq rfl (qc (qi (qif_t hc5).symm) rfl) rfl k9) kJ158
      · refine qy (fun _ _ k9 => z_iload d_X12_unlike_161 rfl k9) ?_
        refine qy (fun _ _ k9 => z_goto 168 d_X12_unlike_163 (by decide) k9) ?_
        exact qy (fun _ _ k9 => z_eq rfl (qc (qi (qif_f hc5).symm) rfl) rfl k9) kJ158
    exact y_ret (hQ y2 (sq_tr (sq_tr sq_rf (sq_fr hlf (by decide))) (sq_fr hlf2 (by decide)))) (z_iret d_X12_unlike_168 rfl (qsi (by rw [show j = 567 by omega]; exact qif_cg Iff.rfl rfl (by show cnt _ 567 = cnt _ 567 - 0; omega))) rfl)
  · refine qy (fun _ _ k9 => z_eq (qc rfl (qc rfl (qc rfl (qc rfl (qc rfl (qc rfl (qc (qi (show (566 - (j : Int)) = (((566 - j) : Nat) : Int) from by omega)) rfl))))))) rfl rfl k9) ?_
    refine qy (fun _ _ k9 => z_aload_n d_X12_unlike_100 rfl rfl k9) ?_
    refine qy (fun _ _ k9 => z_getf (v := qR (m + 25)) d_X12_unlike_101 fl_X12_86 rput_o rfl k9) ?_
    refine qy (fun _ _ k9 => z_iload d_X12_unlike_104 rfl k9) ?_
    refine qy (fun _ _ k9 => z_ild (566 - j) d_X12_unlike_106 (rput_a2 25 (t := 0) (n := 648) (F := (y2 25)) rfl rfl rfl (by decide) (by decide)) rfl (by omega) k9) ?_
    refine qy (fun _ _ k9 => z_eq rfl (qc (qi (show ((y2 25) (566 - j)) = (pgT g (qShl 1 p) (566 - j)) from hA _ (by omega))) rfl) rfl k9) ?_
    refine qy (fun _ _ k9 => z_aload_n d_X12_unlike_107 rfl rfl k9) ?_
    refine qy (fun _ _ k9 => z_getf (v := qR (m + 27)) d_X12_unlike_108 fl_X12_92 rput_o rfl k9) ?_
    refine qy (fun _ _ k9 => z_iload d_X12_unlike_111 rfl k9) ?_
    refine qy (fun _ _ k9 => z_ild (566 - j) d_X12_unlike_113 (rput_a2 27 (t := 0) (n := 648) (F := (y2 27)) rfl rfl rfl (by decide) (by decide)) rfl (by omega) k9) ?_
    refine qy (fun _ _ k9 => z_eq rfl (qc (qi (show ((y2 27) (566 - j)) = (pgT g (qShl 1 q) (566 - j)) from hB _ (by omega))) rfl) rfl k9) ?_
    refine qy2 (fun _ _ => z_icmp_ne 120 d_X12_unlike_114 (by decide)) (fun hu9 => ?_) (fun hu9 => ?_)
    · refine qy (fun _ _ k9 => z_iinc (ls' := [qR m, qI p, qI q, qI what, qI ((cnt (ulP g p q) 567 - cnt (ulP g p q) (567 - j)) + 1), qI (ulE (fstF (ulP g p q) j (567 - j))), qI (((566 - j) : Nat) : Int)]) d_X12_unlike_120 rfl (by decide) (by omega) rfl k9) ?_
      refine qy (fun _ _ k9 => z_bipush d_X12_unlike_123 (by decide) k9) ?_
      refine qy (fun _ _ k9 => z_iload d_X12_unlike_125 rfl k9) ?_
      refine qy (fun _ _ k9 => z_bipush d_X12_unlike_127 (by decide) k9) ?_
      refine qy (fun _ _ k9 => z_idiv d_X12_unlike_129 (by omega) k9) ?_
      refine qy (fun _ _ k9 => z_eq rfl (qc (qi (by rw [Int.tdiv_eq_ediv_of_nonneg (by omega)] <;> omega)) rfl) rfl k9) ?_
      refine qy (fun _ _ k9 => z_imul d_X12_unlike_130 (by omega) k9) ?_
      refine qy (fun _ _ k9 => z_bipush d_X12_unlike_131 (by decide) k9) ?_
      refine qy (fun _ _ k9 => z_iload d_X12_unlike_133 rfl k9) ?_
      refine qy (fun _ _ k9 => z_bipush d_X12_unlike_135 (by decide) k9) ?_
      refine qy (fun _ _ k9 => z_idiv d_X12_unlike_137 (by omega) k9) ?_
      refine qy (fun _ _ k9 => z_eq rfl (qc (qi (by rw [Int.tdiv_eq_ediv_of_nonneg (by omega)] <;> omega)) rfl) rfl k9) ?_
      refine qy (fun _ _ k9 => z_bipush d_X12_unlike_138 (by decide) k9) ?_
      refine qy (fun _ _ k9 => z_irem d_X12_unlike_140 (by omega) k9) ?_
      refine qy (fun _ _ k9 => z_eq rfl (qc (qi (by rw [Int.tmod_eq_emod_of_nonneg (by omega)] <;> omega)) rfl) rfl k9) ?_
      refine qy (fun _ _ k9 => z_imul d_X12_unlike_141 (by omega) k9) ?_
      refine qy (fun _ _ k9 => z_iadd d_X12_unlike_142 (by omega) k9) ?_
      refine qy (fun _ _ k9 => z_iload d_X12_unlike_143 rfl k9) ?_
      refine qy (fun _ _ k9 => z_bipush d_X12_unlike_145 (by decide) k9) ?_
      refine qy (fun _ _ k9 => z_irem d_X12_unlike_147 (by omega) k9) ?_
      refine qy (fun _ _ k9 => z_eq rfl (qc (qi (by rw [Int.tmod_eq_emod_of_nonneg (by omega)] <;> omega)) rfl) rfl k9) ?_
      refine qy (fun _ _ k9 => z_iadd d_X12_unlike_148 (by omega) k9) ?_
      refine qy (fun _ _ k9 => z_istore (ls' := [qR m, qI p, qI q, qI what, qI ((cnt (ulP g p q) 567 - cnt (ulP g p q) (567 - j)) + 1), qI (((100 * ((((566 - j) / 81) : Nat) : Int)) + (10 * (((((566 - j) / 9) % 9) : Nat) : Int))) + ((((566 - j) % 9) : Nat) : Int)), qI (((566 - j) : Nat) : Int)]) d_X12_unlike_149 (by decide) rfl k9) ?_
      refine qy (fun _ _ k9 => z_iinc (ls' := [qR m, qI p, qI q, qI what, qI ((cnt (ulP g p q) 567 - cnt (ulP g p q) (567 - j)) + 1), qI (((100 * ((((566 - j) / 81) : Nat) : Int)) + (10 * (((((566 - j) / 9) % 9) : Nat) : Int))) + ((((566 - j) % 9) : Nat) : Int)), qI ((((566 - j) : Nat) : Int) + (-1))]) d_X12_unlike_151 rfl (by decide) (by omega) rfl k9) ?_
      refine qy (fun _ _ k9 => z_goto 95 d_X12_unlike_154 (by decide) k9) ?_
      exact qy (fun _ _ k9 => z_eq (qc rfl (qc rfl (qc rfl (qc rfl (qc (qi (by rw [show 567 - j = 566 - j + 1 by omega, show 567 - (j + 1) = 566 - j by omega, show cnt (ulP g p q) (566 - j + 1) = cnt (ulP g p q) (566 - j) + qb ((ulP g p q) (566 - j)) from rfl]; first | (rw [qb_t (show (ulP g p q) (566 - j) from hu9)]; omega) | (rw [qb_f (show ¬ (ulP g p q) (566 - j) from hu9)]; omega))) (qc (qi (by rw [show 567 - (j + 1) = 566 - j by omega, fstF_s]; first | (rw [qif_t (show (ulP g p q) (566 - j) from hu9)]; unfold ulE; rw [qif_f (by omega), Int.toNat_natCast]; rfl) | rw [qif_f (show ¬ (ulP g p q) (566 - j) from hu9), show 566 - j + 1 = 567 - j by omega])) (qc (qi (by omega)) rfl))))))) rfl rfl k9) (kk (j + 1) (by omega) (by omega))
    · refine qy (fun _ _ k9 => z_goto 151 d_X12_unlike_117 (by decide) k9) ?_
      refine qy (fun _ _ k9 => z_iinc (ls' := [qR m, qI p, qI q, qI what, qI (cnt (ulP g p q) 567 - cnt (ulP g p q) (567 - j)), qI (ulE (fstF (ulP g p q) j (567 - j))), qI ((((566 - j) : Nat) : Int) + (-1))]) d_X12_unlike_151 rfl (by decide) (by omega) rfl k9) ?_
      refine qy (fun _ _ k9 => z_goto 95 d_X12_unlike_154 (by decide) k9) ?_
      exact qy (fun _ _ k9 => z_eq (qc rfl (qc rfl (qc rfl (qc rfl (qc (qi (by rw [show 567 - j = 566 - j + 1 by omega, show 567 - (j + 1) = 566 - j by omega, show cnt (ulP g p q) (566 - j + 1) = cnt (ulP g p q) (566 - j) + qb ((ulP g p q) (566 - j)) from rfl]; first | (rw [qb_t (show (ulP g p q) (566 - j) from hu9)]; omega) | (rw [qb_f (show ¬ (ulP g p q) (566 - j) from hu9)]; omega))) (qc (qi (by rw [show 567 - (j + 1) = 566 - j by omega, fstF_s]; first | (rw [qif_t (show (ulP g p q) (566 - j) from hu9)]; unfold ulE; rw [qif_f (by omega), Int.toNat_natCast]; rfl) | rw [qif_f (show ¬ (ulP g p q) (566 - j) from hu9), show 566 - j + 1 = 567 - j by omega])) (qc (qi (by omega)) rfl))))))) rfl rfl k9) (kk (j + 1) (by omega) (by omega))
set_option maxRecDepth 20000 in
set_option maxHeartbeats 4000000 in
theorem c_unlike_no {h : qH} {m : Nat} {f : Nat → Int} {g : Nat → Nat → Int} (p q what : Int) (hm : 2 ≤ m) (h0 : f 0 = 0) (hno : ¬ ((0 ≤ p ∧ p ≤ 3) ∧ (0 ≤ q ∧ q ≤ 3) ∧ 0 ≤ what ∧ what ≤ 1)) : qEx M_X12_unlike 0 [qR m, qI p, qI q, qI what, qU, qU, qU] [] (rput h m f g) (some (qI (-1))) (rput h m f g) := by
  refine q_gen (fun r hr er eh => ?_)
  refine z_aload_n d_X12_unlike_0 rfl rfl ?_
  refine z_iconst d_X12_unlike_1 (by decide) ?_
  refine z_putf (fs' := [qI 0, qI (f 1), qI (f 2), qI (f 3), qI (f 4), qI (f 5), qI (f 6), qI (f 7), qR (m + 1), qR (m + 2), qR (m + 3), qR (m + 4), qR (m + 5), qR (m + 6), qR (m + 7), qR (m + 8), qR (m + 9), qR (m + 10), qI (f 18), qI (f 19), qI (f 20), qR (m + 11), qR (m + 12), qR (m + 13), qR (m + 14), qI (f 25), qR (m + 15), qI (f 27), qR (m + 16), qR (m + 17), qR (m + 18), qR (m + 19), qR (m + 20), qR (m + 21), qR (m + 22), qR (m + 23), qR (m + 24), qI (f 37), qI (f 38), qI (f 39), qI (f 40), qR (m + 25), qR (m + 26), qR (m + 27), qR (m + 28), qR (m + 29), qR (m + 30), qR (m + 31), qI (f 48), qR (m + 32), qR (m + 33), qR (m + 34), qR (m + 35), qR (m + 36), qR (m + 37)]) d_X12_unlike_2 fp_X12_127 rput_o (fun _ => rfl) (fun _ => rfl) (Nat.le_of_ble_eq_true rfl) rfl ?_
  refine z_eq rfl rfl ((rput_sf (f' := qup f 0 0) rfl).trans (rput_cg (qup_self h0) rfl)) ?_
  refine z_iload_n d_X12_unlike_5 rfl rfl ?_
  refine z_iconst d_X12_unlike_6 (by decide) ?_
  refine z_iconst d_X12_unlike_7 (by decide) ?_
  refine z_cs (M1 := M_X12_in) d_X12_unlike_8 ls_X12_137 k_X12_in [qI p, qI 0, qI 3] rfl rfl (Nat.le_of_ble_eq_true rfl) (by decide) (by decide) (Nat.le_of_ble_eq_true rfl) (c_in p 0 3) ?_
  refine z_ifeqB 32 d_X12_unlike_11 (by decide) (fun hc1 => ?_) (fun hc1 => ?_)
  · refine z_iconst d_X12_unlike_32 (by decide) ?_
    exact z_iret d_X12_unlike_33 rfl er eh
  · refine z_iload_n d_X12_unlike_14 rfl rfl ?_
    refine z_iconst d_X12_unlike_15 (by decide) ?_
    refine z_iconst d_X12_unlike_16 (by decide) ?_
    refine z_cs (M1 := M_X12_in) d_X12_unlike_17 ls_X12_137 k_X12_in [qI q, qI 0, qI 3] rfl rfl (Nat.le_of_ble_eq_true rfl) (by decide) (by decide) (Nat.le_of_ble_eq_true rfl) (c_in q 0 3) ?_
    refine z_ifeqB 32 d_X12_unlike_20 (by decide) (fun hc2 => ?_) (fun hc2 => ?_)
    · refine z_iconst d_X12_unlike_32 (by decide) ?_
      exact z_iret d_X12_unlike_33 rfl er eh
    · refine z_iload_n d_X12_unlike_23 rfl rfl ?_
      refine z_iconst d_X12_unlike_24 (by decide) ?_
      refine z_iconst d_X12_unlike_25 (by decide) ?_
      refine z_cs (M1 := M_X12_in) d_X12_unlike_26 ls_X12_137 k_X12_in [qI what, qI 0, qI 1] rfl rfl (Nat.le_of_ble_eq_true rfl) (by decide) (by decide) (Nat.le_of_ble_eq_true rfl) (c_in what 0 1) ?_
      refine z_ifneB 34 d_X12_unlike_29 (by decide) (fun hc3 => ?_) (fun hc3 => ?_)
      · exact absurd (by omega) hno
      · refine z_iconst d_X12_unlike_32 (by decide) ?_
        exact z_iret d_X12_unlike_33 rfl er eh
/-- one rule more: the case k / 8 gets the MIND k % 8 -/
def moP (T : Nat → Int) (to k : Nat) : Prop := ((k % 8 : Nat) : Int) ≠ T (k / 8) ∧ fbR (qup T (k / 8) ((k % 8 : Nat) : Int)) to = -1
def moC (k : Nat) : Int := 1000 * ((k / 8 / 81 : Nat) : Int) + 100 * ((k / 8 / 9 % 9 : Nat) : Int) + 10 * ((k / 8 % 9 : Nat) : Int) + ((k % 8 : Nat) : Int)
noncomputable def moF (T : Nat → Int) (to : Nat) : Nat → Int
  | 0 => -1
  | k + 1 => qif (moP T to k ∧ cnt (moP T to) k = 0) (moC k) (moF T to k)
theorem qup_bd {T : Nat → Int} {c : Nat} {v : Int} (hB : ∀ c, c < 648 → 0 ≤ T c ∧ T c ≤ 7) (hv : 0 ≤ v ∧ v ≤ 7) : ∀ q, q < 648 → 0 ≤ qup T c v q ∧ qup T c v q ≤ 7 := fun q hq => if e : q = c then (by rw [e, qup_eq]; exact hv) else (by rw [qup_ne e]; exact hB q hq)
theorem qup_cgp {X T : Nat → Int} {c : Nat} {v : Int} (h : ∀ c, c < 648 → X c = T c) : ∀ q, q < 648 → qup X c v q = qup T c v q := fun q hq => if e : q = c then (by rw [e, qup_eq, qup_eq]) else (by rw [qup_ne e, qup_ne e]; exact h q hq)
theorem qup_back {X T : Nat → Int} {c : Nat} {v w : Int} (h : ∀ q, q < 648 → X q = qup T c v q) (hw : w = T c) : ∀ q, q < 648 → qup X c w q = T q := fun q hq => if e : q = c then (by rw [e, qup_eq, hw]) else (by rw [qup_ne e, h q hq, qup_ne e])
set_option maxRecDepth 20000 in
set_option maxHeartbeats 1000000 in
theorem c_more {h : qH} {m : Nat} {f : Nat → Int} {g : Nat → Nat → Int} {to : Nat} (what : Int) (hm : 2 ≤ m) (h0 : f 0 = 0) (ht : 1 ≤ to ∧ to ≤ 8) (hw : 0 ≤ what ∧ what ≤ 1) (hO : bkOk (g 2) (g 5)) : ∃ g', (sq g g') ∧ qEx M_X12_more 0 [qR m, qI (to : Int), qI what, qU, qU, qU, qU, qU, qU, qU] [] (rput h m f g) (some (qI (qif (what ≠ 0) (moF (ownT g) to 4536) (cnt (moP (ownT g) to) 4536)))) (rput h m f g') := by
  refine y_in (fun Q hQ => ?_)
  have hOB := ownT_bd hO
  refine qy (fun _ _ k9 => z_aload_n d_X12_more_0 rfl rfl k9) ?_
  refine qy (fun _ _ k9 => z_iconst d_X12_more_1 (by decide) k9) ?_
  refine qy (fun _ _ k9 => z_putf (fs' := [qI 0, qI (f 1), qI (f 2), qI (f 3), qI (f 4), qI (f 5), qI (f 6), qI (f 7), qR (m + 1), qR (m + 2), qR (m + 3), qR (m + 4), qR (m + 5), qR (m + 6), qR (m + 7), qR (m + 8), qR (m + 9), qR (m + 10), qI (f 18), qI (f 19), qI (f 20), qR (m + 11), qR (m + 12), qR (m + 13), qR (m + 14), qI (f 25), qR (m + 15), qI (f 27), qR (m + 16), qR (m + 17), qR (m + 18), qR (m + 19), qR (m + 20), qR (m + 21), qR (m + 22), qR (m + 23), qR (m + 24), qI (f 37), qI (f 38), qI (f 39), qI (f 40), qR (m + 25), qR (m + 26), qR (m + 27), qR (m + 28), qR (m + 29), qR (m + 30), qR (m + 31), qI (f 48), qR (m + 32), qR (m + 33), qR (m + 34), qR (m + 35), qR (m + 36), qR (m + 37)]) d_X12_more_2 fp_X12_127 rput_o (fun _ => rfl) (fun _ => rfl) (Nat.le_of_ble_eq_true rfl) rfl k9) ?_
  refine qy (fun _ _ k9 => z_eq rfl rfl ((rput_sf (f' := qup f 0 0) rfl).trans (rput_cg (qup_self h0) rfl)) k9) ?_
  refine qy (fun _ _ k9 => z_iload_n d_X12_more_5 rfl rfl k9) ?_
  refine qy (fun _ _ k9 => z_iconst d_X12_more_6 (by decide) k9) ?_
  refine qy (fun _ _ k9 => z_bipush d_X12_more_7 (by decide) k9) ?_
  refine qy (fun _ _ k9 => z_cs (M1 := M_X12_in) d_X12_more_9 ls_X12_137 k_X12_in [qI (to : Int), qI 1, qI 8] rfl rfl (Nat.le_of_ble_eq_true rfl) (by decide) (by decide) (Nat.le_of_ble_eq_true rfl) (c_in (to : Int) 1 8) k9) ?_
  refine qy2n (fun _ _ => z_ifeqB 24 d_X12_more_12 (by decide)) (fun hc1 => absurd hc1 (by omega)) (fun hc1 => ?_)
  refine qy (fun _ _ k9 => z_iload_n d_X12_more_15 rfl rfl k9) ?_
  refine qy (fun _ _ k9 => z_iconst d_X12_more_16 (by decide) k9) ?_
  refine qy (fun _ _ k9 => z_iconst d_X12_more_17 (by decide) k9) ?_
  refine qy (fun _ _ k9 => z_cs (M1 := M_X12_in) d_X12_more_18 ls_X12_137 k_X12_in [qI what, qI 0, qI 1] rfl rfl (Nat.le_of_ble_eq_true rfl) (by decide) (by decide) (Nat.le_of_ble_eq_true rfl) (c_in what 0 1) k9) ?_
  refine qy2 (fun _ _ => z_ifneB 26 d_X12_more_21 (by decide)) (fun hc2 => ?_) (fun hc2 => absurd hc2 (by omega))
  refine qy (fun _ _ k9 => z_iconst d_X12_more_26 (by decide) k9) ?_
  refine qy (fun _ _ k9 => z_istore_n (ls' := [qR m, qI (to : Int), qI what, qI 0, qU, qU, qU, qU, qU, qU]) d_X12_more_27 rfl (by decide) rfl k9) ?_
  refine qy (fun _ _ k9 => z_iconst d_X12_more_28 (by decide) k9) ?_
  refine qy (fun _ _ k9 => z_istore (ls' := [qR m, qI (to : Int), qI what, qI 0, qI (-1), qU, qU, qU, qU, qU]) d_X12_more_29 (by decide) rfl k9) ?_
  refine qy (fun _ _ k9 => z_aload_n d_X12_more_31 rfl rfl k9) ?_
  obtain ⟨y1, ⟨hlf, hlT, hlF⟩, hx1⟩ := y_laysOwn hm
  refine qy (fun _ _ k9 => z_cv0 (M1 := M_X12_laysOwn) d_X12_more_32 lv_X12_275 k_X12_laysOwn [] rfl rfl rput_o ⟨_, _, rfl⟩ (Nat.le_of_ble_eq_true rfl) (by decide) (by decide) (Nat.le_of_ble_eq_true rfl) hx1 k9) ?_
  refine qy (fun _ _ k9 => z_iconst d_X12_more_35 (by decide) k9) ?_
  refine qy (fun _ _ k9 => z_istore (ls' := [qR m, qI (to : Int), qI what, qI 0, qI (-1), qI 0, qU, qU, qU, qU]) d_X12_more_36 (by decide) rfl k9) ?_
  refine qy (fun _ _ k9 => z_eq (qc rfl (qc rfl (qc rfl (qc (qi (rfl)) (qc (qi (rfl)) (qc (qi (by omega)) (qc rfl (qc rfl (qc rfl (qc rfl rfl)))))))))) rfl rfl k9) (y_wh2 (fun (i : Nat) (x : Nat → Nat → Int) => 4536 - i) (fun (i : Nat) (x : Nat → Nat → Int) => [qR m, qI (to : Int), qI what, qI (cnt (moP (ownT g) to) i), qI (moF (ownT g) to i), qI (i : Int), qU, qU, qU, qU]) (fun (i : Nat) (x : Nat → Nat → Int) => (rput h m f x)) (fun (i : Nat) (x : Nat → Nat → Int) => i ≤ 4536 ∧ sq g x ∧ ∀ c, c < 648 → x 25 c = (ownT g) c) 0 y1 (⟨by omega, sq_fr hlf (by decide), hlT⟩) (fun i x hp kk => ?_))
  obtain ⟨hi, hs, hT⟩ := hp
  show qEy M_X12_more 38 [qR m, qI (to : Int), qI what, qI (cnt (moP (ownT g) to) i), qI (moF (ownT g) to i), qI (i : Int), qU, qU, qU, qU] [] (rput h m f x) Q
  have hcb := cnt_bd (moP (ownT g) to) i
  refine qy (fun _ _ k9 => z_iload d_X12_more_38 rfl k9) ?_
  refine qy (fun _ _ k9 => z_sipush d_X12_more_40 (by decide) k9) ?_
  refine qy2 (fun _ _ => z_icmp_ge 174 d_X12_more_43 (by decide)) (fun hc3 => ?_) (fun hc3 => ?_)
  · refine qy (fun _ _ k9 => z_iload_n d_X12_more_174 rfl rfl k9) ?_
    suffices kJ175 : qEy M_X12_more 184 [qR m, qI (to : Int), qI what, qI (cnt (moP (ownT g) to) i), qI (moF (ownT g) to i), qI (i : Int), qU, qU, qU, qU] [qI (qif (what ≠ 0) (moF (ownT g) to i) (cnt (moP (ownT g) to) i))] (rput h m f x) Q by
      refine qy2 (fun _ _ => z_if_ne 182 d_X12_more_175 (by decide)) (fun hc4 => ?_) (fun hc4 => ?_)
      · refine qy (fun _ _ k9 => z_iload d_X12_more_182 rfl k9) ?_
        exact qy (fun _ _ k9 => z_eq rfl (qc (qi (qif_t hc4).symm) rfl) rfl k9) kJ175
      · refine qy (fun _ _ k9 => z_iload_n d_X12_more_178 rfl rfl k9) ?_
        refine qy (fun _ _ k9 => z_goto 184 d_X12_more_179 (by decide) k9) ?_
        exact qy (fun _ _ k9 => z_eq rfl (qc (qi (qif_f hc4).symm) rfl) rfl k9) kJ175
    exact y_ret (hQ x hs) (z_iret d_X12_more_184 rfl (qsi (by rw [show i = 4536 by omega])) rfl)
  · refine qy (fun _ _ k9 => z_iload d_X12_more_46 rfl k9) ?_
    refine qy (fun _ _ k9 => z_bipush d_X12_more_48 (by decide) k9) ?_
    refine qy (fun _ _ k9 => z_idiv d_X12_more_50 (by omega) k9) ?_
    refine qy (fun _ _ k9 => z_eq rfl (qc (qi (by rw [Int.tdiv_eq_ediv_of_nonneg (by omega)] <;> omega)) rfl) rfl k9) ?_
    refine qy (fun _ _ k9 => z_istore (ls' := [qR m, qI (to : Int), qI what, qI (cnt (moP (ownT g) to) i), qI (moF (ownT g) to i), qI (i : Int), qI (((i / 8) : Nat) : Int), qU, qU, qU]) d_X12_more_51 (by decide) rfl k9) ?_
    refine qy (fun _ _ k9 => z_iload d_X12_more_53 rfl k9) ?_
    refine qy (fun _ _ k9 => z_bipush d_X12_more_55 (by decide) k9) ?_
    refine qy (fun _ _ k9 => z_irem d_X12_more_57 (by omega) k9) ?_
    refine qy (fun _ _ k9 => z_eq rfl (qc (qi (by rw [Int.tmod_eq_emod_of_nonneg (by omega)] <;> omega)) rfl) rfl k9) ?_
    refine qy (fun _ _ k9 => z_istore (ls' := [qR m, qI (to : Int), qI what, qI (cnt (moP (ownT g) to) i), qI (moF (ownT g) to i), qI (i : Int), qI (((i / 8) : Nat) : Int), qI (((i % 8) : Nat) : Int), qU, qU]) d_X12_more_58 (by decide) rfl k9) ?_
    refine qy (fun _ _ k9 => z_aload_n d_X12_more_60 rfl rfl k9) ?_
    refine qy (fun _ _ k9 => z_getf (v := qR (m + 25)) d_X12_more_61 fl_X12_86 rput_o rfl k9) ?_
    refine qy (fun _ _ k9 => z_iload d_X12_more_64 rfl k9) ?_
    refine qy (fun _ _ k9 => z_ild (i / 8) d_X12_more_66 (rput_a2 25 (t := 0) (n := 648) (F := (x 25)) rfl rfl rfl (by decide) (by decide)) rfl (by omega) k9) ?_
    refine qy (fun _ _ k9 => z_eq rfl (qc (qi (show ((x 25) (i / 8)) = ((ownT g) (i / 8)) from hT _ (by omega))) rfl) rfl k9) ?_
    refine qy (fun _ _ k9 => z_istore (ls' := [qR m, qI (to : Int), qI what, qI (cnt (moP (ownT g) to) i), qI (moF (ownT g) to i), qI (i : Int), qI (((i / 8) : Nat) : Int), qI (((i % 8) : Nat) : Int), qI ((ownT g) (i / 8)), qU]) d_X12_more_67 (by decide) rfl k9) ?_
    refine qy (fun _ _ k9 => z_iload d_X12_more_69 rfl k9) ?_
    refine qy (fun _ _ k9 => z_iload d_X12_more_71 rfl k9) ?_
    refine qy2 (fun _ _ => z_icmp_ne 79 d_X12_more_73 (by decide)) (fun hne => ?_) (fun hne => ?_)
    · have hT9 : ∀ c, c < 648 → qup (x 25) (i / 8) ((i % 8 : Nat) : Int) c = qup (ownT g) (i / 8) ((i % 8 : Nat) : Int) c := qup_cgp hT
      have hB9 := qup_bd (c := i / 8) (v := ((i % 8 : Nat) : Int)) hOB (by omega)
      refine qy (fun _ _ k9 => z_aload_n d_X12_more_79 rfl rfl k9) ?_
      refine qy (fun _ _ k9 => z_getf (v := qR (m + 25)) d_X12_more_80 fl_X12_86 rput_o rfl k9) ?_
      refine qy (fun _ _ k9 => z_iload d_X12_more_83 rfl k9) ?_
      refine qy (fun _ _ k9 => z_iload d_X12_more_85 rfl k9) ?_
      refine qy (fun _ _ k9 => z_ist (i / 8) d_X12_more_87 (rput_a2 25 (t := 0) (n := 648) (F := (x 25)) rfl rfl rfl (by decide) (by decide)) (by omega) rfl (by omega) k9) ?_
      refine qy (fun _ _ k9 => z_eq rfl rfl (rput_sa 25 rfl rfl (by decide) (by decide)) k9) ?_
      refine qy (fun _ _ k9 => z_aload_n d_X12_more_88 rfl rfl k9) ?_
      refine qy (fun _ _ k9 => z_iload_n d_X12_more_89 rfl rfl k9) ?_
      obtain ⟨y2, hff, hx2⟩ := y_firstBad (h := h) (f := f) (g := (gup x 25 (qup (x 25) (i / 8) (((i % 8) : Nat) : Int)))) (to := to) (qup (ownT g) (i / 8) ((i % 8 : Nat) : Int)) hm (by omega) hT9 hB9
      refine qy (fun _ _ k9 => z_cv (M1 := M_X12_firstBad) d_X12_more_90 lv_X12_354 k_X12_firstBad [qI (to : Int)] rfl rfl rput_o ⟨_, _, rfl⟩ (Nat.le_of_ble_eq_true rfl) (by decide) (by decide) (Nat.le_of_ble_eq_true rfl) hx2 k9) ?_
      refine qy (fun _ _ k9 => z_iconst d_X12_more_93 (by decide) k9) ?_
      suffices kJ94 : qEy M_X12_more 102 [qR m, qI (to : Int), qI what, qI (cnt (moP (ownT g) to) i), qI (moF (ownT g) to i), qI (i : Int), qI (((i / 8) : Nat) : Int), qI (((i % 8) : Nat) : Int), qI ((ownT g) (i / 8)), qU] [qI (qb ((fbR (qup (ownT g) (i / 8) ((i % 8 : Nat) : Int)) to) = (-1)))] (rput h m f y2) Q by
        refine qy2 (fun _ _ => z_icmp_ne 101 d_X12_more_94 (by decide)) (fun hc5 => ?_) (fun hc5 => ?_)
        · refine qy (fun _ _ k9 => z_iconst d_X12_more_101 (by decide) k9) ?_
          exact qy (fun _ _ k9 => z_eq rfl (qc (qi (qb_f (by omega)).symm) rfl) rfl k9) kJ94
        · refine qy (fun _ _ k9 => z_iconst d_X12_more_97 (by decide) k9) ?_
          refine qy (fun _ _ k9 => z_goto 102 d_X12_more_98 (by decide) k9) ?_
          exact qy (fun _ _ k9 => z_eq rfl (qc (qi (qb_t (by omega)).symm) rfl) rfl k9) kJ94
      refine qy (fun _ _ k9 => z_istore (ls' := [qR m, qI (to : Int), qI what, qI (cnt (moP (ownT g) to) i), qI (moF (ownT g) to i), qI (i : Int), qI (((i / 8) : Nat) : Int), qI (((i % 8) : Nat) : Int), qI ((ownT g) (i / 8)), qI (qb ((fbR (qup (ownT g) (i / 8) ((i % 8 : Nat) : Int)) to) = (-1)))]) d_X12_more_102 (by decide) rfl k9) ?_
      refine qy (fun _ _ k9 => z_aload_n d_X12_more_104 rfl rfl k9) ?_
      refine qy (fun _ _ k9 => z_getf (v := qR (m + 25)) d_X12_more_105 fl_X12_86 rput_o rfl k9) ?_
      refine qy (fun _ _ k9 => z_iload d_X12_more_108 rfl k9) ?_
      refine qy (fun _ _ k9 => z_iload d_X12_more_110 rfl k9) ?_
      refine qy (fun _ _ k9 => z_ist (i / 8) d_X12_more_112 (rput_a2 25 (t := 0) (n := 648) (F := (y2 25)) rfl rfl rfl (by decide) (by decide)) (by omega) rfl (by omega) k9) ?_
      refine qy (fun _ _ k9 => z_eq rfl rfl (rput_sa 25 rfl rfl (by decide) (by decide)) k9) ?_
      refine qy (fun _ _ k9 => z_iload d_X12_more_113 rfl k9) ?_
      refine qy2 (fun _ _ => z_ifneB 121 d_X12_more_115 (by decide)) (fun hf9 => ?_) (fun hf9 => ?_)
      · refine qy (fun _ _ k9 => z_iload_n d_X12_more_121 rfl rfl k9) ?_
        refine qy2 (fun _ _ => z_if_ne 161 d_X12_more_122 (by decide)) (fun hm9 => ?_) (fun hm9 => ?_)
        · refine qy (fun _ _ k9 => z_iload d_X12_more_161 rfl k9) ?_
          refine qy (fun _ _ k9 => z_istore (ls' := [qR m, qI (to : Int), qI what, qI (cnt (moP (ownT g) to) i), qI (moF (ownT g) to i), qI (i : Int), qI (((i / 8) : Nat) : Int), qI (((i % 8) : Nat) : Int), qI ((ownT g) (i / 8)), qI (qb ((fbR (qup (ownT g) (i / 8) ((i % 8 : Nat) : Int)) to) = (-1)))]) d_X12_more_163 (by decide) rfl k9) ?_
          refine qy (fun _ _ k9 => z_iinc (ls' := [qR m, qI (to : Int), qI what, qI ((cnt (moP (ownT g) to) i) + 1), qI (moF (ownT g) to i), qI (i : Int), qI (((i / 8) : Nat) : Int), qI (((i % 8) : Nat) : Int), qI ((ownT g) (i / 8)), qI (qb ((fbR (qup (ownT g) (i / 8) ((i % 8 : Nat) : Int)) to) = (-1)))]) d_X12_more_165 rfl (by decide) (by omega) rfl k9) ?_
          refine qy (fun _ _ k9 => z_iinc (ls' := [qR m, qI (to : Int), qI what, qI ((cnt (moP (ownT g) to) i) + 1), qI (moF (ownT g) to i), qI ((i : Int) + 1), qI (((i / 8) : Nat) : Int), qI (((i % 8) : Nat) : Int), qI ((ownT g) (i / 8)), qI (qb ((fbR (qup (ownT g) (i / 8) ((i % 8 : Nat) : Int)) to) = (-1)))]) d_X12_more_168 rfl (by decide) (by omega) rfl k9) ?_
          refine qy (fun _ _ k9 => z_goto 38 d_X12_more_171 (by decide) k9) ?_
          exact qy (fun _ _ k9 => z_dr (qle_k rfl (qle_k rfl (qle_k rfl (qle_k (qi (by show _ = cnt (moP (ownT g) to) i + qb (moP (ownT g) to i); first | rw [qb_t (show (moP (ownT g) to i) from ⟨hne, hf9⟩)] | (rw [qb_f (show ¬ (moP (ownT g) to i) from fun z9 => hf9 z9.2)]; omega) | (rw [qb_f (show ¬ (moP (ownT g) to i) from fun z9 => hne z9.1)]; omega))) (qle_k (qi (by show _ = qif ((moP (ownT g) to i) ∧ cnt (moP (ownT g) to) i = 0) _ _; first | (rw [qif_t ⟨(show (moP (ownT g) to i) from ⟨hne, hf9⟩), Classical.not_not.mp hm9⟩]; rfl) | rw [qif_f (fun z9 => hm9 z9.2)] | rw [qif_f (fun z9 => (show ¬ (moP (ownT g) to i) from fun z9 => hf9 z9.2) z9.1)] | rw [qif_f (fun z9 => (show ¬ (moP (ownT g) to i) from fun z9 => hne z9.1) z9.1)])) (qle_k (qi (by omega)) (qle_d (qle_d (qle_d (qle_d qle_n)))))))))) rfl rfl k9) (kk (i + 1) (gup y2 25 (qup (y2 25) (i / 8) ((ownT g) (i / 8)))) (⟨by omega, (sq_up (sq_tr (sq_up hs (by decide)) (sq_fr hff (by decide))) (by decide)), qup_back (fr_at hff 25 (by decide) hT9) rfl⟩) (by omega))
        · refine qy (fun _ _ k9 => z_sipush d_X12_more_125 (by decide) k9) ?_
          refine qy (fun _ _ k9 => z_iload d_X12_more_128 rfl k9) ?_
          refine qy (fun _ _ k9 => z_bipush d_X12_more_130 (by decide) k9) ?_
          refine qy (fun _ _ k9 => z_idiv d_X12_more_132 (by omega) k9) ?_
          refine qy (fun _ _ k9 => z_eq rfl (qc (qi (by rw [Int.tdiv_eq_ediv_of_nonneg (by omega)] <;> omega)) rfl) rfl k9) ?_
          refine qy (fun _ _ k9 => z_imul d_X12_more_133 (by omega) k9) ?_
          refine qy (fun _ _ k9 => z_bipush d_X12_more_134 (by decide) k9) ?_
          refine qy (fun _ _ k9 => z_iload d_X12_more_136 rfl k9) ?_
          refine qy (fun _ _ k9 => z_bipush d_X12_more_138 (by decide) k9) ?_
          refine qy (fun _ _ k9 => z_idiv d_X12_more_140 (by omega) k9) ?_
          refine qy (fun _ _ k9 => z_eq rfl (qc (qi (by rw [Int.tdiv_eq_ediv_of_nonneg (by omega)] <;> omega)) rfl) rfl k9) ?_
          refine qy (fun _ _ k9 => z_bipush d_X12_more_141 (by decide) k9) ?_
          refine qy (fun _ _ k9 => z_irem d_X12_more_143 (by omega) k9) ?_
          refine qy (fun _ _ k9 => z_eq rfl (qc (qi (by rw [Int.tmod_eq_emod_of_nonneg (by omega)] <;> omega)) rfl) rfl k9) ?_
          refine qy (fun _ _ k9 => z_imul d_X12_more_144 (by omega) k9) ?_
          refine qy (fun _ _ k9 => z_iadd d_X12_more_145 (by omega) k9) ?_
          refine qy (fun _ _ k9 => z_bipush d_X12_more_146 (by decide) k9) ?_
          refine qy (fun _ _ k9 => z_iload d_X12_more_148 rfl k9) ?_
          refine qy (fun _ _ k9 => z_bipush d_X12_more_150 (by decide) k9) ?_
          refine qy (fun _ _ k9 => z_irem d_X12_more_152 (by omega) k9) ?_
          refine qy (fun _ _ k9 => z_eq rfl (qc (qi (by rw [Int.tmod_eq_emod_of_nonneg (by omega)] <;> omega)) rfl) rfl k9) ?_
          refine qy (fun _ _ k9 => z_imul d_X12_more_153 (by omega) k9) ?_
          refine qy (fun _ _ k9 => z_iadd d_X12_more_154 (by omega) k9) ?_
          refine qy (fun _ _ k9 => z_iload d_X12_more_155 rfl k9) ?_
          refine qy (fun _ _ k9 => z_iadd d_X12_more_157 (by omega) k9) ?_
          refine qy (fun _ _ k9 => z_goto 163 d_X12_more_158 (by decide) k9) ?_
          refine qy (fun _ _ k9 => z_istore (ls' := [qR m, qI (to : Int), qI what, qI (cnt (moP (ownT g) to) i), qI ((((1000 * ((((i / 8) / 81) : Nat) : Int)) + (100 * (((((i / 8) / 9) % 9) : Nat) : Int))) + (10 * ((((i / 8) % 9) : Nat) : Int))) + (((i % 8) : Nat) : Int)), qI (i : Int), qI (((i / 8) : Nat) : Int), qI (((i % 8) : Nat) : Int), qI ((ownT g) (i / 8)), qI (qb ((fbR (qup (ownT g) (i / 8) ((i % 8 : Nat) : Int)) to) = (-1)))]) d_X12_more_163 (by decide) rfl k9) ?_
          refine qy (fun _ _ k9 => z_iinc (ls' := [qR m, qI (to : Int), qI what, qI ((cnt (moP (ownT g) to) i) + 1), qI ((((1000 * ((((i / 8) / 81) : Nat) : Int)) + (100 * (((((i / 8) / 9) % 9) : Nat) : Int))) + (10 * ((((i / 8) % 9) : Nat) : Int))) + (((i % 8) : Nat) : Int)), qI (i : Int), qI (((i / 8) : Nat) : Int), qI (((i % 8) : Nat) : Int), qI ((ownT g) (i / 8)), qI (qb ((fbR (qup (ownT g) (i / 8) ((i % 8 : Nat) : Int)) to) = (-1)))]) d_X12_more_165 rfl (by decide) (by omega) rfl k9) ?_
          refine qy (fun _ _ k9 => z_iinc (ls' := [qR m, qI (to : Int), qI what, qI ((cnt (moP (ownT g) to) i) + 1), qI ((((1000 * ((((i / 8) / 81) : Nat) : Int)) + (100 * (((((i / 8) / 9) % 9) : Nat) : Int))) + (10 * ((((i / 8) % 9) : Nat) : Int))) + (((i % 8) : Nat) : Int)), qI ((i : Int) + 1), qI (((i / 8) : Nat) : Int), qI (((i % 8) : Nat) : Int), qI ((ownT g) (i / 8)), qI (qb ((fbR (qup (ownT g) (i / 8) ((i % 8 : Nat) : Int)) to) = (-1)))]) d_X12_more_168 rfl (by decide) (by omega) rfl k9) ?_
          refine qy (fun _ _ k9 => z_goto 38 d_X12_more_171 (by decide) k9) ?_
          exact qy (fun _ _ k9 => z_dr (qle_k rfl (qle_k rfl (qle_k rfl (qle_k (qi (by show _ = cnt (moP (ownT g) to) i + qb (moP (ownT g) to i); first | rw [qb_t (show (moP (ownT g) to i) from ⟨hne, hf9⟩)] | (rw [qb_f (show ¬ (moP (ownT g) to i) from fun z9 => hf9 z9.2)]; omega) | (rw [qb_f (show ¬ (moP (ownT g) to i) from fun z9 => hne z9.1)]; omega))) (qle_k (qi (by show _ = qif ((moP (ownT g) to i) ∧ cnt (moP (ownT g) to) i = 0) _ _; first | (rw [qif_t ⟨(show (moP (ownT g) to i) from ⟨hne, hf9⟩), Classical.not_not.mp hm9⟩]; rfl) | rw [qif_f (fun z9 => hm9 z9.2)] | rw [qif_f (fun z9 => (show ¬ (moP (ownT g) to i) from fun z9 => hf9 z9.2) z9.1)] | rw [qif_f (fun z9 => (show ¬ (moP (ownT g) to i) from fun z9 => hne z9.1) z9.1)])) (qle_k (qi (by omega)) (qle_d (qle_d (qle_d (qle_d qle_n)))))))))) rfl rfl k9) (kk (i + 1) (gup y2 25 (qup (y2 25) (i / 8) ((ownT g) (i / 8)))) (⟨by omega, (sq_up (sq_tr (sq_up hs (by decide)) (sq_fr hff (by decide))) (by decide)), qup_back (fr_at hff 25 (by decide) hT9) rfl⟩) (by omega))
      · refine qy (fun _ _ k9 => z_goto 168 d_X12_more_118 (by decide) k9) ?_
        refine qy (fun _ _ k9 => z_iinc (ls' := [qR m, qI (to : Int), qI what, qI (cnt (moP (ownT g) to) i), qI (moF (ownT g) to i), qI ((i : Int) + 1), qI (((i / 8) : Nat) : Int), qI (((i % 8) : Nat) : Int), qI ((ownT g) (i / 8)), qI (qb ((fbR (qup (ownT g) (i / 8) ((i % 8 : Nat) : Int)) to) = (-1)))]) d_X12_more_168 rfl (by decide) (by omega) rfl k9) ?_
        refine qy (fun _ _ k9 => z_goto 38 d_X12_more_171 (by decide) k9) ?_
        exact qy (fun _ _ k9 => z_dr (qle_k rfl (qle_k rfl (qle_k rfl (qle_k (qi (by show _ = cnt (moP (ownT g) to) i + qb (moP (ownT g) to i); first | rw [qb_t (show (moP (ownT g) to i) from ⟨hne, hf9⟩)] | (rw [qb_f (show ¬ (moP (ownT g) to i) from fun z9 => hf9 z9.2)]; omega) | (rw [qb_f (show ¬ (moP (ownT g) to i) from fun z9 => hne z9.1)]; omega))) (qle_k (qi (by show _ = qif ((moP (ownT g) to i) ∧ cnt (moP (ownT g) to) i = 0) _ _; first | (rw [qif_t ⟨(show (moP (ownT g) to i) from ⟨hne, hf9⟩), Classical.not_not.mp hm9⟩]; rfl) | rw [qif_f (fun z9 => hm9 z9.2)] | rw [qif_f (fun z9 => (show ¬ (moP (ownT g) to i) from fun z9 => hf9 z9.2) z9.1)] | rw [qif_f (fun z9 => (show ¬ (moP (ownT g) to i) from fun z9 => hne z9.1) z9.1)])) (qle_k (qi (by omega)) (qle_d (qle_d (qle_d (qle_d qle_n)))))))))) rfl rfl k9) (kk (i + 1) (gup y2 25 (qup (y2 25) (i / 8) ((ownT g) (i / 8)))) (⟨by omega, (sq_up (sq_tr (sq_up hs (by decide)) (sq_fr hff (by decide))) (by decide)), qup_back (fr_at hff 25 (by decide) hT9) rfl⟩) (by omega))
    · refine qy (fun _ _ k9 => z_goto 168 d_X12_more_76 (by decide) k9) ?_
      refine qy (fun _ _ k9 => z_iinc (ls' := [qR m, qI (to : Int), qI what, qI (cnt (moP (ownT g) to) i), qI (moF (ownT g) to i), qI ((i : Int) + 1), qI (((i / 8) : Nat) : Int), qI (((i % 8) : Nat) : Int), qI ((ownT g) (i / 8)), qU]) d_X12_more_168 rfl (by decide) (by omega) rfl k9) ?_
      refine qy (fun _ _ k9 => z_goto 38 d_X12_more_171 (by decide) k9) ?_
      exact qy (fun _ _ k9 => z_dr (qle_k rfl (qle_k rfl (qle_k rfl (qle_k (qi (by show _ = cnt (moP (ownT g) to) i + qb (moP (ownT g) to i); first | rw [qb_t (show (moP (ownT g) to i) from ⟨hne, hf9⟩)] | (rw [qb_f (show ¬ (moP (ownT g) to i) from fun z9 => hf9 z9.2)]; omega) | (rw [qb_f (show ¬ (moP (ownT g) to i) from fun z9 => hne z9.1)]; omega))) (qle_k (qi (by show _ = qif ((moP (ownT g) to i) ∧ cnt (moP (ownT g) to) i = 0) _ _; first | (rw [qif_t ⟨(show (moP (ownT g) to i) from ⟨hne, hf9⟩), Classical.not_not.mp hm9⟩]; rfl) | rw [qif_f (fun z9 => hm9 z9.2)] | rw [qif_f (fun z9 => (show ¬ (moP (ownT g) to i) from fun z9 => hf9 z9.2) z9.1)] | rw [qif_f (fun z9 => (show ¬ (moP (ownT g) to i) from fun z9 => hne z9.1) z9.1)])) (qle_k (qi (by omega)) (qle_d (qle_d (qle_d (qle_k rfl qle_n)))))))))) rfl rfl k9) (kk (i + 1) x (⟨by omega, hs, hT⟩) (by omega))
set_option maxRecDepth 20000 in
set_option maxHeartbeats 4000000 in
theorem c_more_no {h : qH} {m : Nat} {f : Nat → Int} {g : Nat → Nat → Int} (to what : Int) (hm : 2 ≤ m) (h0 : f 0 = 0) (hno : ¬ ((1 ≤ to ∧ to ≤ 8) ∧ 0 ≤ what ∧ what ≤ 1)) : qEx M_X12_more 0 [qR m, qI to, qI what, qU, qU, qU, qU, qU, qU, qU] [] (rput h m f g) (some (qI (-1))) (rput h m f g) := by
  refine q_gen (fun r hr er eh => ?_)
  refine z_aload_n d_X12_more_0 rfl rfl ?_
  refine z_iconst d_X12_more_1 (by decide) ?_
  refine z_putf (fs' := [qI 0, qI (f 1), qI (f 2), qI (f 3), qI (f 4), qI (f 5), qI (f 6), qI (f 7), qR (m + 1), qR (m + 2), qR (m + 3), qR (m + 4), qR (m + 5), qR (m + 6), qR (m + 7), qR (m + 8), qR (m + 9), qR (m + 10), qI (f 18), qI (f 19), qI (f 20), qR (m + 11), qR (m + 12), qR (m + 13), qR (m + 14), qI (f 25), qR (m + 15), qI (f 27), qR (m + 16), qR (m + 17), qR (m + 18), qR (m + 19), qR (m + 20), qR (m + 21), qR (m + 22), qR (m + 23), qR (m + 24), qI (f 37), qI (f 38), qI (f 39), qI (f 40), qR (m + 25), qR (m + 26), qR (m + 27), qR (m + 28), qR (m + 29), qR (m + 30), qR (m + 31), qI (f 48), qR (m + 32), qR (m + 33), qR (m + 34), qR (m + 35), qR (m + 36), qR (m + 37)]) d_X12_more_2 fp_X12_127 rput_o (fun _ => rfl) (fun _ => rfl) (Nat.le_of_ble_eq_true rfl) rfl ?_
  refine z_eq rfl rfl ((rput_sf (f' := qup f 0 0) rfl).trans (rput_cg (qup_self h0) rfl)) ?_
  refine z_iload_n d_X12_more_5 rfl rfl ?_
  refine z_iconst d_X12_more_6 (by decide) ?_
  refine z_bipush d_X12_more_7 (by decide) ?_
  refine z_cs (M1 := M_X12_in) d_X12_more_9 ls_X12_137 k_X12_in [qI to, qI 1, qI 8] rfl rfl (Nat.le_of_ble_eq_true rfl) (by decide) (by decide) (Nat.le_of_ble_eq_true rfl) (c_in to 1 8) ?_
  refine z_ifeqB 24 d_X12_more_12 (by decide) (fun hc1 => ?_) (fun hc1 => ?_)
  · refine z_iconst d_X12_more_24 (by decide) ?_
    exact z_iret d_X12_more_25 rfl er eh
  · refine z_iload_n d_X12_more_15 rfl rfl ?_
    refine z_iconst d_X12_more_16 (by decide) ?_
    refine z_iconst d_X12_more_17 (by decide) ?_
    refine z_cs (M1 := M_X12_in) d_X12_more_18 ls_X12_137 k_X12_in [qI what, qI 0, qI 1] rfl rfl (Nat.le_of_ble_eq_true rfl) (by decide) (by decide) (Nat.le_of_ble_eq_true rfl) (c_in what 0 1) ?_
    refine z_ifneB 26 d_X12_more_21 (by decide) (fun hc2 => ?_) (fun hc2 => ?_)
    · exact absurd (by omega) hno
    · refine z_iconst d_X12_more_24 (by decide) ?_
      exact z_iret d_X12_more_25 rfl er eh
