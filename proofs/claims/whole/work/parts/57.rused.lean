/-! ===== CONTRACTS: the reference: usesOf, used ===== -/
theorem dec_up {Z : Nat → Int} {D : Nat → Prop} {v : Nat → Nat → Int} {n i j : Nat} (hD : ∀ q, q < 96 → Z q = qb (ex2 D v n i j q)) (h0 : 0 ≤ v i j) : ∀ q, q < 96 → qup Z (v i j).toNat 1 q = qb (ex2 D v n i (j + 1) q) := by
  intro q hq
  by_cases e : q = (v i j).toNat
  · rw [e, qup_eq, qb_t (ex2_s.mpr (Or.inr (by omega)))]
  · rw [qup_ne e, hD q hq]
    exact qb_congr ⟨fun z => ex2_s.mpr (Or.inl z), fun z => (ex2_s.mp z).elim id (fun w => by omega)⟩
theorem dec_no {Z : Nat → Int} {D : Nat → Prop} {v : Nat → Nat → Int} {n i j : Nat} (hD : ∀ q, q < 96 → Z q = qb (ex2 D v n i j q)) (h0 : v i j = -1) : ∀ q, q < 96 → Z q = qb (ex2 D v n i (j + 1) q) := by
  intro q hq
  rw [hD q hq]
  exact qb_congr ⟨fun z => ex2_s.mpr (Or.inl z), fun z => (ex2_s.mp z).elim id (fun w => by omega)⟩
/-- the MIND of k behind t breaths; the rule that decides for it then -/
noncomputable def vS (T : Nat → Int) (n : Nat) (t k : Nat) : Int := ps T n 0 (-1) 0 t k
noncomputable def vD (T By : Nat → Int) (n : Nat) (t k : Nat) : Int := By (stC n 0 (ps T n 0 (-1) 0 t) k).toNat
set_option maxRecDepth 20000 in
set_option maxHeartbeats 1000000 in
theorem c_usesOf {h : qH} {m : Nat} {f : Nat → Int} {g : Nat → Nat → Int} {n : Nat} (T By : Nat → Int) (D S : Nat → Prop) (hm : 2 ≤ m) (hn : 1 ≤ n ∧ n ≤ 32) (hT0 : ∀ c, c < 648 → g 25 c = T c) (hB : ∀ c, c < 648 → 0 ≤ T c ∧ T c ≤ 7) (hY0 : ∀ c, c < 648 → g 26 c = By c) (hYB : ∀ c, c < 648 → -1 ≤ By c ∧ By c < 96) (hD0 : ∀ q, q < 96 → g 31 q = qb (D q)) (hS0 : f 48 = bst S) : ∃ g', (sq g g' ∧ (∀ c, c < 648 → g' 25 c = T c) ∧ (∀ c, c < 648 → g' 26 c = By c) ∧ ∀ q, q < 96 → g' 31 q = qb (ex2 D (vD T By n) n (rnJ T n 0 0) 0 q)) ∧ qEx M_X12_usesOf 0 [qR m, qI (n : Int), qU, qU, qU] [] (rput h m f g) none (rput h m (qup f 48 (bst (ex2 S (vS T n) n (rnJ T n 0 0 + 1) 0))) g') := by
  refine y_in (fun Q hQ => ?_)
  refine qy (fun _ _ k9 => z_aload_n d_X12_usesOf_0 rfl rfl k9) ?_
  refine qy (fun _ _ k9 => z_getf (v := qR (m + 28)) d_X12_usesOf_1 fl_X12_95 rput_o rfl k9) ?_
  refine qy (fun _ _ k9 => z_iload_n d_X12_usesOf_4 rfl rfl k9) ?_
  refine qy (fun _ _ k9 => z_iconst d_X12_usesOf_5 (by decide) k9) ?_
  refine qy (fun _ _ k9 => z_cs0 (M1 := M_X12_begins) d_X12_usesOf_6 ls_X12_329 k_X12_begins [qR (m + 28), qI (n : Int), qI 0] rfl rfl (Nat.le_of_ble_eq_true rfl) (by decide) (by decide) (Nat.le_of_ble_eq_true rfl) (c_begins n 0 (rput_a2 28 (t := 0) (n := 32) (F := (g 28)) rfl rfl rfl (by decide) (by decide)) (by omega) (by omega) (by decide)) k9) ?_
  refine qy (fun _ _ k9 => z_eq rfl rfl (rput_sa 28 rfl rfl (by decide) (by decide)) k9) ?_
  refine qy (fun _ _ k9 => z_iconst d_X12_usesOf_9 (by decide) k9) ?_
  refine qy (fun _ _ k9 => z_istore_n (ls' := [qR m, qI (n : Int), qI 0, qU, qU]) d_X12_usesOf_10 rfl (by decide) rfl k9) ?_
  refine qy (fun _ _ k9 => z_eq (qc rfl (qc rfl (qc (qi (by omega)) (qc rfl (qc rfl rfl))))) rfl (rput_cg (qup_self (hS0.trans (bst_cg (fun k hk => ex2_0.symm)))).symm rfl) k9) (y_wh2 (fun (i : Nat) (x : Nat → Nat → Int) => 3 * n + 20 - i) (fun (i : Nat) (x : Nat → Nat → Int) => [qR m, qI (n : Int), qI (i : Int), qU, qU]) (fun (i : Nat) (x : Nat → Nat → Int) => (rput h m (qup f 48 (bst (ex2 S (vS T n) n i 0))) x)) (fun (i : Nat) (x : Nat → Nat → Int) => i ≤ 3 * n + 20 ∧ sq g x ∧ (∀ c, c < 648 → x 25 c = T c) ∧ (∀ c, c < 648 → x 26 c = By c) ∧ (∀ k, k < n → x 28 k = ps T n 0 (-1) 0 i k) ∧ (∀ q, q < 96 → x 31 q = qb (ex2 D (vD T By n) n i 0 q)) ∧ ∀ k, k < i → ¬ litAt T n 0 (-1) 0 k) 0 (gup g 28 (qmx n (fun q9 => qb ((q9 : Int) = 0)) (g 28))) (⟨by omega, (sq_up sq_rf (by decide)), hT0, hY0, fun k hk => (show qmx n (fun q9 : Nat => qb ((q9 : Int) = 0)) (g 28) k = _ from qmx_lt hk), fun q hq => (hD0 q hq).trans (qb_congr ex2_0.symm), fun k hk => absurd hk (by omega)⟩) (fun i x hp kk => ?_))
  obtain ⟨hi, hs, hT, hY, hF, hD, hL⟩ := hp
  show qEy M_X12_usesOf 11 [qR m, qI (n : Int), qI (i : Int), qU, qU] [] (rput h m (qup f 48 (bst (ex2 S (vS T n) n i 0))) x) Q
  refine qy (fun _ _ k9 => z_iload_n d_X12_usesOf_11 rfl rfl k9) ?_
  refine qy (fun _ _ k9 => z_iload_n d_X12_usesOf_12 rfl rfl k9) ?_
  refine qy (fun _ _ k9 => z_cs (M1 := M_X12_longest) d_X12_usesOf_13 ls_X12_333 k_X12_longest [qI (n : Int)] rfl rfl (Nat.le_of_ble_eq_true rfl) (by decide) (by decide) (Nat.le_of_ble_eq_true rfl) (c_longest (n : Int) (by omega)) k9) ?_
  refine qy2 (fun _ _ => z_icmp_gt 170 d_X12_usesOf_16 (by decide)) (fun hc1 => absurd hc1 (by omega)) (fun hc1 => ?_)
  refine qy (fun _ _ k9 => z_iconst d_X12_usesOf_19 (by decide) k9) ?_
  refine qy (fun _ _ k9 => z_istore_n (ls' := [qR m, qI (n : Int), qI (i : Int), qI 0, qU]) d_X12_usesOf_20 rfl (by decide) rfl k9) ?_
  refine qy (fun _ _ k9 => z_eq (qc rfl (qc rfl (qc rfl (qc (qi (by omega)) (qc rfl rfl))))) rfl rfl k9) (y_wh1 (fun (j : Nat) => n - j) (fun (j : Nat) => [qR m, qI (n : Int), qI (i : Int), qI (j : Int), qU]) (fun (j : Nat) => (rput h m (qup f 48 (bst (ex2 S (vS T n) n i j))) x)) (fun (j : Nat) => j ≤ n) 0 (Nat.zero_le n) (fun j hj kkj => ?_))
  show qEy M_X12_usesOf 21 [qR m, qI (n : Int), qI (i : Int), qI (j : Int), qU] [] (rput h m (qup f 48 (bst (ex2 S (vS T n) n i j))) x) Q
  refine qy (fun _ _ k9 => z_iload_n d_X12_usesOf_21 rfl rfl k9) ?_
  refine qy (fun _ _ k9 => z_iload_n d_X12_usesOf_22 rfl rfl k9) ?_
  refine qy2 (fun _ _ => z_icmp_ge 49 d_X12_usesOf_23 (by decide)) (fun hc2 => ?_) (fun hc2 => ?_)
  · refine qy (fun _ _ k9 => z_eq rfl rfl (rput_cg (qup_cg (v' := (bst (ex2 S (vS T n) n (i + 1) 0))) rfl (bst_cg (fun k hk => by rw [show j = n by omega]; exact ex2_n))) rfl) k9) ?_
    refine qy (fun _ _ k9 => z_aload_n d_X12_usesOf_49 rfl rfl k9) ?_
    refine qy (fun _ _ k9 => z_getf (v := qR (m + 28)) d_X12_usesOf_50 fl_X12_95 rput_o rfl k9) ?_
    refine qy (fun _ _ k9 => z_iload_n d_X12_usesOf_53 rfl rfl k9) ?_
    refine qy (fun _ _ k9 => z_cs (M1 := M_X12_litIn) d_X12_usesOf_54 ls_X12_302 k_X12_litIn [qR (m + 28), qI (n : Int)] rfl rfl (Nat.le_of_ble_eq_true rfl) (by decide) (by decide) (Nat.le_of_ble_eq_true rfl) (c_litIn n (rput_a2 28 (t := 0) (n := 32) (F := (x 28)) rfl rfl rfl (by decide) (by decide)) (by omega) (by decide)) k9) ?_
    refine qy (fun _ _ k9 => z_eq rfl (qc (qi (show (cnt (fun q9 => (x 28) q9 = 7) n) = (cnt (fun k => (ps T n 0 (-1) 0 i) k = 7) n) from cnt_congr (fun k hk => by rw [hF k hk]))) rfl) rfl k9) ?_
    refine qy2 (fun _ _ => z_if_gt 68 d_X12_usesOf_57 (by decide)) (fun hc3 => ?_) (fun hc3 => ?_)
    · exact y_ret (hQ x (⟨hs, hT, hY, by rw [rnJ_at (i := i) (by omega) hL (by first | exact Or.inr (show _ > (0 : Int) by omega) | exact Or.inl (by omega))]; exact hD⟩)) (z_vret d_X12_usesOf_68 rfl rfl (rput_cg (qup_cg rfl (by rw [rnJ_at (i := i) (by omega) hL (by first | exact Or.inr (show _ > (0 : Int) by omega) | exact Or.inl (by omega))])) rfl))
    · refine qy (fun _ _ k9 => z_iload_n d_X12_usesOf_60 rfl rfl k9) ?_
      refine qy (fun _ _ k9 => z_iload_n d_X12_usesOf_61 rfl rfl k9) ?_
      refine qy (fun _ _ k9 => z_cs (M1 := M_X12_longest) d_X12_usesOf_62 ls_X12_333 k_X12_longest [qI (n : Int)] rfl rfl (Nat.le_of_ble_eq_true rfl) (by decide) (by decide) (Nat.le_of_ble_eq_true rfl) (c_longest (n : Int) (by omega)) k9) ?_
      refine qy2 (fun _ _ => z_icmp_ne 69 d_X12_usesOf_65 (by decide)) (fun hc4 => ?_) (fun hc4 => ?_)
      · refine qy (fun _ _ k9 => z_iconst d_X12_usesOf_69 (by decide) k9) ?_
        refine qy (fun _ _ k9 => z_istore_n (ls' := [qR m, qI (n : Int), qI (i : Int), qI 0, qU]) d_X12_usesOf_70 rfl (by decide) rfl k9) ?_
        refine qy (fun _ _ k9 => z_eq (qc rfl (qc rfl (qc rfl (qc (qi (by omega)) (qc rfl rfl))))) rfl rfl k9) (y_wh2 (fun (j2 : Nat) (z : Nat → Nat → Int) => n - j2) (fun (j2 : Nat) (z : Nat → Nat → Int) => [qR m, qI (n : Int), qI (i : Int), qI (j2 : Int), qU]) (fun (j2 : Nat) (z : Nat → Nat → Int) => (rput h m (qup f 48 (bst (ex2 S (vS T n) n (i + 1) 0))) z)) (fun (j2 : Nat) (z : Nat → Nat → Int) => j2 ≤ n ∧ sq g z ∧ (∀ c, c < 648 → z 25 c = T c) ∧ (∀ c, c < 648 → z 26 c = By c) ∧ (∀ k, k < n → z 28 k = (ps T n 0 (-1) 0 i) k) ∧ ∀ q, q < 96 → z 31 q = qb (ex2 D (vD T By n) n i j2 q)) 0 x (⟨by omega, hs, hT, hY, hF, hD⟩) (fun j2 z hp2 kk2 => ?_))
        obtain ⟨hj2, hs2, hT2, hY2, hF2, hD2⟩ := hp2
        show qEy M_X12_usesOf 71 [qR m, qI (n : Int), qI (i : Int), qI (j2 : Int), qU] [] (rput h m (qup f 48 (bst (ex2 S (vS T n) n (i + 1) 0))) z) Q
        refine qy (fun _ _ k9 => z_iload_n d_X12_usesOf_71 rfl rfl k9) ?_
        refine qy (fun _ _ k9 => z_iload_n d_X12_usesOf_72 rfl rfl k9) ?_
        refine qy2 (fun _ _ => z_icmp_ge 149 d_X12_usesOf_73 (by decide)) (fun hc5 => ?_) (fun hc5 => ?_)
        · refine qy (fun _ _ k9 => z_aload_n d_X12_usesOf_149 rfl rfl k9) ?_
          refine qy (fun _ _ k9 => z_aload_n d_X12_usesOf_150 rfl rfl k9) ?_
          refine qy (fun _ _ k9 => z_getf (v := qR (m + 28)) d_X12_usesOf_151 fl_X12_95 rput_o rfl k9) ?_
          refine qy (fun _ _ k9 => z_iload_n d_X12_usesOf_154 rfl rfl k9) ?_
          refine qy (fun _ _ k9 => z_iconst d_X12_usesOf_155 (by decide) k9) ?_
          refine qy (fun _ _ k9 => z_iconst d_X12_usesOf_156 (by decide) k9) ?_
          refine qy (fun _ _ k9 => z_aload_n d_X12_usesOf_157 rfl rfl k9) ?_
          refine qy (fun _ _ k9 => z_getf (v := qR (m + 25)) d_X12_usesOf_158 fl_X12_86 rput_o rfl k9) ?_
          obtain ⟨y1, ⟨hsf, hsF⟩, hx1⟩ := y_steps28 (h := h) (n := n) (-1) T (ps T n 0 (-1) 0 i) hm (by omega) hT2 hF2 (ps_bd hB i)
          refine qy (fun _ _ k9 => z_cv0 (M1 := M_X12_steps) d_X12_usesOf_161 lv_X12_336 k_X12_steps [qR (m + 28), qI (n : Int), qI 0, qI (-1), qR (m + 25)] rfl rfl rput_o ⟨_, _, rfl⟩ (Nat.le_of_ble_eq_true rfl) (by decide) (by decide) (Nat.le_of_ble_eq_true rfl) hx1 k9) ?_
          refine qy (fun _ _ k9 => z_iinc (ls' := [qR m, qI (n : Int), qI ((i : Int) + 1), qI (j2 : Int), qU]) d_X12_usesOf_164 rfl (by decide) (by omega) rfl k9) ?_
          refine qy (fun _ _ k9 => z_goto 11 d_X12_usesOf_167 (by decide) k9) ?_
          exact qy (fun _ _ k9 => z_dr (qle_k rfl (qle_k rfl (qle_k (qi (by omega)) (qle_d (qle_k rfl qle_n))))) rfl rfl k9) (kk (i + 1) y1 (⟨by omega, (sq_tr hs2 (sq_fr hsf (by decide))), fr_at hsf 25 (by decide) hT2, fr_at hsf 26 (by decide) hY2, hsF, fr_at hsf 31 (by decide) (T := fun q => qb (ex2 D (vD T By n) n (i + 1) 0 q)) (fun q hq => (hD2 q hq).trans (by rw [show j2 = n by omega]; exact qb_congr ex2_n)), q_lts hL (fun z => by unfold litAt at z; omega)⟩) (by omega))
        · have hz9 : ∀ k, k < n → 0 ≤ z 28 k ∧ z 28 k ≤ 7 := fun k hk => by rw [hF2 k hk]; exact ps_bd hB i k hk
          have e1 := stL_bd (rg := 0) (show j2 < n by omega) hz9
          have e2 := stR_bd (rg := 0) (show j2 < n by omega) hz9
          have e3 := stC_bd (rg := 0) (show j2 < n by omega) (ps_bd (n := n) (rg := 0) (df := -1) (b := 0) hB i)
          have e4 := hz9 j2 (by omega)
          have e5 := hYB (stC n 0 (ps T n 0 (-1) 0 i) j2).toNat (by omega)
          refine qy (fun _ _ k9 => z_aload_n d_X12_usesOf_76 rfl rfl k9) ?_
          refine qy (fun _ _ k9 => z_getf (v := qR (m + 26)) d_X12_usesOf_77 fl_X12_89 rput_o rfl k9) ?_
          refine qy (fun _ _ k9 => z_aload_n d_X12_usesOf_80 rfl rfl k9) ?_
          refine qy (fun _ _ k9 => z_getf (v := qR (m + 28)) d_X12_usesOf_81 fl_X12_95 rput_o rfl k9) ?_
          refine qy (fun _ _ k9 => z_iload_n d_X12_usesOf_84 rfl rfl k9) ?_
          refine qy (fun _ _ k9 => z_ild j2 d_X12_usesOf_85 (rput_a2 28 (t := 0) (n := 32) (F := (z 28)) rfl rfl rfl (by decide) (by decide)) rfl (by omega) k9) ?_
          refine qy (fun _ _ k9 => z_iload_n d_X12_usesOf_86 rfl rfl k9) ?_
          suffices kJ87 : qEy M_X12_usesOf 103 [qR m, qI (n : Int), qI (i : Int), qI (j2 : Int), qU] [qI (qif ((j2 : Int) ≤ 0) 8 ((z 28) (j2 - 1))), qI ((z 28) j2), qR (m + 26)] (rput h m (qup f 48 (bst (ex2 S (vS T n) n (i + 1) 0))) z) Q by
            refine qy2 (fun _ _ => z_if_le 101 d_X12_usesOf_87 (by decide)) (fun hc6 => ?_) (fun hc6 => ?_)
            · refine qy (fun _ _ k9 => z_bipush d_X12_usesOf_101 (by decide) k9) ?_
              exact qy (fun _ _ k9 => z_eq rfl (qc (qi (qif_t hc6).symm) (qc rfl (qc rfl rfl))) rfl k9) kJ87
            · refine qy (fun _ _ k9 => z_aload_n d_X12_usesOf_90 rfl rfl k9) ?_
              refine qy (fun _ _ k9 => z_getf (v := qR (m + 28)) d_X12_usesOf_91 fl_X12_95 rput_o rfl k9) ?_
              refine qy (fun _ _ k9 => z_iload_n d_X12_usesOf_94 rfl rfl k9) ?_
              refine qy (fun _ _ k9 => z_iconst d_X12_usesOf_95 (by decide) k9) ?_
              refine qy (fun _ _ k9 => z_isub d_X12_usesOf_96 (by omega) k9) ?_
              refine qy (fun _ _ k9 => z_ild (j2 - 1) d_X12_usesOf_97 (rput_a2 28 (t := 0) (n := 32) (F := (z 28)) rfl rfl rfl (by decide) (by decide)) (by omega) (by omega) k9) ?_
              refine qy (fun _ _ k9 => z_goto 103 d_X12_usesOf_98 (by decide) k9) ?_
              exact qy (fun _ _ k9 => z_eq rfl (qc (qi (qif_f hc6).symm) (qc rfl (qc rfl rfl))) rfl k9) kJ87
          refine qy (fun _ _ k9 => z_eq rfl (qc (qi (show (qif ((j2 : Int) ≤ 0) 8 ((z 28) (j2 - 1))) = (stL n 0 (z 28) j2) from rfl)) rfl) rfl k9) ?_
          refine qy (fun _ _ k9 => z_iload_n d_X12_usesOf_103 rfl rfl k9) ?_
          refine qy (fun _ _ k9 => z_iconst d_X12_usesOf_104 (by decide) k9) ?_
          refine qy (fun _ _ k9 => z_iadd d_X12_usesOf_105 (by omega) k9) ?_
          refine qy (fun _ _ k9 => z_iload_n d_X12_usesOf_106 rfl rfl k9) ?_
          suffices kJ107 : qEy M_X12_usesOf 123 [qR m, qI (n : Int), qI (i : Int), qI (j2 : Int), qU] [qI (qif (((j2 : Int) + 1) ≥ (n : Int)) 8 ((z 28) (j2 + 1))), qI (stL n 0 (z 28) j2), qI ((z 28) j2), qR (m + 26)] (rput h m (qup f 48 (bst (ex2 S (vS T n) n (i + 1) 0))) z) Q by
            refine qy2 (fun _ _ => z_icmp_ge 121 d_X12_usesOf_107 (by decide)) (fun hc7 => ?_) (fun hc7 => ?_)
            · refine qy (fun _ _ k9 => z_bipush d_X12_usesOf_121 (by decide) k9) ?_
              exact qy (fun _ _ k9 => z_eq rfl (qc (qi (qif_t hc7).symm) (qc rfl (qc rfl (qc rfl rfl)))) rfl k9) kJ107
            · refine qy (fun _ _ k9 => z_aload_n d_X12_usesOf_110 rfl rfl k9) ?_
              refine qy (fun _ _ k9 => z_getf (v := qR (m + 28)) d_X12_usesOf_111 fl_X12_95 rput_o rfl k9) ?_
              refine qy (fun _ _ k9 => z_iload_n d_X12_usesOf_114 rfl rfl k9) ?_
              refine qy (fun _ _ k9 => z_iconst d_X12_usesOf_115 (by decide) k9) ?_
              refine qy (fun _ _ k9 => z_iadd d_X12_usesOf_116 (by omega) k9) ?_
              refine qy (fun _ _ k9 => z_ild (j2 + 1) d_X12_usesOf_117 (rput_a2 28 (t := 0) (n := 32) (F := (z 28)) rfl rfl rfl (by decide) (by decide)) rfl (by omega) k9) ?_
              refine qy (fun _ _ k9 => z_goto 123 d_X12_usesOf_118 (by decide) k9) ?_
              exact qy (fun _ _ k9 => z_eq rfl (qc (qi (qif_f hc7).symm) (qc rfl (qc rfl (qc rfl rfl)))) rfl k9) kJ107
          refine qy (fun _ _ k9 => z_eq rfl (qc (qi (show (qif (((j2 : Int) + 1) ≥ (n : Int)) 8 ((z 28) (j2 + 1))) = (stR n 0 (z 28) j2) from rfl)) rfl) rfl k9) ?_
          refine qy (fun _ _ k9 => z_cs (M1 := M_X12_caseOf) d_X12_usesOf_123 ls_X12_263 k_X12_caseOf [qI ((z 28) j2), qI (stL n 0 (z 28) j2), qI (stR n 0 (z 28) j2)] rfl rfl (Nat.le_of_ble_eq_true rfl) (by decide) (by decide) (Nat.le_of_ble_eq_true rfl) (c_caseOf2 ((z 28) j2) (stL n 0 (z 28) j2) (stR n 0 (z 28) j2) (by omega) (by omega) (by omega)) k9) ?_
          refine qy (fun _ _ k9 => z_eq rfl (qc (qi (show (81 * ((z 28) j2) + 9 * (stL n 0 (z 28) j2) + (stR n 0 (z 28) j2)) = (stC n 0 (ps T n 0 (-1) 0 i) j2) from stC_cg (by omega) hF2)) rfl) rfl k9) ?_
          refine qy (fun _ _ k9 => z_ild ((stC n 0 (ps T n 0 (-1) 0 i) j2).toNat) d_X12_usesOf_126 (rput_a2 26 (t := 0) (n := 648) (F := (z 26)) rfl rfl rfl (by decide) (by decide)) (by omega) (by omega) k9) ?_
          refine qy (fun _ _ k9 => z_eq rfl (qc (qi (show ((z 26) ((stC n 0 (ps T n 0 (-1) 0 i) j2).toNat)) = (By (stC n 0 (ps T n 0 (-1) 0 i) j2).toNat) from hY2 _ (by omega))) rfl) rfl k9) ?_
          refine qy (fun _ _ k9 => z_istore (ls' := [qR m, qI (n : Int), qI (i : Int), qI (j2 : Int), qI (By (stC n 0 (ps T n 0 (-1) 0 i) j2).toNat)]) d_X12_usesOf_127 (by decide) rfl k9) ?_
          refine qy (fun _ _ k9 => z_iload d_X12_usesOf_129 rfl k9) ?_
          refine qy (fun _ _ k9 => z_iconst d_X12_usesOf_131 (by decide) k9) ?_
          refine qy2 (fun _ _ => z_icmp_eq 143 d_X12_usesOf_132 (by decide)) (fun hv9 => ?_) (fun hv9 => ?_)
          · refine qy (fun _ _ k9 => z_iinc (ls' := [qR m, qI (n : Int), qI (i : Int), qI ((j2 : Int) + 1), qI (By (stC n 0 (ps T n 0 (-1) 0 i) j2).toNat)]) d_X12_usesOf_143 rfl (by decide) (by omega) rfl k9) ?_
            refine qy (fun _ _ k9 => z_goto 71 d_X12_usesOf_146 (by decide) k9) ?_
            exact qy (fun _ _ k9 => z_dr (qle_k rfl (qle_k rfl (qle_k rfl (qle_k (qi (by omega)) (qle_d qle_n))))) rfl rfl k9) (kk2 (j2 + 1) z (⟨by omega, hs2, hT2, hY2, hF2, dec_no (v := vD T By n) hD2 hv9⟩) (by omega))
          · refine qy (fun _ _ k9 => z_aload_n d_X12_usesOf_135 rfl rfl k9) ?_
            refine qy (fun _ _ k9 => z_getf (v := qR (m + 31)) d_X12_usesOf_136 fl_X12_104 rput_o rfl k9) ?_
            refine qy (fun _ _ k9 => z_iload d_X12_usesOf_139 rfl k9) ?_
            refine qy (fun _ _ k9 => z_iconst d_X12_usesOf_141 (by decide) k9) ?_
            refine qy (fun _ _ k9 => z_bst ((By (stC n 0 (ps T n 0 (-1) 0 i) j2).toNat).toNat) d_X12_usesOf_142 (rput_a2 31 (t := 2) (n := 96) (F := (z 31)) rfl rfl rfl (by decide) (by decide)) (by omega) (by omega) (by omega) (by first | exact qb_01 _ | decide) k9) ?_
            refine qy (fun _ _ k9 => z_eq rfl rfl (rput_sa 31 rfl rfl (by decide) (by decide)) k9) ?_
            refine qy (fun _ _ k9 => z_iinc (ls' := [qR m, qI (n : Int), qI (i : Int), qI ((j2 : Int) + 1), qI (By (stC n 0 (ps T n 0 (-1) 0 i) j2).toNat)]) d_X12_usesOf_143 rfl (by decide) (by omega) rfl k9) ?_
            refine qy (fun _ _ k9 => z_goto 71 d_X12_usesOf_146 (by decide) k9) ?_
            exact qy (fun _ _ k9 => z_dr (qle_k rfl (qle_k rfl (qle_k rfl (qle_k (qi (by omega)) (qle_d qle_n))))) rfl rfl k9) (kk2 (j2 + 1) (gup z 31 (qup (z 31) ((By (stC n 0 (ps T n 0 (-1) 0 i) j2).toNat).toNat) 1)) (⟨by omega, (sq_up hs2 (by decide)), hT2, hY2, hF2, dec_up (v := vD T By n) hD2 (show 0 ≤ By _ by omega)⟩) (by omega))
      · exact y_ret (hQ x (⟨hs, hT, hY, by rw [rnJ_at (i := i) (by omega) hL (by first | exact Or.inr (show _ > (0 : Int) by omega) | exact Or.inl (by omega))]; exact hD⟩)) (z_vret d_X12_usesOf_68 rfl rfl (rput_cg (qup_cg rfl (by rw [rnJ_at (i := i) (by omega) hL (by first | exact Or.inr (show _ > (0 : Int) by omega) | exact Or.inl (by omega))])) rfl))
  · refine qy (fun _ _ k9 => z_aload_n d_X12_usesOf_26 rfl rfl k9) ?_
    refine qy (fun _ _ k9 => z_dup d_X12_usesOf_27 rfl k9) ?_
    refine qy (fun _ _ k9 => z_getf (v := qI (bst (ex2 S (vS T n) n i j))) d_X12_usesOf_28 fl_X12_360 rput_o rfl k9) ?_
    refine qy (fun _ _ k9 => z_iconst d_X12_usesOf_31 (by decide) k9) ?_
    refine qy (fun _ _ k9 => z_aload_n d_X12_usesOf_32 rfl rfl k9) ?_
    refine qy (fun _ _ k9 => z_getf (v := qR (m + 28)) d_X12_usesOf_33 fl_X12_95 rput_o rfl k9) ?_
    refine qy (fun _ _ k9 => z_iload_n d_X12_usesOf_36 rfl rfl k9) ?_
    refine qy (fun _ _ k9 => z_ild j d_X12_usesOf_37 (rput_a2 28 (t := 0) (n := 32) (F := (x 28)) rfl rfl rfl (by decide) (by decide)) rfl (by omega) k9) ?_
    refine qy (fun _ _ k9 => z_eq rfl (qc (qi (show ((x 28) j) = (vS T n i j) from hF j (by omega))) rfl) rfl k9) ?_
    refine qy (fun _ _ k9 => z_ishl d_X12_usesOf_38 k9) ?_
    refine qy (fun _ _ k9 => z_ior d_X12_usesOf_39 k9) ?_
    refine qy (fun _ _ k9 => z_putf (fs' := [qI (f 0), qI (f 1), qI (f 2), qI (f 3), qI (f 4), qI (f 5), qI (f 6), qI (f 7), qR (m + 1), qR (m + 2), qR (m + 3), qR (m + 4), qR (m + 5), qR (m + 6), qR (m + 7), qR (m + 8), qR (m + 9), qR (m + 10), qI (f 18), qI (f 19), qI (f 20), qR (m + 11), qR (m + 12), qR (m + 13), qR (m + 14), qI (f 25), qR (m + 15), qI (f 27), qR (m + 16), qR (m + 17), qR (m + 18), qR (m + 19), qR (m + 20), qR (m + 21), qR (m + 22), qR (m + 23), qR (m + 24), qI (f 37), qI (f 38), qI (f 39), qI (f 40), qR (m + 25), qR (m + 26), qR (m + 27), qR (m + 28), qR (m + 29), qR (m + 30), qR (m + 31), qI (qOr (bst (ex2 S (vS T n) n i j)) (qShl 1 (vS T n i j))), qR (m + 32), qR (m + 33), qR (m + 34), qR (m + 35), qR (m + 36), qR (m + 37)]) d_X12_usesOf_40 fp_X12_360 rput_o (fun _ => rfl) (fun _ => rfl) (Nat.le_of_ble_eq_true rfl) rfl k9) ?_
    refine qy (fun _ _ k9 => z_eq rfl rfl ((rput_sf (f' := qup (qup f 48 (bst (ex2 S (vS T n) n i j))) 48 (qOr (bst (ex2 S (vS T n) n i j)) (qShl 1 (vS T n i j)))) rfl).trans (rput_cg (qup_qup _ _ _ _) rfl)) k9) ?_
    refine qy (fun _ _ k9 => z_iinc (ls' := [qR m, qI (n : Int), qI (i : Int), qI ((j : Int) + 1), qU]) d_X12_usesOf_43 rfl (by decide) (by omega) rfl k9) ?_
    refine qy (fun _ _ k9 => z_goto 21 d_X12_usesOf_46 (by decide) k9) ?_
    exact qy (fun _ _ k9 => z_eq (qc rfl (qc rfl (qc rfl (qc (qi (by omega)) (qc rfl rfl))))) rfl (rput_cg (qup_cg rfl (by have hb9 : 0 ≤ vS T n i j ∧ vS T n i j ≤ 7 := ps_bd (n := n) (rg := 0) (df := -1) (b := 0) hB i j (by omega); rw [bst_or (by omega) (by omega)]; exact bst_cg (fun k hk => ex2_s.symm))) rfl) k9) (kkj (j + 1) (by omega) (by omega))
/-- over runs of 1 .. n keepers: which MINDS stood, which rules decided -/
noncomputable def usS (T : Nat → Int) : Nat → Nat → Prop
  | 0 => fun _ => False
  | n + 1 => ex2 (usS T n) (vS T (n + 1)) (n + 1) (rnJ T (n + 1) 0 0 + 1) 0
noncomputable def usD (T By : Nat → Int) : Nat → Nat → Prop
  | 0 => fun _ => False
  | n + 1 => ex2 (usD T By n) (vD T By (n + 1)) (n + 1) (rnJ T (n + 1) 0 0) 0
def rlP (C : Nat → Int) (i : Nat) : Prop := ((i % 24 : Nat) : Int) < C (i / 24)
theorem rl_iff {C : Nat → Int} {i : Nat} {z : Int} (e : z = (i : Int)) (h : i < 96) : (0 ≤ z ∧ z ≤ 95 ∧ z % 24 < C (z.toNat / 24)) ↔ rlP C i := by
  subst e
  unfold rlP
  rw [Int.toNat_natCast, Int.natCast_emod]
  exact ⟨fun h => h.2.2, fun q => ⟨by omega, by omega, q⟩⟩
theorem ownF_bd {g : Nat → Nat → Int} : ∀ c, c < 648 → -1 ≤ ownF g c ∧ ownF g c < 96 := fun c _ => bkF_bd _ _ _ _ _ _ _
set_option maxRecDepth 20000 in
set_option maxHeartbeats 1000000 in
theorem c_used {h : qH} {m : Nat} {f : Nat → Int} {g : Nat → Nat → Int} {to : Nat} (what : Int) (hm : 2 ≤ m) (h0 : f 0 = 0) (ht : 1 ≤ to ∧ to ≤ 24) (hw : 0 ≤ what ∧ what ≤ 2) (hO : bkOk (g 2) (g 5)) : ∃ g', (sq g g') ∧ qEx M_X12_used 0 [qR m, qI (to : Int), qI what, qU, qU, qU] [] (rput h m f g) (some (qI (qif (what ≠ 0) (qif (what ≠ 1) (bst (usS (ownT g) to)) (fst (fun q9 => rlP (g 5) q9 ∧ ¬ usD (ownT g) (ownF g) to q9) 96)) (cnt (usD (ownT g) (ownF g) to) 96)))) (rput h m (qup f 48 (bst (usS (ownT g) to))) g') := by
  refine y_in (fun Q hQ => ?_)
  have hOB := ownT_bd hO
  refine qy (fun _ _ k9 => z_aload_n d_X12_used_0 rfl rfl k9) ?_
  refine qy (fun _ _ k9 => z_iconst d_X12_used_1 (by decide) k9) ?_
  refine qy (fun _ _ k9 => z_putf (fs' := [qI 0, qI (f 1), qI (f 2), qI (f 3), qI (f 4), qI (f 5), qI (f 6), qI (f 7), qR (m + 1), qR (m + 2), qR (m + 3), qR (m + 4), qR (m + 5), qR (m + 6), qR (m + 7), qR (m + 8), qR (m + 9), qR (m + 10), qI (f 18), qI (f 19), qI (f 20), qR (m + 11), qR (m + 12), qR (m + 13), qR (m + 14), qI (f 25), qR (m + 15), qI (f 27), qR (m + 16), qR (m + 17), qR (m + 18), qR (m + 19), qR (m + 20), qR (m + 21), qR (m + 22), qR (m + 23), qR (m + 24), qI (f 37), qI (f 38), qI (f 39), qI (f 40), qR (m + 25), qR (m + 26), qR (m + 27), qR (m + 28), qR (m + 29), qR (m + 30), qR (m + 31), qI (f 48), qR (m + 32), qR (m + 33), qR (m + 34), qR (m + 35), qR (m + 36), qR (m + 37)]) d_X12_used_2 fp_X12_127 rput_o (fun _ => rfl) (fun _ => rfl) (Nat.le_of_ble_eq_true rfl) rfl k9) ?_
  refine qy (fun _ _ k9 => z_eq rfl rfl ((rput_sf (f' := qup f 0 0) rfl).trans (rput_cg (qup_self h0) rfl)) k9) ?_
  refine qy (fun _ _ k9 => z_iload_n d_X12_used_5 rfl rfl k9) ?_
  refine qy (fun _ _ k9 => z_iconst d_X12_used_6 (by decide) k9) ?_
  refine qy (fun _ _ k9 => z_bipush d_X12_used_7 (by decide) k9) ?_
  refine qy (fun _ _ k9 => z_cs (M1 := M_X12_in) d_X12_used_9 ls_X12_137 k_X12_in [qI (to : Int), qI 1, qI 24] rfl rfl (Nat.le_of_ble_eq_true rfl) (by decide) (by decide) (Nat.le_of_ble_eq_true rfl) (c_in (to : Int) 1 24) k9) ?_
  refine qy2n (fun _ _ => z_ifeqB 24 d_X12_used_12 (by decide)) (fun hc1 => absurd hc1 (by omega)) (fun hc1 => ?_)
  refine qy (fun _ _ k9 => z_iload_n d_X12_used_15 rfl rfl k9) ?_
  refine qy (fun _ _ k9 => z_iconst d_X12_used_16 (by decide) k9) ?_
  refine qy (fun _ _ k9 => z_iconst d_X12_used_17 (by decide) k9) ?_
  refine qy (fun _ _ k9 => z_cs (M1 := M_X12_in) d_X12_used_18 ls_X12_137 k_X12_in [qI what, qI 0, qI 2] rfl rfl (Nat.le_of_ble_eq_true rfl) (by decide) (by decide) (Nat.le_of_ble_eq_true rfl) (c_in what 0 2) k9) ?_
  refine qy2 (fun _ _ => z_ifneB 26 d_X12_used_21 (by decide)) (fun hc2 => ?_) (fun hc2 => absurd hc2 (by omega))
  refine qy (fun _ _ k9 => z_aload_n d_X12_used_26 rfl rfl k9) ?_
  obtain ⟨y1, ⟨hlf, hlT, hlF⟩, hx1⟩ := y_laysOwn hm
  refine qy (fun _ _ k9 => z_cv0 (M1 := M_X12_laysOwn) d_X12_used_27 lv_X12_275 k_X12_laysOwn [] rfl rfl rput_o ⟨_, _, rfl⟩ (Nat.le_of_ble_eq_true rfl) (by decide) (by decide) (Nat.le_of_ble_eq_true rfl) hx1 k9) ?_
  refine qy (fun _ _ k9 => z_aload_n d_X12_used_30 rfl rfl k9) ?_
  refine qy (fun _ _ k9 => z_iconst d_X12_used_31 (by decide) k9) ?_
  refine qy (fun _ _ k9 => z_putf (fs' := [qI (f 0), qI (f 1), qI (f 2), qI (f 3), qI (f 4), qI (f 5), qI (f 6), qI (f 7), qR (m + 1), qR (m + 2), qR (m + 3), qR (m + 4), qR (m + 5), qR (m + 6), qR (m + 7), qR (m + 8), qR (m + 9), qR (m + 10), qI (f 18), qI (f 19), qI (f 20), qR (m + 11), qR (m + 12), qR (m + 13), qR (m + 14), qI (f 25), qR (m + 15), qI (f 27), qR (m + 16), qR (m + 17), qR (m + 18), qR (m + 19), qR (m + 20), qR (m + 21), qR (m + 22), qR (m + 23), qR (m + 24), qI (f 37), qI (f 38), qI (f 39), qI (f 40), qR (m + 25), qR (m + 26), qR (m + 27), qR (m + 28), qR (m + 29), qR (m + 30), qR (m + 31), qI 0, qR (m + 32), qR (m + 33), qR (m + 34), qR (m + 35), qR (m + 36), qR (m + 37)]) d_X12_used_32 fp_X12_360 rput_o (fun _ => rfl) (fun _ => rfl) (Nat.le_of_ble_eq_true rfl) rfl k9) ?_
  refine qy (fun _ _ k9 => z_eq rfl rfl (rput_sf (f' := (qup f 48 0)) rfl) k9) ?_
  refine qy (fun _ _ k9 => z_iconst d_X12_used_35 (by decide) k9) ?_
  refine qy (fun _ _ k9 => z_istore_n (ls' := [qR m, qI (to : Int), qI what, qI 0, qU, qU]) d_X12_used_36 rfl (by decide) rfl k9) ?_
  refine qy (fun _ _ k9 => z_eq (qc rfl (qc rfl (qc rfl (qc (qi (by omega)) (qc rfl (qc rfl rfl)))))) rfl rfl k9) (y_wh2 (fun (i : Nat) (x : Nat → Nat → Int) => 96 - i) (fun (i : Nat) (x : Nat → Nat → Int) => [qR m, qI (to : Int), qI what, qI (i : Int), qU, qU]) (fun (i : Nat) (x : Nat → Nat → Int) => (rput h m (qup f 48 0) x)) (fun (i : Nat) (x : Nat → Nat → Int) => i ≤ 96 ∧ sq g x ∧ (∀ c, c < 648 → x 25 c = (ownT g) c) ∧ (∀ c, c < 648 → x 26 c = (ownF g) c) ∧ ∀ q, q < i → x 31 q = 0) 0 y1 (⟨by omega, sq_fr hlf (by decide), hlT, hlF, fun k hk => absurd hk (by omega)⟩) (fun i x hp kk => ?_))
  obtain ⟨hi, hs, hT, hY, hZ⟩ := hp
  show qEy M_X12_used 37 [qR m, qI (to : Int), qI what, qI (i : Int), qU, qU] [] (rput h m (qup f 48 0) x) Q
  refine qy (fun _ _ k9 => z_iload_n d_X12_used_37 rfl rfl k9) ?_
  refine qy (fun _ _ k9 => z_bipush d_X12_used_38 (by decide) k9) ?_
  refine qy2 (fun _ _ => z_icmp_ge 56 d_X12_used_40 (by decide)) (fun hc3 => ?_) (fun hc3 => ?_)
  · refine qy (fun _ _ k9 => z_iconst d_X12_used_56 (by decide) k9) ?_
    refine qy (fun _ _ k9 => z_istore_n (ls' := [qR m, qI (to : Int), qI what, qI 1, qU, qU]) d_X12_used_57 rfl (by decide) rfl k9) ?_
    refine qy (fun _ _ k9 => z_eq (qc rfl (qc rfl (qc rfl (qc (qi (by omega)) (qc rfl (qc rfl rfl)))))) rfl (rput_cg (qup_cg rfl bst_0) rfl) k9) (y_wh2 (fun (i : Nat) (x : Nat → Nat → Int) => to - i) (fun (i : Nat) (x : Nat → Nat → Int) => [qR m, qI (to : Int), qI what, qI ((i : Nat) + 1 : Int), qU, qU]) (fun (i : Nat) (x : Nat → Nat → Int) => (rput h m (qup f 48 (bst (usS (ownT g) i))) x)) (fun (i : Nat) (x : Nat → Nat → Int) => i ≤ to ∧ sq g x ∧ (∀ c, c < 648 → x 25 c = (ownT g) c) ∧ (∀ c, c < 648 → x 26 c = (ownF g) c) ∧ ∀ q, q < 96 → x 31 q = qb (usD (ownT g) (ownF g) i q)) 0 x (⟨by omega, hs, hT, hY, fun q hq => (hZ q (by omega)).trans (qb_f id).symm⟩) (fun i x hp kk => ?_))
    obtain ⟨hi, hs, hT, hY, hD⟩ := hp
    show qEy M_X12_used 58 [qR m, qI (to : Int), qI what, qI ((i : Nat) + 1 : Int), qU, qU] [] (rput h m (qup f 48 (bst (usS (ownT g) i))) x) Q
    refine qy (fun _ _ k9 => z_iload_n d_X12_used_58 rfl rfl k9) ?_
    refine qy (fun _ _ k9 => z_iload_n d_X12_used_59 rfl rfl k9) ?_
    refine qy2 (fun _ _ => z_icmp_gt 74 d_X12_used_60 (by decide)) (fun hc4 => ?_) (fun hc4 => ?_)
    · refine qy (fun _ _ k9 => z_iconst d_X12_used_74 (by decide) k9) ?_
      refine qy (fun _ _ k9 => z_istore_n (ls' := [qR m, qI (to : Int), qI what, qI 0, qU, qU]) d_X12_used_75 rfl (by decide) rfl k9) ?_
      refine qy (fun _ _ k9 => z_iconst d_X12_used_76 (by decide) k9) ?_
      refine qy (fun _ _ k9 => z_istore (ls' := [qR m, qI (to : Int), qI what, qI 0, qI (-1), qU]) d_X12_used_77 (by decide) rfl k9) ?_
      refine qy (fun _ _ k9 => z_bipush d_X12_used_79 (by decide) k9) ?_
      refine qy (fun _ _ k9 => z_istore (ls' := [qR m, qI (to : Int), qI what, qI 0, qI (-1), qI 95]) d_X12_used_81 (by decide) rfl k9) ?_
      refine qy (fun _ _ k9 => z_eq (qc rfl (qc rfl (qc rfl (qc (qi (by show (0 : Int) = cnt _ 96 - cnt _ 96; omega)) (qc (qi (rfl)) (qc (qi (by omega)) rfl)))))) rfl (rput_cg (qup_cg rfl (by rw [show i = to by omega])) rfl) k9) (y_wh1 (fun (j : Nat) => 96 - j) (fun (j : Nat) => [qR m, qI (to : Int), qI what, qI (cnt (usD (ownT g) (ownF g) to) 96 - cnt (usD (ownT g) (ownF g) to) (96 - j)), qI (fstF (fun q9 => rlP (g 5) q9 ∧ ¬ usD (ownT g) (ownF g) to q9) j (96 - j)), qI (95 - (j : Int))]) (fun (j : Nat) => (rput h m (qup f 48 (bst (usS (ownT g) to))) x)) (fun (j : Nat) => j ≤ 96) 0 (Nat.zero_le 96) (fun j hj kkj => ?_))
      show qEy M_X12_used 83 [qR m, qI (to : Int), qI what, qI (cnt (usD (ownT g) (ownF g) to) 96 - cnt (usD (ownT g) (ownF g) to) (96 - j)), qI (fstF (fun q9 => rlP (g 5) q9 ∧ ¬ usD (ownT g) (ownF g) to q9) j (96 - j)), qI (95 - (j : Int))] [] (rput h m (qup f 48 (bst (usS (ownT g) to))) x) Q
      have hc1 := cnt_bd (usD (ownT g) (ownF g) to) 96
      have hc2 := cnt_bd (usD (ownT g) (ownF g) to) (96 - j)
      have hq9 := qb_bd (usD (ownT g) (ownF g) to (95 - j))
      refine qy (fun _ _ k9 => z_iload d_X12_used_83 rfl k9) ?_
      refine qy2 (fun _ _ => z_if_lt 140 d_X12_used_85 (by decide)) (fun hc5 => ?_) (fun hc5 => ?_)
      · refine qy (fun _ _ k9 => z_iload_n d_X12_used_140 rfl rfl k9) ?_
        suffices kJ141 : qEy M_X12_used 162 [qR m, qI (to : Int), qI what, qI (cnt (usD (ownT g) (ownF g) to) 96 - cnt (usD (ownT g) (ownF g) to) (96 - j)), qI (fstF (fun q9 => rlP (g 5) q9 ∧ ¬ usD (ownT g) (ownF g) to q9) j (96 - j)), qI (95 - (j : Int))] [qI (qif (what ≠ 0) (qif (what ≠ 1) (bst (usS (ownT g) to)) (fstF (fun q9 => rlP (g 5) q9 ∧ ¬ usD (ownT g) (ownF g) to q9) j (96 - j))) (cnt (usD (ownT g) (ownF g) to) 96 - cnt (usD (ownT g) (ownF g) to) (96 - j)))] (rput h m (qup f 48 (bst (usS (ownT g) to))) x) Q by
          refine qy2 (fun _ _ => z_if_ne 148 d_X12_used_141 (by decide)) (fun hc6 => ?_) (fun hc6 => ?_)
          · refine qy (fun _ _ k9 => z_iload_n d_X12_used_148 rfl rfl k9) ?_
            refine qy (fun _ _ k9 => z_iconst d_X12_used_149 (by decide) k9) ?_
            suffices kJ150 : qEy M_X12_used 162 [qR m, qI (to : Int), qI what, qI (cnt (usD (ownT g) (ownF g) to) 96 - cnt (usD (ownT g) (ownF g) to) (96 - j)), qI (fstF (fun q9 => rlP (g 5) q9 ∧ ¬ usD (ownT g) (ownF g) to q9) j (96 - j)), qI (95 - (j : Int))] [qI (qif (what ≠ 1) (bst (usS (ownT g) to)) (fstF (fun q9 => rlP (g 5) q9 ∧ ¬ usD (ownT g) (ownF g) to q9) j (96 - j)))] (rput h m (qup f 48 (bst (usS (ownT g) to))) x) Q by
              refine qy2 (fun _ _ => z_icmp_ne 158 d_X12_used_150 (by decide)) (fun hc7 => ?_) (fun hc7 => ?_)
              · refine qy (fun _ _ k9 => z_aload_n d_X12_used_158 rfl rfl k9) ?_
                refine qy (fun _ _ k9 => z_getf (v := qI (bst (usS (ownT g) to))) d_X12_used_159 fl_X12_360 rput_o rfl k9) ?_
                exact qy (fun _ _ k9 => z_eq rfl (qc (qi (qif_t hc7).symm) rfl) rfl k9) kJ150
              · refine qy (fun _ _ k9 => z_iload d_X12_used_153 rfl k9) ?_
                refine qy (fun _ _ k9 => z_goto 162 d_X12_used_155 (by decide) k9) ?_
                exact qy (fun _ _ k9 => z_eq rfl (qc (qi (qif_f hc7).symm) rfl) rfl k9) kJ150
            exact qy (fun _ _ k9 => z_eq rfl (qc (qi (qif_t hc6).symm) rfl) rfl k9) kJ141
          · refine qy (fun _ _ k9 => z_iload_n d_X12_used_144 rfl rfl k9) ?_
            refine qy (fun _ _ k9 => z_goto 162 d_X12_used_145 (by decide) k9) ?_
            exact qy (fun _ _ k9 => z_eq rfl (qc (qi (qif_f hc6).symm) rfl) rfl k9) kJ141
        exact y_ret (hQ x hs) (z_iret d_X12_used_162 rfl (qsi (by rw [show j = 96 by omega]; exact qif_cg Iff.rfl rfl (by show cnt _ 96 = cnt _ 96 - 0; omega))) rfl)
      · refine qy (fun _ _ k9 => z_iload_n d_X12_used_88 rfl rfl k9) ?_
        refine qy (fun _ _ k9 => z_aload_n d_X12_used_89 rfl rfl k9) ?_
        refine qy (fun _ _ k9 => z_getf (v := qR (m + 31)) d_X12_used_90 fl_X12_104 rput_o rfl k9) ?_
        refine qy (fun _ _ k9 => z_iload d_X12_used_93 rfl k9) ?_
        refine qy (fun _ _ k9 => z_bld (95 - j) d_X12_used_95 (rput_a2 31 (t := 2) (n := 96) (F := (x 31)) rfl rfl rfl (by decide) (by decide)) (by omega) (by omega) k9) ?_
        refine qy (fun _ _ k9 => z_eq rfl (qc (qi (show ((x 31) (95 - j)) = (qb (usD (ownT g) (ownF g) to (95 - j))) from by rw [hD _ (by omega), show i = to by omega])) rfl) rfl k9) ?_
        suffices kJ96 : qEy M_X12_used 104 [qR m, qI (to : Int), qI what, qI (cnt (usD (ownT g) (ownF g) to) 96 - cnt (usD (ownT g) (ownF g) to) (96 - j)), qI (fstF (fun q9 => rlP (g 5) q9 ∧ ¬ usD (ownT g) (ownF g) to q9) j (96 - j)), qI (95 - (j : Int))] [qI (qb (usD (ownT g) (ownF g) to (95 - j))), qI (cnt (usD (ownT g) (ownF g) to) 96 - cnt (usD (ownT g) (ownF g) to) (96 - j))] (rput h m (qup f 48 (bst (usS (ownT g) to))) x) Q by
          refine qy2n (fun _ _ => z_ifeqB 103 d_X12_used_96 (by decide)) (fun hc8 => ?_) (fun hc8 => ?_)
          · refine qy (fun _ _ k9 => z_iconst d_X12_used_103 (by decide) k9) ?_
            exact qy (fun _ _ k9 => z_eq rfl (qc (qi (qb_f (by omega)).symm) (qc rfl rfl)) rfl k9) kJ96
          · refine qy (fun _ _ k9 => z_iconst d_X12_used_99 (by decide) k9) ?_
            refine qy (fun _ _ k9 => z_goto 104 d_X12_used_100 (by decide) k9) ?_
            exact qy (fun _ _ k9 => z_eq rfl (qc (qi (qb_t (by omega)).symm) (qc rfl rfl)) rfl k9) kJ96
        refine qy (fun _ _ k9 => z_iadd d_X12_used_104 (by omega) k9) ?_
        refine qy (fun _ _ k9 => z_istore_n (ls' := [qR m, qI (to : Int), qI what, qI ((cnt (usD (ownT g) (ownF g) to) 96 - cnt (usD (ownT g) (ownF g) to) (96 - j)) + (qb (usD (ownT g) (ownF g) to (95 - j)))), qI (fstF (fun q9 => rlP (g 5) q9 ∧ ¬ usD (ownT g) (ownF g) to q9) j (96 - j)), qI (95 - (j : Int))]) d_X12_used_105 rfl (by decide) rfl k9) ?_
        refine qy (fun _ _ k9 => z_aload_n d_X12_used_106 rfl rfl k9) ?_
        refine qy (fun _ _ k9 => z_iload d_X12_used_107 rfl k9) ?_
        refine qy (fun _ _ k9 => z_cv (M1 := M_X12_isRule) d_X12_used_109 lv_X12_366 k_X12_isRule [qI (95 - (j : Int))] rfl rfl rput_o ⟨_, _, rfl⟩ (Nat.le_of_ble_eq_true rfl) (by decide) (by decide) (Nat.le_of_ble_eq_true rfl) (c_isRule (95 - (j : Int)) hm) k9) ?_
        refine qy (fun _ _ k9 => z_eq rfl (qc (qi (show (qb (0 ≤ (95 - (j : Int)) ∧ (95 - (j : Int)) ≤ 95 ∧ (95 - (j : Int)) % 24 < (x 5) ((95 - (j : Int)).toNat / 24))) = (qb (rlP (g 5) (95 - j))) from qb_congr (by rw [hs 5 (by decide) (by decide)]; exact rl_iff (by omega) (by omega)))) rfl) rfl k9) ?_
        refine qy2n (fun _ _ => z_ifeqB 130 d_X12_used_112 (by decide)) (fun hr9 => ?_) (fun hr9 => ?_)
        · refine qy (fun _ _ k9 => z_iload d_X12_used_130 rfl k9) ?_
          refine qy (fun _ _ k9 => z_istore (ls' := [qR m, qI (to : Int), qI what, qI ((cnt (usD (ownT g) (ownF g) to) 96 - cnt (usD (ownT g) (ownF g) to) (96 - j)) + (qb (usD (ownT g) (ownF g) to (95 - j)))), qI (fstF (fun q9 => rlP (g 5) q9 ∧ ¬ usD (ownT g) (ownF g) to q9) j (96 - j)), qI (95 - (j : Int))]) d_X12_used_132 (by decide) rfl k9) ?_
          refine qy (fun _ _ k9 => z_iinc (ls' := [qR m, qI (to : Int), qI what, qI ((cnt (usD (ownT g) (ownF g) to) 96 - cnt (usD (ownT g) (ownF g) to) (96 - j)) + (qb (usD (ownT g) (ownF g) to (95 - j)))), qI (fstF (fun q9 => rlP (g 5) q9 ∧ ¬ usD (ownT g) (ownF g) to q9) j (96 - j)), qI ((95 - (j : Int)) + (-1))]) d_X12_used_134 rfl (by decide) (by omega) rfl k9) ?_
          refine qy (fun _ _ k9 => z_goto 83 d_X12_used_137 (by decide) k9) ?_
          exact qy (fun _ _ k9 => z_eq (qc rfl (qc rfl (qc rfl (qc (qi (by rw [show 96 - j = 95 - j + 1 by omega, show 96 - (j + 1) = 95 - j by omega, show cnt (usD (ownT g) (ownF g) to) (95 - j + 1) = cnt (usD (ownT g) (ownF g) to) (95 - j) + qb (usD (ownT g) (ownF g) to (95 - j)) from rfl]; omega)) (qc (qi (by rw [show 96 - (j + 1) = 95 - j by omega, fstF_s]; first | (rw [qif_t ⟨hr9, hd9⟩]; omega) | rw [qif_f (fun z9 => hr9 z9.1), show 95 - j + 1 = 96 - j by omega] | rw [qif_f (fun z9 => z9.2 hd9), show 95 - j + 1 = 96 - j by omega])) (qc (qi (by omega)) rfl)))))) rfl rfl k9) (kkj (j + 1) (by omega) (by omega))
        · refine qy (fun _ _ k9 => z_aload_n d_X12_used_115 rfl rfl k9) ?_
          refine qy (fun _ _ k9 => z_getf (v := qR (m + 31)) d_X12_used_116 fl_X12_104 rput_o rfl k9) ?_
          refine qy (fun _ _ k9 => z_iload d_X12_used_119 rfl k9) ?_
          refine qy (fun _ _ k9 => z_bld (95 - j) d_X12_used_121 (rput_a2 31 (t := 2) (n := 96) (F := (x 31)) rfl rfl rfl (by decide) (by decide)) (by omega) (by omega) k9) ?_
          refine qy (fun _ _ k9 => z_eq rfl (qc (qi (show ((x 31) (95 - j)) = (qb (usD (ownT g) (ownF g) to (95 - j))) from by rw [hD _ (by omega), show i = to by omega])) rfl) rfl k9) ?_
          refine qy2 (fun _ _ => z_ifneB 130 d_X12_used_122 (by decide)) (fun hd9 => ?_) (fun hd9 => ?_)
          · refine qy (fun _ _ k9 => z_iload d_X12_used_130 rfl k9) ?_
            refine qy (fun _ _ k9 => z_istore (ls' := [qR m, qI (to : Int), qI what, qI ((cnt (usD (ownT g) (ownF g) to) 96 - cnt (usD (ownT g) (ownF g) to) (96 - j)) + (qb (usD (ownT g) (ownF g) to (95 - j)))), qI (fstF (fun q9 => rlP (g 5) q9 ∧ ¬ usD (ownT g) (ownF g) to q9) j (96 - j)), qI (95 - (j : Int))]) d_X12_used_132 (by decide) rfl k9) ?_
            refine qy (fun _ _ k9 => z_iinc (ls' := [qR m, qI (to : Int), qI what, qI ((cnt (usD (ownT g) (ownF g) to) 96 - cnt (usD (ownT g) (ownF g) to) (96 - j)) + (qb (usD (ownT g) (ownF g) to (95 - j)))), qI (fstF (fun q9 => rlP (g 5) q9 ∧ ¬ usD (ownT g) (ownF g) to q9) j (96 - j)), qI ((95 - (j : Int)) + (-1))]) d_X12_used_134 rfl (by decide) (by omega) rfl k9) ?_
            refine qy (fun _ _ k9 => z_goto 83 d_X12_used_137 (by decide) k9) ?_
            exact qy (fun _ _ k9 => z_eq (qc rfl (qc rfl (qc rfl (qc (qi (by rw [show 96 - j = 95 - j + 1 by omega, show 96 - (j + 1) = 95 - j by omega, show cnt (usD (ownT g) (ownF g) to) (95 - j + 1) = cnt (usD (ownT g) (ownF g) to) (95 - j) + qb (usD (ownT g) (ownF g) to (95 - j)) from rfl]; omega)) (qc (qi (by rw [show 96 - (j + 1) = 95 - j by omega, fstF_s]; first | (rw [qif_t ⟨hr9, hd9⟩]; omega) | rw [qif_f (fun z9 => hr9 z9.1), show 95 - j + 1 = 96 - j by omega] | rw [qif_f (fun z9 => z9.2 hd9), show 95 - j + 1 = 96 - j by omega])) (qc (qi (by omega)) rfl)))))) rfl rfl k9) (kkj (j + 1) (by omega) (by omega))
          · refine qy (fun _ _ k9 => z_iload d_X12_used_125 rfl k9) ?_
            refine qy (fun _ _ k9 => z_goto 132 d_X12_used_127 (by decide) k9) ?_
            refine qy (fun _ _ k9 => z_istore (ls' := [qR m, qI (to : Int), qI what, qI ((cnt (usD (ownT g) (ownF g) to) 96 - cnt (usD (ownT g) (ownF g) to) (96 - j)) + (qb (usD (ownT g) (ownF g) to (95 - j)))), qI (95 - (j : Int)), qI (95 - (j : Int))]) d_X12_used_132 (by decide) rfl k9) ?_
            refine qy (fun _ _ k9 => z_iinc (ls' := [qR m, qI (to : Int), qI what, qI ((cnt (usD (ownT g) (ownF g) to) 96 - cnt (usD (ownT g) (ownF g) to) (96 - j)) + (qb (usD (ownT g) (ownF g) to (95 - j)))), qI (95 - (j : Int)), qI ((95 - (j : Int)) + (-1))]) d_X12_used_134 rfl (by decide) (by omega) rfl k9) ?_
            refine qy (fun _ _ k9 => z_goto 83 d_X12_used_137 (by decide) k9) ?_
            exact qy (fun _ _ k9 => z_eq (qc rfl (qc rfl (qc rfl (qc (qi (by rw [show 96 - j = 95 - j + 1 by omega, show 96 - (j + 1) = 95 - j by omega, show cnt (usD (ownT g) (ownF g) to) (95 - j + 1) = cnt (usD (ownT g) (ownF g) to) (95 - j) + qb (usD (ownT g) (ownF g) to (95 - j)) from rfl]; omega)) (qc (qi (by rw [show 96 - (j + 1) = 95 - j by omega, fstF_s]; first | (rw [qif_t ⟨hr9, hd9⟩]; omega) | rw [qif_f (fun z9 => hr9 z9.1), show 95 - j + 1 = 96 - j by omega] | rw [qif_f (fun z9 => z9.2 hd9), show 95 - j + 1 = 96 - j by omega])) (qc (qi (by omega)) rfl)))))) rfl rfl k9) (kkj (j + 1) (by omega) (by omega))
    · refine qy (fun _ _ k9 => z_aload_n d_X12_used_63 rfl rfl k9) ?_
      refine qy (fun _ _ k9 => z_iload_n d_X12_used_64 rfl rfl k9) ?_
      obtain ⟨y2, ⟨hus, huT, huY, huD⟩, hx2⟩ := c_usesOf (h := h) (f := (qup f 48 (bst (usS (ownT g) i)))) (n := i + 1) (ownT g) (ownF g) (usD (ownT g) (ownF g) i) (usS (ownT g) i) hm (by omega) hT hOB hY ownF_bd hD rfl
      refine qy (fun _ _ k9 => z_cv0 (M1 := M_X12_usesOf) d_X12_used_65 lv_X12_363 k_X12_usesOf [qI ((i : Nat) + 1 : Int)] rfl rfl rput_o ⟨_, _, rfl⟩ (Nat.le_of_ble_eq_true rfl) (by decide) (by decide) (Nat.le_of_ble_eq_true rfl) hx2 k9) ?_
      refine qy (fun _ _ k9 => z_eq rfl rfl (rput_cg (qup_qup _ _ _ _) rfl) k9) ?_
      refine qy (fun _ _ k9 => z_iinc (ls' := [qR m, qI (to : Int), qI what, qI (((i : Nat) + 1 : Int) + 1), qU, qU]) d_X12_used_68 rfl (by decide) (by omega) rfl k9) ?_
      refine qy (fun _ _ k9 => z_goto 58 d_X12_used_71 (by decide) k9) ?_
      exact qy (fun _ _ k9 => z_eq (qc rfl (qc rfl (qc rfl (qc (qi (by omega)) (qc rfl (qc rfl rfl)))))) rfl rfl k9) (kk (i + 1) y2 (⟨by omega, (sq_tr hs hus), huT, huY, huD⟩) (by omega))
  · refine qy (fun _ _ k9 => z_aload_n d_X12_used_43 rfl rfl k9) ?_
    refine qy (fun _ _ k9 => z_getf (v := qR (m + 31)) d_X12_used_44 fl_X12_104 rput_o rfl k9) ?_
    refine qy (fun _ _ k9 => z_iload_n d_X12_used_47 rfl rfl k9) ?_
    refine qy (fun _ _ k9 => z_iconst d_X12_used_48 (by decide) k9) ?_
    refine qy (fun _ _ k9 => z_bst i d_X12_used_49 (rput_a2 31 (t := 2) (n := 96) (F := (x 31)) rfl rfl rfl (by decide) (by decide)) (by omega) rfl (by omega) (by first | exact qb_01 _ | decide) k9) ?_
    refine qy (fun _ _ k9 => z_eq rfl rfl (rput_sa 31 rfl rfl (by decide) (by decide)) k9) ?_
    refine qy (fun _ _ k9 => z_iinc (ls' := [qR m, qI (to : Int), qI what, qI ((i : Int) + 1), qU, qU]) d_X12_used_50 rfl (by decide) (by omega) rfl k9) ?_
    refine qy (fun _ _ k9 => z_goto 37 d_X12_used_53 (by decide) k9) ?_
    exact qy (fun _ _ k9 => z_eq (qc rfl (qc rfl (qc rfl (qc (qi (by omega)) (qc rfl (qc rfl rfl)))))) rfl rfl k9) (kk (i + 1) (gup x 31 (qup (x 31) i 0)) (⟨by omega, (sq_up hs (by decide)), hT, hY, fun k hk => if e : k = i then (by show qup (x 31) i 0 k = 0; rw [e, qup_eq]) else (by show qup (x 31) i 0 k = 0; rw [qup_ne e]; exact hZ k (by omega))⟩) (by omega))
set_option maxRecDepth 20000 in
set_option maxHeartbeats 4000000 in
theorem c_used_no {h : qH} {m : Nat} {f : Nat → Int} {g : Nat → Nat → Int} (to what : Int) (hm : 2 ≤ m) (h0 : f 0 = 0) (hno : ¬ ((1 ≤ to ∧ to ≤ 24) ∧ 0 ≤ what ∧ what ≤ 2)) : qEx M_X12_used 0 [qR m, qI to, qI what, qU, qU, qU] [] (rput h m f g) (some (qI (-1))) (rput h m f g) := by
  refine q_gen (fun r hr er eh => ?_)
  refine z_aload_n d_X12_used_0 rfl rfl ?_
  refine z_iconst d_X12_used_1 (by decide) ?_
  refine z_putf (fs' := [qI 0, qI (f 1), qI (f 2), qI (f 3), qI (f 4), qI (f 5), qI (f 6), qI (f 7), qR (m + 1), qR (m + 2), qR (m + 3), qR (m + 4), qR (m + 5), qR (m + 6), qR (m + 7), qR (m + 8), qR (m + 9), qR (m + 10), qI (f 18), qI (f 19), qI (f 20), qR (m + 11), qR (m + 12), qR (m + 13), qR (m + 14), qI (f 25), qR (m + 15), qI (f 27), qR (m + 16), qR (m + 17), qR (m + 18), qR (m + 19), qR (m + 20), qR (m + 21), qR (m + 22), qR (m + 23), qR (m + 24), qI (f 37), qI (f 38), qI (f 39), qI (f 40), qR (m + 25), qR (m + 26), qR (m + 27), qR (m + 28), qR (m + 29), qR (m + 30), qR (m + 31), qI (f 48), qR (m + 32), qR (m + 33), qR (m + 34), qR (m + 35), qR (m + 36), qR (m + 37)]) d_X12_used_2 fp_X12_127 rput_o (fun _ => rfl) (fun _ => rfl) (Nat.le_of_ble_eq_true rfl) rfl ?_
  refine z_eq rfl rfl ((rput_sf (f' := qup f 0 0) rfl).trans (rput_cg (qup_self h0) rfl)) ?_
  refine z_iload_n d_X12_used_5 rfl rfl ?_
  refine z_iconst d_X12_used_6 (by decide) ?_
  refine z_bipush d_X12_used_7 (by decide) ?_
  refine z_cs (M1 := M_X12_in) d_X12_used_9 ls_X12_137 k_X12_in [qI to, qI 1, qI 24] rfl rfl (Nat.le_of_ble_eq_true rfl) (by decide) (by decide) (Nat.le_of_ble_eq_true rfl) (c_in to 1 24) ?_
  refine z_ifeqB 24 d_X12_used_12 (by decide) (fun hc1 => ?_) (fun hc1 => ?_)
  · refine z_iconst d_X12_used_24 (by decide) ?_
    exact z_iret d_X12_used_25 rfl er eh
  · refine z_iload_n d_X12_used_15 rfl rfl ?_
    refine z_iconst d_X12_used_16 (by decide) ?_
    refine z_iconst d_X12_used_17 (by decide) ?_
    refine z_cs (M1 := M_X12_in) d_X12_used_18 ls_X12_137 k_X12_in [qI what, qI 0, qI 2] rfl rfl (Nat.le_of_ble_eq_true rfl) (by decide) (by decide) (Nat.le_of_ble_eq_true rfl) (c_in what 0 2) ?_
    refine z_ifneB 26 d_X12_used_21 (by decide) (fun hc2 => ?_) (fun hc2 => ?_)
    · exact absurd (by omega) hno
    · refine z_iconst d_X12_used_24 (by decide) ?_
      exact z_iret d_X12_used_25 rfl er eh
