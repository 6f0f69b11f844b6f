/-! ===== CONTRACTS: forebears ===== -/
def ac8 (k c j : Nat) : Nat := if j / 8 < k % 8 ∨ (j / 8 = k % 8 ∧ j % 8 < c) then k / 8 + 1 else k / 8
noncomputable def cO (T W : Nat → Int) (mi : Int) (k c j : Nat) : Int := qif (j / 8 = 8) 0 (wA T W mi (j / 8) (j % 8) (ac8 k c j))
section Fore
variable {T W V Y : Nat → Int} {mi : Int} {k c j : Nat}
theorem cO_bd : 0 ≤ cO T W mi k c j ∧ cO T W mi k c j < 1000000007 := by
  have h := wA_bd (T := T) (W := W) (mi := mi) (b := j / 8) (c := j % 8) (ac8 k c j)
  unfold cO
  exact qif_or (fun z => 0 ≤ z ∧ z < (1000000007 : Int)) (by omega) h
theorem cO_ac {k' c' : Nat} (h : ¬ j / 8 = 8 → ac8 k c j = ac8 k' c' j) : cO T W mi k c j = cO T W mi k' c' j := by
  unfold cO
  by_cases e : j / 8 = 8
  · rw [qif_t e, qif_t e]
  · rw [h e]
theorem cO_end (hk : k < 72) (hj : j < 72) : cO T W mi k 8 j = cO T W mi (k + 1) 0 j := cO_ac (fun _ => by unfold ac8; split <;> split <;> omega)
theorem cO_skip (hj : j < 72) (hc : c ≤ 8) (h : W (9 * (k / 8) + k % 8) = 0) : cO T W mi k c j = cO T W mi k 8 j := by
  by_cases e : j / 8 = k % 8 ∧ ¬ j % 8 < c
  · have e1 : ac8 k c j = k / 8 := by unfold ac8; rw [if_neg (by omega)]
    have e2 : ac8 k 8 j = k / 8 + 1 := by unfold ac8; rw [if_pos (by omega)]
    unfold cO
    rw [e1, e2, wA_0 (by rw [e.1]; exact h)]
  · exact cO_ac (fun _ => by unfold ac8; split <;> split <;> omega)
theorem cO_no (hj : j < 72) (h : T (81 * (k % 8) + 9 * (k / 8) + c) ≠ mi) : cO T W mi k c j = cO T W mi k (c + 1) j := by
  by_cases e : j / 8 = k % 8 ∧ j % 8 = c
  · have e1 : ac8 k c j = k / 8 := by unfold ac8; rw [if_neg (by omega)]
    have e2 : ac8 k (c + 1) j = k / 8 + 1 := by unfold ac8; rw [if_pos (by omega)]
    unfold cO
    rw [e1, e2, e.1, e.2]
    refine qif_cg Iff.rfl rfl ?_
    show _ = qif (T (81 * (k % 8) + 9 * (k / 8) + c) = mi) _ _
    rw [qif_f h]
  · exact cO_ac (fun _ => by unfold ac8; split <;> split <;> omega)
theorem cO_yes (hY : ∀ j, j < 72 → Y j = cO T W mi k c j) (hk : k < 72) (hc : c < 8) (h2 : T (81 * (k % 8) + 9 * (k / 8) + c) = mi) (hj : j < 72) : qup Y (k % 8 * 8 + c) ((Y (k % 8 * 8 + c) + W (9 * (k / 8) + k % 8)) % 1000000007) j = cO T W mi k (c + 1) j := by
  by_cases e : j = k % 8 * 8 + c
  · have d1 : j / 8 = k % 8 := by omega
    have d2 : j % 8 = c := by omega
    have e1 : ac8 k c j = k / 8 := by unfold ac8; rw [if_neg (by omega)]
    have e2 : ac8 k (c + 1) j = k / 8 + 1 := by unfold ac8; rw [if_pos (by omega)]
    rw [← e, qup_eq, hY j hj]
    unfold cO
    rw [qif_f (show ¬ j / 8 = 8 by omega), qif_f (show ¬ j / 8 = 8 by omega), e1, e2, d1, d2]
    show _ = qif (T (81 * (k % 8) + 9 * (k / 8) + c) = mi) _ _
    rw [qif_t h2]
  · rw [qup_ne e, hY j hj]
    exact cO_ac (fun _ => by unfold ac8; split <;> split <;> omega)
theorem cO_0 (hj : j < 72) : cO T W mi 0 0 j = 0 := by
  unfold cO
  by_cases e : j / 8 = 8
  · rw [qif_t e]
  · rw [qif_f e, show ac8 0 0 j = 0 by unfold ac8; rw [if_neg (by omega)]]
    rfl
end Fore
set_option maxRecDepth 20000 in
set_option maxHeartbeats 1000000 in
theorem c_goRight0 {h : qH} {F G : Nat → Nat → Int} {d : Nat} {T W : Nat → Int} (mi : Int) (hs : xAr d 0 648) (hd : d < 172) (hT : ∀ c, c < 648 → G d c = T c) (hV : ∀ j, j < 72 → G 217 j = W (9 * (j / 8) + j % 8)) (hWb : ∀ j, 0 ≤ W j ∧ W j < 1000000007) (hfl : F 216 0 = 0) : ∃ F' G', (F' = gup F 216 (qup (F 216) 0 1) ∧ (∀ a, a ≠ 218 → G' a = G a) ∧ ∀ j, j < 72 → G' 218 j = cO T W mi 72 0 j) ∧ qEx M_X1_goRight 0 [qR 216, qI mi, qR d, qU, qU, qU, qU] [] (xput h F G) none (xput h F' G') := by
  refine x_in (fun Q hQ => ?_)
  refine qy (fun _ _ k9 => z_aload_n d_X1_goRight_0 rfl rfl k9) ?_
  refine qy (fun _ _ k9 => z_getf (v := qR 218) d_X1_goRight_1 fl_X1_15 ((xput_ob (c := (F 216)) xi_216 rfl (xsh_1 xo_216)).trans (by rw [hfl]; try rfl)) rfl k9) ?_
  refine qy (fun _ _ k9 => z_lconst d_X1_goRight_4 (z := 0) (by decide) k9) ?_
  refine qy (fun _ _ k9 => z_cs0 (M1 := M_J7_fill_d0a16) d_X1_goRight_5 ls_X1_18 k_J7_fill_d0a16 [qR 218, qL 0] rfl rfl (Nat.le_of_ble_eq_true rfl) (by decide) (by decide) (Nat.le_of_ble_eq_true rfl) (c_fillL (xput_ar (g := (G 218)) xa_218 rfl) (by decide) (by decide)) k9) ?_
  refine qy (fun _ _ k9 => z_eq rfl rfl (xput_sa xa_218) k9) ?_
  refine qy (fun _ _ k9 => z_iconst d_X1_goRight_8 (by decide) k9) ?_
  refine qy (fun _ _ k9 => z_istore_n (ls' := [qR 216, qI mi, qR d, qI 0, qU, qU, qU]) d_X1_goRight_9 rfl (by decide) rfl k9) ?_
  refine qy (fun _ _ k9 => z_eq (qc rfl (qc rfl (qc rfl (qc (qi (rfl)) (qc rfl (qc rfl (qc rfl rfl))))))) rfl rfl k9) (y_wh2 (fun (k : Nat) (Ga : Nat → Nat → Int) => 72 - k) (fun (k : Nat) (Ga : Nat → Nat → Int) => [qR 216, qI mi, qR d, qI (k : Int), qU, qU, qU]) (fun (k : Nat) (Ga : Nat → Nat → Int) => (xput h F Ga)) (fun (k : Nat) (Ga : Nat → Nat → Int) => k ≤ 72 ∧ (∀ a, a ≠ 218 → Ga a = G a) ∧ ∀ j, j < 72 → Ga 218 j = cO T W mi k 0 j) 0 (gup G 218 (qmx 72 (fun _ => 0) (G 218))) (⟨by omega, fun a ha => gup_ne ha, fun j hj => by rw [gup_eq, qmx_lt hj]; exact (cO_0 hj).symm⟩) (fun k Ga hp k1 => ?_))
  obtain ⟨hk72, hfr, hY⟩ := hp
  show qEy M_X1_goRight 10 [qR 216, qI mi, qR d, qI (k : Int), qU, qU, qU] [] (xput h F Ga) Q
  refine qy (fun _ _ k9 => z_iload_n d_X1_goRight_10 rfl rfl k9) ?_
  refine qy (fun _ _ k9 => z_bipush d_X1_goRight_11 (by decide) k9) ?_
  refine qy2 (fun _ _ => z_icmp_ge 107 d_X1_goRight_13 (by decide)) (fun hc1 => ?_) (fun hc1 => ?_)
  · refine qy (fun _ _ k9 => z_aload_n d_X1_goRight_107 rfl rfl k9) ?_
    refine qy (fun _ _ k9 => z_getf (v := qR 217) d_X1_goRight_108 fl_X1_9 ((xput_ob (c := (F 216)) xi_216 rfl (xsh_1 xo_216)).trans (by rw [hfl]; try rfl)) rfl k9) ?_
    refine qy (fun _ _ k9 => z_astore_n (ls' := [qR 216, qI mi, qR d, qR 217, qU, qU, qU]) d_X1_goRight_111 rfl (by decide) rfl k9) ?_
    refine qy (fun _ _ k9 => z_aload_n d_X1_goRight_112 rfl rfl k9) ?_
    refine qy (fun _ _ k9 => z_aload_n d_X1_goRight_113 rfl rfl k9) ?_
    refine qy (fun _ _ k9 => z_getf (v := qR 218) d_X1_goRight_114 fl_X1_15 ((xput_ob (c := (F 216)) xi_216 rfl (xsh_1 xo_216)).trans (by rw [hfl]; try rfl)) rfl k9) ?_
    refine qy (fun _ _ k9 => z_putf (fs' := [qR 218, qR 218]) d_X1_goRight_117 fp_X1_9 ((xput_ob (c := (F 216)) xi_216 rfl (xsh_1 xo_216)).trans (by rw [hfl]; try rfl)) (fun _ => rfl) (fun _ => rfl) (Nat.le_of_ble_eq_true rfl) rfl k9) ?_
    refine qy (fun _ _ k9 => z_aload_n d_X1_goRight_120 rfl rfl k9) ?_
    refine qy (fun _ _ k9 => z_aload_n d_X1_goRight_121 rfl rfl k9) ?_
    refine qy (fun _ _ k9 => z_putf (fs' := [qR 218, qR 217]) d_X1_goRight_122 fp_X1_15 (qset_eq _ _ _) (fun _ => rfl) (fun _ => rfl) (Nat.le_of_ble_eq_true rfl) rfl k9) ?_
    refine qy (fun _ _ k9 => z_eq rfl rfl ((qset_set _ _ _ _).trans (xput_sf (c := qup (F 216) 0 1) xi_216 (xsh_1 xo_216))) k9) ?_
    exact y_ret (hQ (gup F 216 (qup (F 216) 0 1)) Ga (⟨rfl, fun a ha => hfr a ha, fun j hj => by rw [hY j hj, show k = 72 by omega]⟩)) (z_vret d_X1_goRight_125 rfl rfl rfl)
  · refine qy (fun _ _ k9 => z_iload_n d_X1_goRight_16 rfl rfl k9) ?_
    refine qy (fun _ _ k9 => z_bipush d_X1_goRight_17 (by decide) k9) ?_
    refine qy (fun _ _ k9 => z_irem d_X1_goRight_19 (by omega) k9) ?_
    refine qy (fun _ _ k9 => z_eq rfl (qc (qi (by rw [Int.tmod_eq_emod_of_nonneg (by omega)] <;> omega)) rfl) rfl k9) ?_
    refine qy (fun _ _ k9 => z_istore (ls' := [qR 216, qI mi, qR d, qI (k : Int), qI (((k % 8) : Nat) : Int), qU, qU]) d_X1_goRight_20 (by decide) rfl k9) ?_
    refine qy (fun _ _ k9 => z_iconst d_X1_goRight_22 (by decide) k9) ?_
    refine qy (fun _ _ k9 => z_istore (ls' := [qR 216, qI mi, qR d, qI (k : Int), qI (((k % 8) : Nat) : Int), qI 0, qU]) d_X1_goRight_23 (by decide) rfl k9) ?_
    refine qy (fun _ _ k9 => z_eq (qc rfl (qc rfl (qc rfl (qc rfl (qc rfl (qc (qi (rfl)) (qc rfl rfl))))))) rfl rfl k9) (y_wh2 (fun (c : Nat) (Gb : Nat → Nat → Int) => 8 - c) (fun (c : Nat) (Gb : Nat → Nat → Int) => [qR 216, qI mi, qR d, qI (k : Int), qI (((k % 8) : Nat) : Int), qI (c : Int), qU]) (fun (c : Nat) (Gb : Nat → Nat → Int) => (xput h F Gb)) (fun (c : Nat) (Gb : Nat → Nat → Int) => c ≤ 8 ∧ (∀ a, a ≠ 218 → Gb a = G a) ∧ ∀ j, j < 72 → Gb 218 j = cO T W mi k c j) 0 Ga (⟨by omega, hfr, hY⟩) (fun c Gb hpp k2 => ?_))
    obtain ⟨hc8, hfg, hYc⟩ := hpp
    show qEy M_X1_goRight 25 [qR 216, qI mi, qR d, qI (k : Int), qI (((k % 8) : Nat) : Int), qI (c : Int), qU] [] (xput h F Gb) Q
    have hA9 : Gb 217 k = W (9 * (k / 8) + k % 8) := by rw [hfg 217 (by decide)]; exact hV k (by omega)
    have hWk := hWb (9 * (k / 8) + k % 8)
    have hG9 : ∀ q, q < 72 → 0 ≤ Gb 218 q ∧ Gb 218 q < 1000000007 := fun q hq => by rw [hYc q hq]; exact cO_bd
    refine qy (fun _ _ k9 => z_iload d_X1_goRight_25 rfl k9) ?_
    refine qy (fun _ _ k9 => z_bipush d_X1_goRight_27 (by decide) k9) ?_
    refine qy2 (fun _ _ => z_icmp_ge 101 d_X1_goRight_29 (by decide)) (fun q29 => ?_) (fun q29 => ?_)
    · have hYe : ∀ j, j < 72 → Gb 218 j = cO T W mi (k + 1) 0 j := fun j hj => by rw [hYc j hj, show c = 8 by omega]; exact cO_end (by omega) hj
      refine qy (fun _ _ k9 => z_iinc (ls' := [qR 216, qI mi, qR d, qI ((k : Int) + 1), qI (((k % 8) : Nat) : Int), qI (c : Int), qU]) d_X1_goRight_101 rfl (by decide) (by omega) rfl k9) ?_
      refine qy (fun _ _ k9 => z_goto 10 d_X1_goRight_104 (by decide) k9) ?_
      exact qy (fun _ _ k9 => z_dr (qle_k rfl (qle_k rfl (qle_k rfl (qle_k (qi (by omega)) (qle_d (qle_d (qle_k rfl qle_n))))))) rfl rfl k9) (k1 (k + 1) Gb (⟨by omega, hfg, hYe⟩) (by omega))
    · refine qy (fun _ _ k9 => z_aload_n d_X1_goRight_32 rfl rfl k9) ?_
      refine qy (fun _ _ k9 => z_getf (v := qR 217) d_X1_goRight_33 fl_X1_9 ((xput_ob (c := (F 216)) xi_216 rfl (xsh_1 xo_216)).trans (by rw [hfl]; try rfl)) rfl k9) ?_
      refine qy (fun _ _ k9 => z_iload_n d_X1_goRight_36 rfl rfl k9) ?_
      refine qy (fun _ _ k9 => z_lld k d_X1_goRight_37 (xput_ar (g := (Gb 217)) xa_217 rfl) rfl (by omega) k9) ?_
      refine qy (fun _ _ k9 => z_lconst d_X1_goRight_38 (z := 0) (by decide) k9) ?_
      refine qy (fun _ _ k9 => z_lcmp d_X1_goRight_39 k9) ?_
      refine qy2 (fun _ _ => z_if_eq 101 d_X1_goRight_40 (by decide)) (fun q40 => ?_) (fun q40 => ?_)
      · have hYe : ∀ j, j < 72 → Gb 218 j = cO T W mi (k + 1) 0 j := fun j hj => by rw [hYc j hj, cO_skip hj hc8 (by rw [← hA9]; exact lc_eq q40)]; exact cO_end (by omega) hj
        refine qy (fun _ _ k9 => z_iinc (ls' := [qR 216, qI mi, qR d, qI ((k : Int) + 1), qI (((k % 8) : Nat) : Int), qI (c : Int), qU]) d_X1_goRight_101 rfl (by decide) (by omega) rfl k9) ?_
        refine qy (fun _ _ k9 => z_goto 10 d_X1_goRight_104 (by decide) k9) ?_
        exact qy (fun _ _ k9 => z_dr (qle_k rfl (qle_k rfl (qle_k rfl (qle_k (qi (by omega)) (qle_d (qle_d (qle_k rfl qle_n))))))) rfl rfl k9) (k1 (k + 1) Gb (⟨by omega, hfg, hYe⟩) (by omega))
      · refine qy (fun _ _ k9 => z_aload_n d_X1_goRight_43 rfl rfl k9) ?_
        refine qy (fun _ _ k9 => z_iload d_X1_goRight_44 rfl k9) ?_
        refine qy (fun _ _ k9 => z_iload_n d_X1_goRight_46 rfl rfl k9) ?_
        refine qy (fun _ _ k9 => z_bipush d_X1_goRight_47 (by decide) k9) ?_
        refine qy (fun _ _ k9 => z_idiv d_X1_goRight_49 (by omega) k9) ?_
        refine qy (fun _ _ k9 => z_eq rfl (qc (qi (by rw [Int.tdiv_eq_ediv_of_nonneg (by omega)] <;> omega)) rfl) rfl k9) ?_
        refine qy (fun _ _ k9 => z_iload d_X1_goRight_50 rfl k9) ?_
        refine qy (fun _ _ k9 => z_cs (M1 := M_X11_caseOf) d_X1_goRight_52 ls_X1_28 k_X11_caseOf [qI (((k % 8) : Nat) : Int), qI (((k / 8) : Nat) : Int), qI (c : Int)] rfl rfl (Nat.le_of_ble_eq_true rfl) (by decide) (by decide) (Nat.le_of_ble_eq_true rfl) (c_caseOf (((k % 8) : Nat) : Int) (((k / 8) : Nat) : Int) (c : Int) (by omega) (by omega) (by omega)) k9) ?_
        refine qy (fun _ _ k9 => z_ild (81 * (k % 8) + 9 * (k / 8) + c) d_X1_goRight_55 (xput_ar (g := (Gb d)) hs rfl) (by omega) (by omega) k9) ?_
        refine qy (fun _ _ k9 => z_iload_n d_X1_goRight_56 rfl rfl k9) ?_
        refine qy2 (fun _ _ => z_icmp_ne 95 d_X1_goRight_57 (by decide)) (fun hq57x => ?_) (fun hq57x => ?_)
        · have hq57 : T (81 * (k % 8) + 9 * (k / 8) + c) ≠ mi := by rw [← hT _ (by omega), ← hfg d (by omega)]; exact hq57x
          refine qy (fun _ _ k9 => z_iinc (ls' := [qR 216, qI mi, qR d, qI (k : Int), qI (((k % 8) : Nat) : Int), qI ((c : Int) + 1), qU]) d_X1_goRight_95 rfl (by decide) (by omega) rfl k9) ?_
          refine qy (fun _ _ k9 => z_goto 25 d_X1_goRight_98 (by decide) k9) ?_
          exact qy (fun _ _ k9 => z_eq (qc rfl (qc rfl (qc rfl (qc rfl (qc rfl (qc (qi (by omega)) (qc rfl rfl))))))) rfl rfl k9) (k2 (c + 1) Gb (⟨by omega, hfg, fun j hj => (hYc j hj).trans (cO_no hj hq57)⟩) (by omega))
        · have hq57 : T (81 * (k % 8) + 9 * (k / 8) + c) = mi := by rw [← hT _ (by omega), ← hfg d (by omega)]; exact Classical.not_not.mp hq57x
          refine qy (fun _ _ k9 => z_iload d_X1_goRight_60 rfl k9) ?_
          refine qy (fun _ _ k9 => z_bipush d_X1_goRight_62 (by decide) k9) ?_
          refine qy (fun _ _ k9 => z_imul d_X1_goRight_64 (by omega) k9) ?_
          refine qy (fun _ _ k9 => z_iload d_X1_goRight_65 rfl k9) ?_
          refine qy (fun _ _ k9 => z_iadd d_X1_goRight_67 (by omega) k9) ?_
          refine qy (fun _ _ k9 => z_istore (ls' := [qR 216, qI mi, qR d, qI (k : Int), qI (((k % 8) : Nat) : Int), qI (c : Int), qI (((((k % 8) : Nat) : Int) * 8) + (c : Int))]) d_X1_goRight_68 (by decide) rfl k9) ?_
          have hG1 := hG9 (k % 8 * 8 + c) (by omega)
          rw [← hA9] at hWk
          refine qy (fun _ _ k9 => z_aload_n d_X1_goRight_70 rfl rfl k9) ?_
          refine qy (fun _ _ k9 => z_getf (v := qR 218) d_X1_goRight_71 fl_X1_15 ((xput_ob (c := (F 216)) xi_216 rfl (xsh_1 xo_216)).trans (by rw [hfl]; try rfl)) rfl k9) ?_
          refine qy (fun _ _ k9 => z_iload d_X1_goRight_74 rfl k9) ?_
          refine qy (fun _ _ k9 => z_aload_n d_X1_goRight_76 rfl rfl k9) ?_
          refine qy (fun _ _ k9 => z_getf (v := qR 218) d_X1_goRight_77 fl_X1_15 ((xput_ob (c := (F 216)) xi_216 rfl (xsh_1 xo_216)).trans (by rw [hfl]; try rfl)) rfl k9) ?_
          refine qy (fun _ _ k9 => z_iload d_X1_goRight_80 rfl k9) ?_
          refine qy (fun _ _ k9 => z_lld (((k % 8) * 8) + c) d_X1_goRight_82 (xput_ar (g := (Gb 218)) xa_218 rfl) rfl (by omega) k9) ?_
          refine qy (fun _ _ k9 => z_aload_n d_X1_goRight_83 rfl rfl k9) ?_
          refine qy (fun _ _ k9 => z_getf (v := qR 217) d_X1_goRight_84 fl_X1_9 ((xput_ob (c := (F 216)) xi_216 rfl (xsh_1 xo_216)).trans (by rw [hfl]; try rfl)) rfl k9) ?_
          refine qy (fun _ _ k9 => z_iload_n d_X1_goRight_87 rfl rfl k9) ?_
          refine qy (fun _ _ k9 => z_lld k d_X1_goRight_88 (xput_ar (g := (Gb 217)) xa_217 rfl) rfl (by omega) k9) ?_
          refine qy (fun _ _ k9 => z_ladd d_X1_goRight_89 (by omega) k9) ?_
          refine qy (fun _ _ k9 => z_ldc2 (n := 1000000007) d_X1_goRight_90 cq_X1_32 (by decide) (by decide) k9) ?_
          refine qy (fun _ _ k9 => z_lrem d_X1_goRight_93 (by omega) k9) ?_
          refine qy (fun _ _ k9 => z_eq rfl (qc (ql (show _ = (Gb 218 (k % 8 * 8 + c) + Gb 217 k) % 1000000007 by rw [Int.tmod_eq_emod_of_nonneg (by omega)])) rfl) rfl k9) ?_
          refine qy (fun _ _ k9 => z_lst (((k % 8) * 8) + c) d_X1_goRight_94 (xput_ar (g := (Gb 218)) xa_218 rfl) (by omega) rfl (by omega) k9) ?_
          refine qy (fun _ _ k9 => z_eq rfl rfl (xput_sa xa_218) k9) ?_
          refine qy (fun _ _ k9 => z_iinc (ls' := [qR 216, qI mi, qR d, qI (k : Int), qI (((k % 8) : Nat) : Int), qI ((c : Int) + 1), qI (((((k % 8) : Nat) : Int) * 8) + (c : Int))]) d_X1_goRight_95 rfl (by decide) (by omega) rfl k9) ?_
          refine qy (fun _ _ k9 => z_goto 25 d_X1_goRight_98 (by decide) k9) ?_
          exact qy (fun _ _ k9 => z_dr (qle_k rfl (qle_k rfl (qle_k rfl (qle_k rfl (qle_k rfl (qle_k (qi (by omega)) (qle_d qle_n))))))) rfl rfl k9) (k2 (c + 1) (gup Gb 218 (qup (Gb 218) (((k % 8) * 8) + c) ((Gb 218 (k % 8 * 8 + c) + Gb 217 k) % 1000000007))) (⟨by omega, fun a ha => (gup_ne ha).trans (hfg a ha), fun j hj => by rw [gup_eq, hA9]; exact cO_yes hYc (by omega) (by omega) hq57 hj⟩) (by omega))
set_option maxRecDepth 20000 in
set_option maxHeartbeats 1000000 in
theorem c_goRight1 {h : qH} {F G : Nat → Nat → Int} {d : Nat} {T W : Nat → Int} (mi : Int) (hs : xAr d 0 648) (hd : d < 172) (hT : ∀ c, c < 648 → G d c = T c) (hV : ∀ j, j < 72 → G 218 j = W (9 * (j / 8) + j % 8)) (hWb : ∀ j, 0 ≤ W j ∧ W j < 1000000007) (hfl : F 216 0 = 1) : ∃ F' G', (F' = gup F 216 (qup (F 216) 0 0) ∧ (∀ a, a ≠ 217 → G' a = G a) ∧ ∀ j, j < 72 → G' 217 j = cO T W mi 72 0 j) ∧ qEx M_X1_goRight 0 [qR 216, qI mi, qR d, qU, qU, qU, qU] [] (xput h F G) none (xput h F' G') := by
  refine x_in (fun Q hQ => ?_)
  refine qy (fun _ _ k9 => z_aload_n d_X1_goRight_0 rfl rfl k9) ?_
  refine qy (fun _ _ k9 => z_getf (v := qR 217) d_X1_goRight_1 fl_X1_15 ((xput_ob (c := (F 216)) xi_216 rfl (xsh_1 xo_216)).trans (by rw [hfl]; try rfl)) rfl k9) ?_
  refine qy (fun _ _ k9 => z_lconst d_X1_goRight_4 (z := 0) (by decide) k9) ?_
  refine qy (fun _ _ k9 => z_cs0 (M1 := M_J7_fill_d0a16) d_X1_goRight_5 ls_X1_18 k_J7_fill_d0a16 [qR 217, qL 0] rfl rfl (Nat.le_of_ble_eq_true rfl) (by decide) (by decide) (Nat.le_of_ble_eq_true rfl) (c_fillL (xput_ar (g := (G 217)) xa_217 rfl) (by decide) (by decide)) k9) ?_
  refine qy (fun _ _ k9 => z_eq rfl rfl (xput_sa xa_217) k9) ?_
  refine qy (fun _ _ k9 => z_iconst d_X1_goRight_8 (by decide) k9) ?_
  refine qy (fun _ _ k9 => z_istore_n (ls' := [qR 216, qI mi, qR d, qI 0, qU, qU, qU]) d_X1_goRight_9 rfl (by decide) rfl k9) ?_
  refine qy (fun _ _ k9 => z_eq (qc rfl (qc rfl (qc rfl (qc (qi (rfl)) (qc rfl (qc rfl (qc rfl rfl))))))) rfl rfl k9) (y_wh2 (fun (k : Nat) (Ga : Nat → Nat → Int) => 72 - k) (fun (k : Nat) (Ga : Nat → Nat → Int) => [qR 216, qI mi, qR d, qI (k : Int), qU, qU, qU]) (fun (k : Nat) (Ga : Nat → Nat → Int) => (xput h F Ga)) (fun (k : Nat) (Ga : Nat → Nat → Int) => k ≤ 72 ∧ (∀ a, a ≠ 217 → Ga a = G a) ∧ ∀ j, j < 72 → Ga 217 j = cO T W mi k 0 j) 0 (gup G 217 (qmx 72 (fun _ => 0) (G 217))) (⟨by omega, fun a ha => gup_ne ha, fun j hj => by rw [gup_eq, qmx_lt hj]; exact (cO_0 hj).symm⟩) (fun k Ga hp k1 => ?_))
  obtain ⟨hk72, hfr, hY⟩ := hp
  show qEy M_X1_goRight 10 [qR 216, qI mi, qR d, qI (k : Int), qU, qU, qU] [] (xput h F Ga) Q
  refine qy (fun _ _ k9 => z_iload_n d_X1_goRight_10 rfl rfl k9) ?_
  refine qy (fun _ _ k9 => z_bipush d_X1_goRight_11 (by decide) k9) ?_
  refine qy2 (fun _ _ => z_icmp_ge 107 d_X1_goRight_13 (by decide)) (fun hc1 => ?_) (fun hc1 => ?_)
  · refine qy (fun _ _ k9 => z_aload_n d_X1_goRight_107 rfl rfl k9) ?_
    refine qy (fun _ _ k9 => z_getf (v := qR 218) d_X1_goRight_108 fl_X1_9 ((xput_ob (c := (F 216)) xi_216 rfl (xsh_1 xo_216)).trans (by rw [hfl]; try rfl)) rfl k9) ?_
    refine qy (fun _ _ k9 => z_astore_n (ls' := [qR 216, qI mi, qR d, qR 218, qU, qU, qU]) d_X1_goRight_111 rfl (by decide) rfl k9) ?_
    refine qy (fun _ _ k9 => z_aload_n d_X1_goRight_112 rfl rfl k9) ?_
    refine qy (fun _ _ k9 => z_aload_n d_X1_goRight_113 rfl rfl k9) ?_
    refine qy (fun _ _ k9 => z_getf (v := qR 217) d_X1_goRight_114 fl_X1_15 ((xput_ob (c := (F 216)) xi_216 rfl (xsh_1 xo_216)).trans (by rw [hfl]; try rfl)) rfl k9) ?_
    refine qy (fun _ _ k9 => z_putf (fs' := [qR 217, qR 217]) d_X1_goRight_117 fp_X1_9 ((xput_ob (c := (F 216)) xi_216 rfl (xsh_1 xo_216)).trans (by rw [hfl]; try rfl)) (fun _ => rfl) (fun _ => rfl) (Nat.le_of_ble_eq_true rfl) rfl k9) ?_
    refine qy (fun _ _ k9 => z_aload_n d_X1_goRight_120 rfl rfl k9) ?_
    refine qy (fun _ _ k9 => z_aload_n d_X1_goRight_121 rfl rfl k9) ?_
    refine qy (fun _ _ k9 => z_putf (fs' := [qR 217, qR 218]) d_X1_goRight_122 fp_X1_15 (qset_eq _ _ _) (fun _ => rfl) (fun _ => rfl) (Nat.le_of_ble_eq_true rfl) rfl k9) ?_
    refine qy (fun _ _ k9 => z_eq rfl rfl ((qset_set _ _ _ _).trans (xput_sf (c := qup (F 216) 0 0) xi_216 (xsh_1 xo_216))) k9) ?_
    exact y_ret (hQ (gup F 216 (qup (F 216) 0 0)) Ga (⟨rfl, fun a ha => hfr a ha, fun j hj => by rw [hY j hj, show k = 72 by omega]⟩)) (z_vret d_X1_goRight_125 rfl rfl rfl)
  · refine qy (fun _ _ k9 => z_iload_n d_X1_goRight_16 rfl rfl k9) ?_
    refine qy (fun _ _ k9 => z_bipush d_X1_goRight_17 (by decide) k9) ?_
    refine qy (fun _ _ k9 => z_irem d_X1_goRight_19 (by omega) k9) ?_
    refine qy (fun _ _ k9 => z_eq rfl (qc (qi (by rw [Int.tmod_eq_emod_of_nonneg (by omega)] <;> omega)) rfl) rfl k9) ?_
    refine qy (fun _ _ k9 => z_istore (ls' := [qR 216, qI mi, qR d, qI (k : Int), qI (((k % 8) : Nat) : Int), qU, qU]) d_X1_goRight_20 (by decide) rfl k9) ?_
    refine qy (fun _ _ k9 => z_iconst d_X1_goRight_22 (by decide) k9) ?_
    refine qy (fun _ _ k9 => z_istore (ls' := [qR 216, qI mi, qR d, qI (k : Int), qI (((k % 8) : Nat) : Int), qI 0, qU]) d_X1_goRight_23 (by decide) rfl k9) ?_
    refine qy (fun _ _ k9 => z_eq (qc rfl (qc rfl (qc rfl (qc rfl (qc rfl (qc (qi (rfl)) (qc rfl rfl))))))) rfl rfl k9) (y_wh2 (fun (c : Nat) (Gb : Nat → Nat → Int) => 8 - c) (fun (c : Nat) (Gb : Nat → Nat → Int) => [qR 216, qI mi, qR d, qI (k : Int), qI (((k % 8) : Nat) : Int), qI (c : Int), qU]) (fun (c : Nat) (Gb : Nat → Nat → Int) => (xput h F Gb)) (fun (c : Nat) (Gb : Nat → Nat → Int) => c ≤ 8 ∧ (∀ a, a ≠ 217 → Gb a = G a) ∧ ∀ j, j < 72 → Gb 217 j = cO T W mi k c j) 0 Ga (⟨by omega, hfr, hY⟩) (fun c Gb hpp k2 => ?_))
    obtain ⟨hc8, hfg, hYc⟩ := hpp
    show qEy M_X1_goRight 25 [qR 216, qI mi, qR d, qI (k : Int), qI (((k % 8) : Nat) : Int), qI (c : Int), qU] [] (xput h F Gb) Q
    have hA9 : Gb 218 k = W (9 * (k / 8) + k % 8) := by rw [hfg 218 (by decide)]; exact hV k (by omega)
    have hWk := hWb (9 * (k / 8) + k % 8)
    have hG9 : ∀ q, q < 72 → 0 ≤ Gb 217 q ∧ Gb 217 q < 1000000007 := fun q hq => by rw [hYc q hq]; exact cO_bd
    refine qy (fun _ _ k9 => z_iload d_X1_goRight_25 rfl k9) ?_
    refine qy (fun _ _ k9 => z_bipush d_X1_goRight_27 (by decide) k9) ?_
    refine qy2 (fun _ _ => z_icmp_ge 101 d_X1_goRight_29 (by decide)) (fun q29 => ?_) (fun q29 => ?_)
    · have hYe : ∀ j, j < 72 → Gb 217 j = cO T W mi (k + 1) 0 j := fun j hj => by rw [hYc j hj, show c = 8 by omega]; exact cO_end (by omega) hj
      refine qy (fun _ _ k9 => z_iinc (ls' := [qR 216, qI mi, qR d, qI ((k : Int) + 1), qI (((k % 8) : Nat) : Int), qI (c : Int), qU]) d_X1_goRight_101 rfl (by decide) (by omega) rfl k9) ?_
      refine qy (fun _ _ k9 => z_goto 10 d_X1_goRight_104 (by decide) k9) ?_
      exact qy (fun _ _ k9 => z_dr (qle_k rfl (qle_k rfl (qle_k rfl (qle_k (qi (by omega)) (qle_d (qle_d (qle_k rfl qle_n))))))) rfl rfl k9) (k1 (k + 1) Gb (⟨by omega, hfg, hYe⟩) (by omega))
    · refine qy (fun _ _ k9 => z_aload_n d_X1_goRight_32 rfl rfl k9) ?_
      refine qy (fun _ _ k9 => z_getf (v := qR 218) d_X1_goRight_33 fl_X1_9 ((xput_ob (c := (F 216)) xi_216 rfl (xsh_1 xo_216)).trans (by rw [hfl]; try rfl)) rfl k9) ?_
      refine qy (fun _ _ k9 => z_iload_n d_X1_goRight_36 rfl rfl k9) ?_
      refine qy (fun _ _ k9 => z_lld k d_X1_goRight_37 (xput_ar (g := (Gb 218)) xa_218 rfl) rfl (by omega) k9) ?_
      refine qy (fun _ _ k9 => z_lconst d_X1_goRight_38 (z := 0) (by decide) k9) ?_
      refine qy (fun _ _ k9 => z_lcmp d_X1_goRight_39 k9) ?_
      refine qy2 (fun _ _ => z_if_eq 101 d_X1_goRight_40 (by decide)) (fun q40 => ?_) (fun q40 => ?_)
      · have hYe : ∀ j, j < 72 → Gb 217 j = cO T W mi (k + 1) 0 j := fun j hj => by rw [hYc j hj, cO_skip hj hc8 (by rw [← hA9]; exact lc_eq q40)]; exact cO_end (by omega) hj
        refine qy (fun _ _ k9 => z_iinc (ls' := [qR 216, qI mi, qR d, qI ((k : Int) + 1), qI (((k % 8) : Nat) : Int), qI (c : Int), qU]) d_X1_goRight_101 rfl (by decide) (by omega) rfl k9) ?_
        refine qy (fun _ _ k9 => z_goto 10 d_X1_goRight_104 (by decide) k9) ?_
        exact qy (fun _ _ k9 => z_dr (qle_k rfl (qle_k rfl (qle_k rfl (qle_k (qi (by omega)) (qle_d (qle_d (qle_k rfl qle_n))))))) rfl rfl k9) (k1 (k + 1) Gb (⟨by omega, hfg, hYe⟩) (by omega))
      · refine qy (fun _ _ k9 => z_aload_n d_X1_goRight_43 rfl rfl k9) ?_
        refine qy (fun _ _ k9 => z_iload d_X1_goRight_44 rfl k9) ?_
        refine qy (fun _ _ k9 => z_iload_n d_X1_goRight_46 rfl rfl k9) ?_
        refine qy (fun _ _ k9 => z_bipush d_X1_goRight_47 (by decide) k9) ?_
        refine qy (fun _ _ k9 => z_idiv d_X1_goRight_49 (by omega) k9) ?_
        refine qy (fun _ _ k9 => z_eq rfl (qc (qi (by rw [Int.tdiv_eq_ediv_of_nonneg (by omega)] <;> omega)) rfl) rfl k9) ?_
        refine qy (fun _ _ k9 => z_iload d_X1_goRight_50 rfl k9) ?_
        refine qy (fun _ _ k9 => z_cs (M1 := M_X11_caseOf) d_X1_goRight_52 ls_X1_28 k_X11_caseOf [qI (((k % 8) : Nat) : Int), qI (((k / 8) : Nat) : Int), qI (c : Int)] rfl rfl (Nat.le_of_ble_eq_true rfl) (by decide) (by decide) (Nat.le_of_ble_eq_true rfl) (c_caseOf (((k % 8) : Nat) : Int) (((k / 8) : Nat) : Int) (c : Int) (by omega) (by omega) (by omega)) k9) ?_
        refine qy (fun _ _ k9 => z_ild (81 * (k % 8) + 9 * (k / 8) + c) d_X1_goRight_55 (xput_ar (g := (Gb d)) hs rfl) (by omega) (by omega) k9) ?_
        refine qy (fun _ _ k9 => z_iload_n d_X1_goRight_56 rfl rfl k9) ?_
        refine qy2 (fun _ _ => z_icmp_ne 95 d_X1_goRight_57 (by decide)) (fun hq57x => ?_) (fun hq57x => ?_)
        · have hq57 : T (81 * (k % 8) + 9 * (k / 8) + c) ≠ mi := by rw [← hT _ (by omega), ← hfg d (by omega)]; exact hq57x
          refine qy (fun _ _ k9 => z_iinc (ls' := [qR 216, qI mi, qR d, qI (k : Int), qI (((k % 8) : Nat) : Int), qI ((c : Int) + 1), qU]) d_X1_goRight_95 rfl (by decide) (by omega) rfl k9) ?_
          refine qy (fun _ _ k9 => z_goto 25 d_X1_goRight_98 (by decide) k9) ?_
          exact qy (fun _ _ k9 => z_eq (qc rfl (qc rfl (qc rfl (qc rfl (qc rfl (qc (qi (by omega)) (qc rfl rfl))))))) rfl rfl k9) (k2 (c + 1) Gb (⟨by omega, hfg, fun j hj => (hYc j hj).trans (cO_no hj hq57)⟩) (by omega))
        · have hq57 : T (81 * (k % 8) + 9 * (k / 8) + c) = mi := by rw [← hT _ (by omega), ← hfg d (by omega)]; exact Classical.not_not.mp hq57x
          refine qy (fun _ _ k9 => z_iload d_X1_goRight_60 rfl k9) ?_
          refine qy (fun _ _ k9 => z_bipush d_X1_goRight_62 (by decide) k9) ?_
          refine qy (fun _ _ k9 => z_imul d_X1_goRight_64 (by omega) k9) ?_
          refine qy (fun _ _ k9 => z_iload d_X1_goRight_65 rfl k9) ?_
          refine qy (fun _ _ k9 => z_iadd d_X1_goRight_67 (by omega) k9) ?_
          refine qy (fun _ _ k9 => z_istore (ls' := [qR 216, qI mi, qR d, qI (k : Int), qI (((k % 8) : Nat) : Int), qI (c : Int), qI (((((k % 8) : Nat) : Int) * 8) + (c : Int))]) d_X1_goRight_68 (by decide) rfl k9) ?_
          have hG1 := hG9 (k % 8 * 8 + c) (by omega)
          rw [← hA9] at hWk
          refine qy (fun _ _ k9 => z_aload_n d_X1_goRight_70 rfl rfl k9) ?_
          refine qy (fun _ _ k9 => z_getf (v := qR 217) d_X1_goRight_71 fl_X1_15 ((xput_ob (c := (F 216)) xi_216 rfl (xsh_1 xo_216)).trans (by rw [hfl]; try rfl)) rfl k9) ?_
          refine qy (fun _ _ k9 => z_iload d_X1_goRight_74 rfl k9) ?_
          refine qy (fun _ _ k9 => z_aload_n d_X1_goRight_76 rfl rfl k9) ?_
          refine qy (fun _ _ k9 => z_getf (v := qR 217) d_X1_goRight_77 fl_X1_15 ((xput_ob (c := (F 216)) xi_216 rfl (xsh_1 xo_216)).trans (by rw [hfl]; try rfl)) rfl k9) ?_
          refine qy (fun _ _ k9 => z_iload d_X1_goRight_80 rfl k9) ?_
          refine qy (fun _ _ k9 => z_lld (((k % 8) * 8) + c) d_X1_goRight_82 (xput_ar (g := (Gb 217)) xa_217 rfl) rfl (by omega) k9) ?_
          refine qy (fun _ _ k9 => z_aload_n d_X1_goRight_83 rfl rfl k9) ?_
          refine qy (fun _ _ k9 => z_getf (v := qR 218) d_X1_goRight_84 fl_X1_9 ((xput_ob (c := (F 216)) xi_216 rfl (xsh_1 xo_216)).trans (by rw [hfl]; try rfl)) rfl k9) ?_
          refine qy (fun _ _ k9 => z_iload_n d_X1_goRight_87 rfl rfl k9) ?_
          refine qy (fun _ _ k9 => z_lld k d_X1_goRight_88 (xput_ar (g := (Gb 218)) xa_218 rfl) rfl (by omega) k9) ?_
          refine qy (fun _ _ k9 => z_ladd d_X1_goRight_89 (by omega) k9) ?_
          refine qy (fun _ _ k9 => z_ldc2 (n := 1000000007) d_X1_goRight_90 cq_X1_32 (by decide) (by decide) k9) ?_
          refine qy (fun _ _ k9 => z_lrem d_X1_goRight_93 (by omega) k9) ?_
          refine qy (fun _ _ k9 => z_eq rfl (qc (ql (show _ = (Gb 217 (k % 8 * 8 + c) + Gb 218 k) % 1000000007 by rw [Int.tmod_eq_emod_of_nonneg (by omega)])) rfl) rfl k9) ?_
          refine qy (fun _ _ k9 => z_lst (((k % 8) * 8) + c) d_X1_goRight_94 (xput_ar (g := (Gb 217)) xa_217 rfl) (by omega) rfl (by omega) k9) ?_
          refine qy (fun _ _ k9 => z_eq rfl rfl (xput_sa xa_217) k9) ?_
          refine qy (fun _ _ k9 => z_iinc (ls' := [qR 216, qI mi, qR d, qI (k : Int), qI (((k % 8) : Nat) : Int), qI ((c : Int) + 1), qI (((((k % 8) : Nat) : Int) * 8) + (c : Int))]) d_X1_goRight_95 rfl (by decide) (by omega) rfl k9) ?_
          refine qy (fun _ _ k9 => z_goto 25 d_X1_goRight_98 (by decide) k9) ?_
          exact qy (fun _ _ k9 => z_dr (qle_k rfl (qle_k rfl (qle_k rfl (qle_k rfl (qle_k rfl (qle_k (qi (by omega)) (qle_d qle_n))))))) rfl rfl k9) (k2 (c + 1) (gup Gb 217 (qup (Gb 217) (((k % 8) * 8) + c) ((Gb 217 (k % 8 * 8 + c) + Gb 218 k) % 1000000007))) (⟨by omega, fun a ha => (gup_ne ha).trans (hfg a ha), fun j hj => by rw [gup_eq, hA9]; exact cO_yes hYc (by omega) (by omega) hq57 hj⟩) (by omega))
