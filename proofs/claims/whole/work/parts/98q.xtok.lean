/-! ===== CONTRACTS: the reader: behindToken, valueOf ===== -/
set_option maxRecDepth 20000 in
set_option maxHeartbeats 4000000 in
theorem c_behL0 {h : qH} {F G : Nat → Nat → Int} {B : Nat → Int} {N p : Nat} (hZ : rdB F G B N) (hN : N ≤ 400) (hp : p < N) (hL : isL (B p)) : ∃ F' G', (F' = F ∧ G' = G) ∧ qEx M_X4_behindToken 0 [qR 160, qI (p : Int), qU, qU, qU] [] (xput h F G) (some (qI (((en B N p) : Nat) : Int))) (xput h F' G') := by
  refine x_in (fun Q hQ => ?_)
  refine qy (fun _ _ k9 => z_iload_n d_X4_behindToken_0 rfl rfl k9) ?_
  refine qy (fun _ _ k9 => z_iconst d_X4_behindToken_1 (by decide) k9) ?_
  refine qy (fun _ _ k9 => z_iadd d_X4_behindToken_2 (by omega) k9) ?_
  refine qy (fun _ _ k9 => z_istore_n (ls' := [qR 160, qI (p : Int), qI ((p : Int) + 1), qU, qU]) d_X4_behindToken_3 rfl (by decide) rfl k9) ?_
  refine qy (fun _ _ k9 => z_aload_n d_X4_behindToken_4 rfl rfl k9) ?_
  refine qy (fun _ _ k9 => z_getf (v := qR 161) d_X4_behindToken_5 fl_X4_11 (xput_ob (c := (F 160)) xi_160 rfl (xsh_4 xo_160)) rfl k9) ?_
  refine qy (fun _ _ k9 => z_iload_n d_X4_behindToken_8 rfl rfl k9) ?_
  refine qy (fun _ _ k9 => z_ild p d_X4_behindToken_9 (xput_ar (g := (G 161)) xa_161 rfl) rfl (by omega) k9) ?_
  refine qy (fun _ _ k9 => z_eq rfl (qc (qi (show ((G 161) p) = (B p) from hZ.2 p (by omega))) rfl) rfl k9) ?_
  refine qy (fun _ _ k9 => z_cs (M1 := M_X4_isLetter) d_X4_behindToken_10 ls_X4_84 k_X4_isLetter [qI (B p)] rfl rfl (Nat.le_of_ble_eq_true rfl) (by decide) (by decide) (Nat.le_of_ble_eq_true rfl) (c_isLetter (B p)) k9) ?_
  refine qy (fun _ _ k9 => z_istore_n (ls' := [qR 160, qI (p : Int), qI ((p : Int) + 1), qI (qb (isL (B p))), qU]) d_X4_behindToken_13 rfl (by decide) rfl k9) ?_
  refine qy (fun _ _ k9 => z_eq (qc rfl (qc rfl (qc rfl (qc (qi (show (qb (isL (B p))) = 1 from qb_t hL)) rfl)))) rfl rfl k9) ?_
  refine qy (fun _ _ k9 => z_aload_n d_X4_behindToken_14 rfl rfl k9) ?_
  refine qy (fun _ _ k9 => z_getf (v := qR 161) d_X4_behindToken_15 fl_X4_11 (xput_ob (c := (F 160)) xi_160 rfl (xsh_4 xo_160)) rfl k9) ?_
  refine qy (fun _ _ k9 => z_iload_n d_X4_behindToken_18 rfl rfl k9) ?_
  refine qy (fun _ _ k9 => z_ild p d_X4_behindToken_19 (xput_ar (g := (G 161)) xa_161 rfl) rfl (by omega) k9) ?_
  refine qy (fun _ _ k9 => z_eq rfl (qc (qi (show ((G 161) p) = (B p) from hZ.2 p (by omega))) rfl) rfl k9) ?_
  refine qy (fun _ _ k9 => z_cs (M1 := M_X4_isDigit) d_X4_behindToken_20 ls_X4_87 k_X4_isDigit [qI (B p)] rfl rfl (Nat.le_of_ble_eq_true rfl) (by decide) (by decide) (Nat.le_of_ble_eq_true rfl) (c_isDigit (B p)) k9) ?_
  refine qy (fun _ _ k9 => z_istore (ls' := [qR 160, qI (p : Int), qI ((p : Int) + 1), qI 1, qI (qb (isD (B p)))]) d_X4_behindToken_23 (by decide) rfl k9) ?_
  refine qy (fun _ _ k9 => z_eq (qc rfl (qc rfl (qc (qi (rfl)) (qc rfl (qc (qi (qb_f (fun z => by unfold isL at hL; unfold isD at z; omega))) rfl))))) rfl rfl k9) (y_wh1 (fun (n : Nat) => N - (p + n)) (fun (n : Nat) => [qR 160, qI (p : Int), qI ((p : Int) + (n : Nat)), qI 1, qI 0]) (fun (n : Nat) => (xput h F G)) (fun (n : Nat) => p + n ≤ N ∧ ∀ j, j < n → isL (bAt B N (p + j))) 1 (⟨by omega, fun j hj => (by rw [show j = 0 by omega]; show isL (bAt B N p); rw [bAt_lt hp]; exact hL)⟩) (fun n hpp kk => ?_))
  obtain ⟨hn, hpn⟩ := hpp
  show qEy M_X4_behindToken 25 [qR 160, qI (p : Int), qI ((p : Int) + (n : Nat)), qI 1, qI 0] [] (xput h F G) Q
  refine qy (fun _ _ k9 => z_iload_n d_X4_behindToken_25 rfl rfl k9) ?_
  refine qy (fun _ _ k9 => z_aload_n d_X4_behindToken_26 rfl rfl k9) ?_
  refine qy (fun _ _ k9 => z_getf (v := qI ((F 160) 1)) d_X4_behindToken_27 fl_X4_15 (xput_ob (c := (F 160)) xi_160 rfl (xsh_4 xo_160)) rfl k9) ?_
  refine qy (fun _ _ k9 => z_eq rfl (qc (qi hZ.1) rfl) rfl k9) ?_
  refine qy2 (fun _ _ => z_icmp_ge 72 d_X4_behindToken_30 (by decide)) (fun q30 => ?_) (fun q30 => ?_)
  · refine qy (fun _ _ k9 => z_iload_n d_X4_behindToken_72 rfl rfl k9) ?_
    exact y_ret (hQ F G (⟨rfl, rfl⟩)) (z_iret d_X4_behindToken_73 rfl (qsi (by have er9 : rl isL B N p = n := rl_at (by omega) hpn (by rw [bAt_ge (by omega)]; exact nL); unfold en; rw [bAt_lt hp, qif_t hL, er9]; omega)) rfl)
  · refine qy (fun _ _ k9 => z_iload_n d_X4_behindToken_33 rfl rfl k9) ?_
    refine qy2 (fun _ _ => z_if_eq 49 d_X4_behindToken_34 (by decide)) (fun hc1 => absurd hc1 (by decide)) (fun hc1 => ?_)
    refine qy (fun _ _ k9 => z_aload_n d_X4_behindToken_37 rfl rfl k9) ?_
    refine qy (fun _ _ k9 => z_getf (v := qR 161) d_X4_behindToken_38 fl_X4_11 (xput_ob (c := (F 160)) xi_160 rfl (xsh_4 xo_160)) rfl k9) ?_
    refine qy (fun _ _ k9 => z_iload_n d_X4_behindToken_41 rfl rfl k9) ?_
    refine qy (fun _ _ k9 => z_ild (p + n) d_X4_behindToken_42 (xput_ar (g := (G 161)) xa_161 rfl) rfl (by omega) k9) ?_
    refine qy (fun _ _ k9 => z_eq rfl (qc (qi (show ((G 161) (p + n)) = (B (p + n)) from hZ.2 _ (by omega))) rfl) rfl k9) ?_
    refine qy (fun _ _ k9 => z_cs (M1 := M_X4_isLetter) d_X4_behindToken_43 ls_X4_84 k_X4_isLetter [qI (B (p + n))] rfl rfl (Nat.le_of_ble_eq_true rfl) (by decide) (by decide) (Nat.le_of_ble_eq_true rfl) (c_isLetter (B (p + n))) k9) ?_
    refine qy2 (fun _ _ => z_ifneB 66 d_X4_behindToken_46 (by decide)) (fun q46 => ?_) (fun q46 => ?_)
    · refine qy (fun _ _ k9 => z_iinc (ls' := [qR 160, qI (p : Int), qI (((p : Int) + (n : Nat)) + 1), qI 1, qI 0]) d_X4_behindToken_66 rfl (by decide) (by omega) rfl k9) ?_
      refine qy (fun _ _ k9 => z_goto 25 d_X4_behindToken_69 (by decide) k9) ?_
      exact qy (fun _ _ k9 => z_eq (qc rfl (qc rfl (qc (qi (by omega)) (qc rfl (qc rfl rfl))))) rfl rfl k9) (kk (n + 1) (⟨by omega, fun j hj => (by by_cases z : j < n; exact hpn j z; rw [show j = n by omega, bAt_lt (by omega)]; exact q46)⟩) (by omega))
    · refine qy (fun _ _ k9 => z_iload d_X4_behindToken_49 rfl k9) ?_
      refine qy2 (fun _ _ => z_if_eq 72 d_X4_behindToken_51 (by decide)) (fun hc2 => ?_) (fun hc2 => absurd (by decide) hc2)
      refine qy (fun _ _ k9 => z_iload_n d_X4_behindToken_72 rfl rfl k9) ?_
      exact y_ret (hQ F G (⟨rfl, rfl⟩)) (z_iret d_X4_behindToken_73 rfl (qsi (by have er9 : rl isL B N p = n := rl_at (by omega) hpn (by rw [bAt_lt (by omega)]; exact q46); unfold en; rw [bAt_lt hp, qif_t hL, er9]; omega)) rfl)
set_option maxRecDepth 20000 in
set_option maxHeartbeats 4000000 in
theorem c_behD0 {h : qH} {F G : Nat → Nat → Int} {B : Nat → Int} {N p : Nat} (hZ : rdB F G B N) (hN : N ≤ 400) (hp : p < N) (hD : isD (B p)) : ∃ F' G', (F' = F ∧ G' = G) ∧ qEx M_X4_behindToken 0 [qR 160, qI (p : Int), qU, qU, qU] [] (xput h F G) (some (qI (((en B N p) : Nat) : Int))) (xput h F' G') := by
  refine x_in (fun Q hQ => ?_)
  refine qy (fun _ _ k9 => z_iload_n d_X4_behindToken_0 rfl rfl k9) ?_
  refine qy (fun _ _ k9 => z_iconst d_X4_behindToken_1 (by decide) k9) ?_
  refine qy (fun _ _ k9 => z_iadd d_X4_behindToken_2 (by omega) k9) ?_
  refine qy (fun _ _ k9 => z_istore_n (ls' := [qR 160, qI (p : Int), qI ((p : Int) + 1), qU, qU]) d_X4_behindToken_3 rfl (by decide) rfl k9) ?_
  refine qy (fun _ _ k9 => z_aload_n d_X4_behindToken_4 rfl rfl k9) ?_
  refine qy (fun _ _ k9 => z_getf (v := qR 161) d_X4_behindToken_5 fl_X4_11 (xput_ob (c := (F 160)) xi_160 rfl (xsh_4 xo_160)) rfl k9) ?_
  refine qy (fun _ _ k9 => z_iload_n d_X4_behindToken_8 rfl rfl k9) ?_
  refine qy (fun _ _ k9 => z_ild p d_X4_behindToken_9 (xput_ar (g := (G 161)) xa_161 rfl) rfl (by omega) k9) ?_
  refine qy (fun _ _ k9 => z_eq rfl (qc (qi (show ((G 161) p) = (B p) from hZ.2 p (by omega))) rfl) rfl k9) ?_
  refine qy (fun _ _ k9 => z_cs (M1 := M_X4_isLetter) d_X4_behindToken_10 ls_X4_84 k_X4_isLetter [qI (B p)] rfl rfl (Nat.le_of_ble_eq_true rfl) (by decide) (by decide) (Nat.le_of_ble_eq_true rfl) (c_isLetter (B p)) k9) ?_
  refine qy (fun _ _ k9 => z_istore_n (ls' := [qR 160, qI (p : Int), qI ((p : Int) + 1), qI (qb (isL (B p))), qU]) d_X4_behindToken_13 rfl (by decide) rfl k9) ?_
  refine qy (fun _ _ k9 => z_eq (qc rfl (qc rfl (qc rfl (qc (qi (show (qb (isL (B p))) = 0 from qb_f (fun z => by unfold isL at z; unfold isD at hD; omega))) rfl)))) rfl rfl k9) ?_
  refine qy (fun _ _ k9 => z_aload_n d_X4_behindToken_14 rfl rfl k9) ?_
  refine qy (fun _ _ k9 => z_getf (v := qR 161) d_X4_behindToken_15 fl_X4_11 (xput_ob (c := (F 160)) xi_160 rfl (xsh_4 xo_160)) rfl k9) ?_
  refine qy (fun _ _ k9 => z_iload_n d_X4_behindToken_18 rfl rfl k9) ?_
  refine qy (fun _ _ k9 => z_ild p d_X4_behindToken_19 (xput_ar (g := (G 161)) xa_161 rfl) rfl (by omega) k9) ?_
  refine qy (fun _ _ k9 => z_eq rfl (qc (qi (show ((G 161) p) = (B p) from hZ.2 p (by omega))) rfl) rfl k9) ?_
  refine qy (fun _ _ k9 => z_cs (M1 := M_X4_isDigit) d_X4_behindToken_20 ls_X4_87 k_X4_isDigit [qI (B p)] rfl rfl (Nat.le_of_ble_eq_true rfl) (by decide) (by decide) (Nat.le_of_ble_eq_true rfl) (c_isDigit (B p)) k9) ?_
  refine qy (fun _ _ k9 => z_istore (ls' := [qR 160, qI (p : Int), qI ((p : Int) + 1), qI 0, qI (qb (isD (B p)))]) d_X4_behindToken_23 (by decide) rfl k9) ?_
  refine qy (fun _ _ k9 => z_eq (qc rfl (qc rfl (qc (qi (rfl)) (qc rfl (qc (qi (qb_t hD)) rfl))))) rfl rfl k9) (y_wh1 (fun (n : Nat) => N - (p + n)) (fun (n : Nat) => [qR 160, qI (p : Int), qI ((p : Int) + (n : Nat)), qI 0, qI 1]) (fun (n : Nat) => (xput h F G)) (fun (n : Nat) => p + n ≤ N ∧ ∀ j, j < n → isD (bAt B N (p + j))) 1 (⟨by omega, fun j hj => (by rw [show j = 0 by omega]; show isD (bAt B N p); rw [bAt_lt hp]; exact hD)⟩) (fun n hpp kk => ?_))
  obtain ⟨hn, hpn⟩ := hpp
  show qEy M_X4_behindToken 25 [qR 160, qI (p : Int), qI ((p : Int) + (n : Nat)), qI 0, qI 1] [] (xput h F G) Q
  refine qy (fun _ _ k9 => z_iload_n d_X4_behindToken_25 rfl rfl k9) ?_
  refine qy (fun _ _ k9 => z_aload_n d_X4_behindToken_26 rfl rfl k9) ?_
  refine qy (fun _ _ k9 => z_getf (v := qI ((F 160) 1)) d_X4_behindToken_27 fl_X4_15 (xput_ob (c := (F 160)) xi_160 rfl (xsh_4 xo_160)) rfl k9) ?_
  refine qy (fun _ _ k9 => z_eq rfl (qc (qi hZ.1) rfl) rfl k9) ?_
  refine qy2 (fun _ _ => z_icmp_ge 72 d_X4_behindToken_30 (by decide)) (fun q30 => ?_) (fun q30 => ?_)
  · refine qy (fun _ _ k9 => z_iload_n d_X4_behindToken_72 rfl rfl k9) ?_
    exact y_ret (hQ F G (⟨rfl, rfl⟩)) (z_iret d_X4_behindToken_73 rfl (qsi (by have er9 : rl isD B N p = n := rl_at (by omega) hpn (by rw [bAt_ge (by omega)]; exact nD); unfold en; rw [bAt_lt hp, qif_f (fun z => by unfold isL at z; unfold isD at hD; omega), qif_t hD, er9]; omega)) rfl)
  · refine qy (fun _ _ k9 => z_iload_n d_X4_behindToken_33 rfl rfl k9) ?_
    refine qy2 (fun _ _ => z_if_eq 49 d_X4_behindToken_34 (by decide)) (fun hc1 => ?_) (fun hc1 => absurd (by decide) hc1)
    refine qy (fun _ _ k9 => z_iload d_X4_behindToken_49 rfl k9) ?_
    refine qy2 (fun _ _ => z_if_eq 72 d_X4_behindToken_51 (by decide)) (fun hc2 => absurd hc2 (by decide)) (fun hc2 => ?_)
    refine qy (fun _ _ k9 => z_aload_n d_X4_behindToken_54 rfl rfl k9) ?_
    refine qy (fun _ _ k9 => z_getf (v := qR 161) d_X4_behindToken_55 fl_X4_11 (xput_ob (c := (F 160)) xi_160 rfl (xsh_4 xo_160)) rfl k9) ?_
    refine qy (fun _ _ k9 => z_iload_n d_X4_behindToken_58 rfl rfl k9) ?_
    refine qy (fun _ _ k9 => z_ild (p + n) d_X4_behindToken_59 (xput_ar (g := (G 161)) xa_161 rfl) rfl (by omega) k9) ?_
    refine qy (fun _ _ k9 => z_eq rfl (qc (qi (show ((G 161) (p + n)) = (B (p + n)) from hZ.2 _ (by omega))) rfl) rfl k9) ?_
    refine qy (fun _ _ k9 => z_cs (M1 := M_X4_isDigit) d_X4_behindToken_60 ls_X4_87 k_X4_isDigit [qI (B (p + n))] rfl rfl (Nat.le_of_ble_eq_true rfl) (by decide) (by decide) (Nat.le_of_ble_eq_true rfl) (c_isDigit (B (p + n))) k9) ?_
    refine qy2n (fun _ _ => z_ifeqB 72 d_X4_behindToken_63 (by decide)) (fun q63 => ?_) (fun q63 => ?_)
    · refine qy (fun _ _ k9 => z_iload_n d_X4_behindToken_72 rfl rfl k9) ?_
      exact y_ret (hQ F G (⟨rfl, rfl⟩)) (z_iret d_X4_behindToken_73 rfl (qsi (by have er9 : rl isD B N p = n := rl_at (by omega) hpn (by rw [bAt_lt (by omega)]; exact q63); unfold en; rw [bAt_lt hp, qif_f (fun z => by unfold isL at z; unfold isD at hD; omega), qif_t hD, er9]; omega)) rfl)
    · refine qy (fun _ _ k9 => z_iinc (ls' := [qR 160, qI (p : Int), qI (((p : Int) + (n : Nat)) + 1), qI 0, qI 1]) d_X4_behindToken_66 rfl (by decide) (by omega) rfl k9) ?_
      refine qy (fun _ _ k9 => z_goto 25 d_X4_behindToken_69 (by decide) k9) ?_
      exact qy (fun _ _ k9 => z_eq (qc rfl (qc rfl (qc (qi (by omega)) (qc rfl (qc rfl rfl))))) rfl rfl k9) (kk (n + 1) (⟨by omega, fun j hj => (by by_cases z : j < n; exact hpn j z; rw [show j = n by omega, bAt_lt (by omega)]; exact q63)⟩) (by omega))
