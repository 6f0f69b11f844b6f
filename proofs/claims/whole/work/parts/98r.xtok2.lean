/-! ===== CONTRACTS: the reader: behindToken (whole), valueOf ===== -/
set_option maxRecDepth 20000 in
set_option maxHeartbeats 4000000 in
theorem c_behS {h : qH} {F G : Nat → Nat → Int} {B : Nat → Int} {N p : Nat} (hZ : rdB F G B N) (hN : N ≤ 400) (hp : p < N) (hL : ¬ isL (B p)) (hD : ¬ isD (B p)) : qEx M_X4_behindToken 0 [qR 160, qI (p : Int), qU, qU, qU] [] (xput h F G) (some (qI (((en B N p) : Nat) : Int))) (xput h F G) := by
  refine q_gen (fun r hr er eh => ?_)
  refine z_iload_n d_X4_behindToken_0 rfl rfl ?_
  refine z_iconst d_X4_behindToken_1 (by decide) ?_
  refine z_iadd d_X4_behindToken_2 (by omega) ?_
  refine z_istore_n (ls' := [qR 160, qI (p : Int), qI ((p : Int) + 1), qU, qU]) d_X4_behindToken_3 rfl (by decide) rfl ?_
  refine z_aload_n d_X4_behindToken_4 rfl rfl ?_
  refine z_getf (v := qR 161) d_X4_behindToken_5 fl_X4_11 (xput_ob (c := (F 160)) xi_160 rfl (xsh_4 xo_160)) rfl ?_
  refine z_iload_n d_X4_behindToken_8 rfl rfl ?_
  refine z_ild p d_X4_behindToken_9 (xput_ar (g := (G 161)) xa_161 rfl) rfl (by omega) ?_
  refine z_eq rfl (qc (qi (show ((G 161) p) = (B p) from hZ.2 p (by omega))) rfl) rfl ?_
  refine z_cs (M1 := M_X4_isLetter) d_X4_behindToken_10 ls_X4_84 k_X4_isLetter [qI (B p)] rfl rfl (Nat.le_of_ble_eq_true rfl) (by decide) (by decide) (Nat.le_of_ble_eq_true rfl) (c_isLetter (B p)) ?_
  refine z_istore_n (ls' := [qR 160, qI (p : Int), qI ((p : Int) + 1), qI (qb (isL (B p))), qU]) d_X4_behindToken_13 rfl (by decide) rfl ?_
  refine z_eq (qc rfl (qc rfl (qc rfl (qc (qi (show (qb (isL (B p))) = 0 from qb_f hL)) rfl)))) rfl rfl ?_
  refine z_aload_n d_X4_behindToken_14 rfl rfl ?_
  refine z_getf (v := qR 161) d_X4_behindToken_15 fl_X4_11 (xput_ob (c := (F 160)) xi_160 rfl (xsh_4 xo_160)) rfl ?_
  refine z_iload_n d_X4_behindToken_18 rfl rfl ?_
  refine z_ild p d_X4_behindToken_19 (xput_ar (g := (G 161)) xa_161 rfl) rfl (by omega) ?_
  refine z_eq rfl (qc (qi (show ((G 161) p) = (B p) from hZ.2 p (by omega))) rfl) rfl ?_
  refine z_cs (M1 := M_X4_isDigit) d_X4_behindToken_20 ls_X4_87 k_X4_isDigit [qI (B p)] rfl rfl (Nat.le_of_ble_eq_true rfl) (by decide) (by decide) (Nat.le_of_ble_eq_true rfl) (c_isDigit (B p)) ?_
  refine z_istore (ls' := [qR 160, qI (p : Int), qI ((p : Int) + 1), qI 0, qI (qb (isD (B p)))]) d_X4_behindToken_23 (by decide) rfl ?_
  refine z_eq (qc rfl (qc rfl (qc rfl (qc rfl (qc (qi (show (qb (isD (B p))) = 0 from qb_f hD)) rfl))))) rfl rfl ?_
  refine z_iload_n d_X4_behindToken_25 rfl rfl ?_
  refine z_aload_n d_X4_behindToken_26 rfl rfl ?_
  refine z_getf (v := qI ((F 160) 1)) d_X4_behindToken_27 fl_X4_15 (xput_ob (c := (F 160)) xi_160 rfl (xsh_4 xo_160)) rfl ?_
  refine z_eq rfl (qc (qi hZ.1) rfl) rfl ?_
  refine z_icmp_ge 72 d_X4_behindToken_30 (by decide) (fun hc1 => ?_) (fun hc1 => ?_)
  · refine z_iload_n d_X4_behindToken_72 rfl rfl ?_
    exact z_iret d_X4_behindToken_73 rfl (qer er (by unfold en; rw [bAt_lt hp, qif_f hL, qif_f hD]; omega)) eh
  · refine z_iload_n d_X4_behindToken_33 rfl rfl ?_
    refine z_if_eq 49 d_X4_behindToken_34 (by decide) (fun hc2 => ?_) (fun hc2 => absurd (by decide) hc2)
    refine z_iload d_X4_behindToken_49 rfl ?_
    refine z_if_eq 72 d_X4_behindToken_51 (by decide) (fun hc3 => ?_) (fun hc3 => absurd (by decide) hc3)
    refine z_iload_n d_X4_behindToken_72 rfl rfl ?_
    exact z_iret d_X4_behindToken_73 rfl (qer er (by unfold en; rw [bAt_lt hp, qif_f hL, qif_f hD]; omega)) eh
theorem c_beh {h : qH} {F G : Nat → Nat → Int} {B : Nat → Int} {N p : Nat} (hZ : rdB F G B N) (hN : N ≤ 400) (hp : p < N) : qEx M_X4_behindToken 0 [qR 160, qI (p : Int), qU, qU, qU] [] (xput h F G) (some (qI ((en B N p : Nat) : Int))) (xput h F G) := by
  by_cases hL : isL (B p)
  · obtain ⟨_, _, ⟨rfl, rfl⟩, hx⟩ := c_behL0 (h := h) hZ hN hp hL
    exact hx
  · by_cases hD : isD (B p)
    · obtain ⟨_, _, ⟨rfl, rfl⟩, hx⟩ := c_behD0 (h := h) hZ hN hp hD
      exact hx
    · exact c_behS hZ hN hp hL hD
set_option maxRecDepth 20000 in
set_option maxHeartbeats 4000000 in
theorem c_valueOf {h : qH} {F G : Nat → Nat → Int} {B : Nat → Int} {N p n : Nat} (hZ : rdB F G B N) (hN : N ≤ 400) (hp : p + n ≤ N) (hn : n ≤ 4) (hD : ∀ j, j < n → isD (B (p + j))) : qEx M_X4_valueOf 0 [qR 160, qI (p : Int), qI (((p + n) : Nat) : Int), qU, qU] [] (xput h F G) (some (qI (vlF B p n))) (xput h F G) := by
  refine q_gen (fun r hr er eh => ?_)
  refine z_iconst d_X4_valueOf_0 (by decide) ?_
  refine z_istore_n (ls' := [qR 160, qI (p : Int), qI (((p + n) : Nat) : Int), qI 0, qU]) d_X4_valueOf_1 rfl (by decide) rfl ?_
  refine z_iload_n d_X4_valueOf_2 rfl rfl ?_
  refine z_istore (ls' := [qR 160, qI (p : Int), qI (((p + n) : Nat) : Int), qI 0, qI (p : Int)]) d_X4_valueOf_3 (by decide) rfl ?_
  refine z_eq (qc rfl (qc rfl (qc rfl (qc (qi (rfl)) (qc (qi (by omega)) rfl))))) rfl rfl (z_for n (fun i => [qR 160, qI (p : Int), qI (((p + n) : Nat) : Int), qI (vlF B p i), qI ((p : Int) + (i : Nat))]) (fun i => (xput h F G)) (fun i => True) trivial (fun i hii hp kki => ?_) (fun hp => ?_))
  · show qEx M_X4_valueOf 5 [qR 160, qI (p : Int), qI (((p + n) : Nat) : Int), qI (vlF B p i), qI ((p : Int) + (i : Nat))] [] (xput h F G) r hr
    have hb := vlF_bd4 (B := B) (p := p) (i := i) (by omega) (fun j hj => hD j (by omega))
    have hd := hD i hii
    unfold isD at hd
    refine z_iload d_X4_valueOf_5 rfl ?_
    refine z_iload_n d_X4_valueOf_7 rfl rfl ?_
    refine z_icmp_ge 33 d_X4_valueOf_8 (by decide) (fun hc1 => absurd hc1 (by omega)) (fun hc1 => ?_)
    refine z_iload_n d_X4_valueOf_11 rfl rfl ?_
    refine z_bipush d_X4_valueOf_12 (by decide) ?_
    refine z_imul d_X4_valueOf_14 (by omega) ?_
    refine z_aload_n d_X4_valueOf_15 rfl rfl ?_
    refine z_getf (v := qR 161) d_X4_valueOf_16 fl_X4_11 (xput_ob (c := (F 160)) xi_160 rfl (xsh_4 xo_160)) rfl ?_
    refine z_iload d_X4_valueOf_19 rfl ?_
    refine z_ild (p + i) d_X4_valueOf_21 (xput_ar (g := (G 161)) xa_161 rfl) rfl (by omega) ?_
    refine z_eq rfl (qc (qi (show ((G 161) (p + i)) = (B (p + i)) from hZ.2 _ (by omega))) rfl) rfl ?_
    refine z_iadd d_X4_valueOf_22 (by omega) ?_
    refine z_bipush d_X4_valueOf_23 (by decide) ?_
    refine z_isub d_X4_valueOf_25 (by omega) ?_
    refine z_istore_n (ls' := [qR 160, qI (p : Int), qI (((p + n) : Nat) : Int), qI ((((vlF B p i) * 10) + (B (p + i))) - 48), qI ((p : Int) + (i : Nat))]) d_X4_valueOf_26 rfl (by decide) rfl ?_
    refine z_iinc (ls' := [qR 160, qI (p : Int), qI (((p + n) : Nat) : Int), qI ((((vlF B p i) * 10) + (B (p + i))) - 48), qI (((p : Int) + (i : Nat)) + 1)]) d_X4_valueOf_27 rfl (by decide) (by omega) rfl ?_
    refine z_goto 5 d_X4_valueOf_30 (by decide) ?_
    exact z_eq (qc rfl (qc rfl (qc rfl (qc (qi (by show _ = 10 * vlF B p i + B (p + i) - 48; omega)) (qc (qi (by omega)) rfl))))) rfl rfl (kki trivial)
  · show qEx M_X4_valueOf 5 [qR 160, qI (p : Int), qI (((p + n) : Nat) : Int), qI (vlF B p n), qI ((p : Int) + (n : Nat))] [] (xput h F G) r hr
    refine z_iload d_X4_valueOf_5 rfl ?_
    refine z_iload_n d_X4_valueOf_7 rfl rfl ?_
    refine z_icmp_ge 33 d_X4_valueOf_8 (by decide) (fun hc2 => ?_) (fun hc2 => absurd hc2 (by omega))
    refine z_iload_n d_X4_valueOf_33 rfl rfl ?_
    exact z_iret d_X4_valueOf_34 rfl er eh
