/-! ===== CONTRACTS: the reader: spells, kindOfWord, noteToken ===== -/
theorem ch_w0 : ∀ w : Fin 13, ∀ i : Fin 7, chI (7 * w + i) = wdc w i := by decide +kernel
theorem ch_w {w i : Nat} (hw : w < 13) (hi : i < 7) : chI (7 * w + i) = wdc w i := ch_w0 ⟨w, hw⟩ ⟨i, hi⟩
noncomputable def kwn (B : Nat → Int) (p n : Nat) : Int := qif (fst (spl B p n) 13 = -1) 1 (6 + fst (spl B p n) 13)
theorem kwn_n {B : Nat → Int} {p n : Nat} (h : ∀ k, k < 13 → ¬ spl B p n k) : kwn B p n = 1 := by
  unfold kwn
  rw [qif_t (fst_none h)]
theorem kwn_y {B : Nat → Int} {p n i : Nat} (hi : i < 13) (h : ∀ k, k < i → ¬ spl B p n k) (h2 : spl B p n i) : kwn B p n = 6 + (i : Int) := by
  unfold kwn
  rw [fst_at hi h h2, qif_f (by omega)]
set_option maxRecDepth 20000 in
set_option maxHeartbeats 4000000 in
theorem c_spells {h : qH} {F G : Nat → Nat → Int} {B : Nat → Int} {N p n w : Nat} (hZ : rdB F G B N) (hN : N ≤ 400) (hp : p + n ≤ N) (hn : n < 7) (hw : w < 13) : qEx M_X4_spells 0 [qR 160, qI (w : Int), qI (p : Int), qI (((p + n) : Nat) : Int), qU, qU] [] (xput h F G) (some (qI (qb (spl B p n w)))) (xput h F G) := by
  refine q_gen (fun r hr er eh => ?_)
  refine z_iconst d_X4_spells_0 (by decide) ?_
  refine z_istore (ls' := [qR 160, qI (w : Int), qI (p : Int), qI (((p + n) : Nat) : Int), qI 0, qU]) d_X4_spells_1 (by decide) rfl ?_
  refine z_eq (qc rfl (qc rfl (qc rfl (qc rfl (qc (qi (rfl)) (qc rfl rfl)))))) rfl rfl (z_for 7 (fun i => [qR 160, qI (w : Int), qI (p : Int), qI (((p + n) : Nat) : Int), qI (i : Int), qU]) (fun i => (xput h F G)) (fun i => ∀ j, j < i → wdc w j = (if j < n then B (p + j) else 32)) (fun j hj => absurd hj (by omega)) (fun i hii hp9 kki => ?_) (fun hp9 => ?_))
  · show qEx M_X4_spells 3 [qR 160, qI (w : Int), qI (p : Int), qI (((p + n) : Nat) : Int), qI (i : Int), qU] [] (xput h F G) r hr
    refine z_iload d_X4_spells_3 rfl ?_
    refine z_bipush d_X4_spells_5 (by decide) ?_
    refine z_icmp_ge 59 d_X4_spells_7 (by decide) (fun hc1 => absurd hc1 (by omega)) (fun hc1 => ?_)
    refine z_iload_n d_X4_spells_10 rfl rfl ?_
    refine z_iload d_X4_spells_11 rfl ?_
    refine z_iadd d_X4_spells_13 (by omega) ?_
    refine z_iload_n d_X4_spells_14 rfl rfl ?_
    suffices kJ15 : qEx M_X4_spells 32 [qR 160, qI (w : Int), qI (p : Int), qI (((p + n) : Nat) : Int), qI (i : Int), qU] [qI (qif (((p : Int) + (i : Int)) ≥ (((p + n) : Nat) : Int)) 32 ((G 161) (p + i)))] (xput h F G) r hr by
      refine z_icmp_ge 30 d_X4_spells_15 (by decide) (fun hc2 => ?_) (fun hc2 => ?_)
      · refine z_bipush d_X4_spells_30 (by decide) ?_
        exact z_eq rfl (qc (qi (qif_t hc2).symm) rfl) rfl kJ15
      · refine z_aload_n d_X4_spells_18 rfl rfl ?_
        refine z_getf (v := qR 161) d_X4_spells_19 fl_X4_11 (xput_ob (c := (F 160)) xi_160 rfl (xsh_4 xo_160)) rfl ?_
        refine z_iload_n d_X4_spells_22 rfl rfl ?_
        refine z_iload d_X4_spells_23 rfl ?_
        refine z_iadd d_X4_spells_25 (by omega) ?_
        refine z_ild (p + i) d_X4_spells_26 (xput_ar (g := (G 161)) xa_161 rfl) rfl (by omega) ?_
        refine z_goto 32 d_X4_spells_27 (by decide) ?_
        exact z_eq rfl (qc (qi (qif_f hc2).symm) rfl) rfl kJ15
    refine z_istore (ls' := [qR 160, qI (w : Int), qI (p : Int), qI (((p + n) : Nat) : Int), qI (i : Int), qI (qif (((p : Int) + (i : Int)) ≥ (((p + n) : Nat) : Int)) 32 ((G 161) (p + i)))]) d_X4_spells_32 (by decide) rfl ?_
    refine z_eq (qc rfl (qc rfl (qc rfl (qc rfl (qc rfl (qc (qi (show (qif (((p : Int) + (i : Int)) ≥ (((p + n) : Nat) : Int)) 32 ((G 161) (p + i))) = (if i < n then B (p + i) else 32) from by by_cases z : i < n; (rw [if_pos z, qif_f (by omega)]; exact hZ.2 _ (by omega)); (rw [if_neg z, qif_t (by omega)]))) rfl)))))) rfl rfl ?_
    refine z_ldcS d_X4_spells_34 rfl ?_
    refine z_iload_n d_X4_spells_36 rfl rfl ?_
    refine z_bipush d_X4_spells_37 (by decide) ?_
    refine z_imul d_X4_spells_39 (by omega) ?_
    refine z_iload d_X4_spells_40 rfl ?_
    refine z_iadd d_X4_spells_42 (by omega) ?_
    refine z_charAt (7 * w + i) d_X4_spells_43 rfl (by omega) (by omega) (by decide) (by decide) (Nat.le_of_ble_eq_true rfl) ?_
    refine z_eq rfl (qc (qi (show (chI (7 * w + i)) = (wdc w i) from ch_w hw (by omega))) rfl) rfl ?_
    refine z_iload d_X4_spells_46 rfl ?_
    refine z_icmp_eq 53 d_X4_spells_48 (by decide) (fun q48 => ?_) (fun q48 => ?_)
    · refine z_iinc (ls' := [qR 160, qI (w : Int), qI (p : Int), qI (((p + n) : Nat) : Int), qI ((i : Int) + 1), qI (if i < n then B (p + i) else 32)]) d_X4_spells_53 rfl (by decide) (by omega) rfl ?_
      refine z_goto 3 d_X4_spells_56 (by decide) ?_
      exact z_dr (qle_k rfl (qle_k rfl (qle_k rfl (qle_k rfl (qle_k (qi (by omega)) (qle_d qle_n)))))) rfl rfl (kki (q_lts hp9 q48))
    · refine z_iconst d_X4_spells_51 (by decide) ?_
      exact z_zret d_X4_spells_52 rfl (by first | exact qb_01 _ | decide | omega) (qer er (qb_f (fun z => q48 (z.2 i (by omega))))) eh
  · show qEx M_X4_spells 3 [qR 160, qI (w : Int), qI (p : Int), qI (((p + n) : Nat) : Int), qI (7 : Int), qU] [] (xput h F G) r hr
    refine z_iload d_X4_spells_3 rfl ?_
    refine z_bipush d_X4_spells_5 (by decide) ?_
    refine z_icmp_ge 59 d_X4_spells_7 (by decide) (fun hc3 => ?_) (fun hc3 => absurd hc3 (by omega))
    refine z_iconst d_X4_spells_59 (by decide) ?_
    exact z_zret d_X4_spells_60 rfl (by first | exact qb_01 _ | decide | omega) (qer er (qb_t ⟨hn, hp9⟩)) eh
set_option maxRecDepth 20000 in
set_option maxHeartbeats 4000000 in
theorem c_kindW {h : qH} {F G : Nat → Nat → Int} {B : Nat → Int} {N p n : Nat} (hZ : rdB F G B N) (hN : N ≤ 400) (hp : p + n ≤ N) : qEx M_X4_kindOfWord 0 [qR 160, qI (p : Int), qI (((p + n) : Nat) : Int), qU] [] (xput h F G) (some (qI (kwn B p n))) (xput h F G) := by
  refine q_gen (fun r hr er eh => ?_)
  refine z_iconst d_X4_kindOfWord_0 (by decide) ?_
  refine z_istore_n (ls' := [qR 160, qI (p : Int), qI (((p + n) : Nat) : Int), qI 0]) d_X4_kindOfWord_1 rfl (by decide) rfl ?_
  refine z_eq (qc rfl (qc rfl (qc rfl (qc (qi (rfl)) rfl)))) rfl rfl (z_for 13 (fun i => [qR 160, qI (p : Int), qI (((p + n) : Nat) : Int), qI (i : Int)]) (fun i => (xput h F G)) (fun i => ∀ j, j < i → ¬ spl B p n j) (fun j hj => absurd hj (by omega)) (fun i hii hp9 kki => ?_) (fun hp9 => ?_))
  · show qEx M_X4_kindOfWord 2 [qR 160, qI (p : Int), qI (((p + n) : Nat) : Int), qI (i : Int)] [] (xput h F G) r hr
    refine z_iload_n d_X4_kindOfWord_2 rfl rfl ?_
    refine z_bipush d_X4_kindOfWord_3 (by decide) ?_
    refine z_icmp_ge 37 d_X4_kindOfWord_5 (by decide) (fun hc1 => absurd hc1 (by omega)) (fun hc1 => ?_)
    refine z_iload_n d_X4_kindOfWord_8 rfl rfl ?_
    refine z_iload_n d_X4_kindOfWord_9 rfl rfl ?_
    refine z_isub d_X4_kindOfWord_10 (by omega) ?_
    refine z_bipush d_X4_kindOfWord_11 (by decide) ?_
    refine z_icmp_ge 37 d_X4_kindOfWord_13 (by decide) (fun q13 => ?_) (fun q13 => ?_)
    · refine z_iconst d_X4_kindOfWord_37 (by decide) ?_
      exact z_iret d_X4_kindOfWord_38 rfl (qer er (kwn_n (fun k hk z => absurd z.1 (by omega)))) eh
    · refine z_aload_n d_X4_kindOfWord_16 rfl rfl ?_
      refine z_iload_n d_X4_kindOfWord_17 rfl rfl ?_
      refine z_iload_n d_X4_kindOfWord_18 rfl rfl ?_
      refine z_iload_n d_X4_kindOfWord_19 rfl rfl ?_
      refine z_cv (M1 := M_X4_spells) d_X4_kindOfWord_20 lv_X4_100 k_X4_spells [qI (i : Int), qI (p : Int), qI (((p + n) : Nat) : Int)] rfl rfl (xput_ob (c := (F 160)) xi_160 rfl (xsh_4 xo_160)) ⟨_, _, rfl⟩ (Nat.le_of_ble_eq_true rfl) (by decide) (by decide) (Nat.le_of_ble_eq_true rfl) (c_spells (w := i) hZ hN hp (by omega) (by omega)) ?_
      refine z_ifeqB 31 d_X4_kindOfWord_23 (by decide) (fun q23 => ?_) (fun q23 => ?_)
      · refine z_iinc (ls' := [qR 160, qI (p : Int), qI (((p + n) : Nat) : Int), qI ((i : Int) + 1)]) d_X4_kindOfWord_31 rfl (by decide) (by omega) rfl ?_
        refine z_goto 2 d_X4_kindOfWord_34 (by decide) ?_
        exact z_eq (qc rfl (qc rfl (qc rfl (qc (qi (by omega)) rfl)))) rfl rfl (kki (q_lts hp9 q23))
      · refine z_bipush d_X4_kindOfWord_26 (by decide) ?_
        refine z_iload_n d_X4_kindOfWord_28 rfl rfl ?_
        refine z_iadd d_X4_kindOfWord_29 (by omega) ?_
        exact z_iret d_X4_kindOfWord_30 rfl (qer er (kwn_y (by omega) hp9 q23)) eh
  · show qEx M_X4_kindOfWord 2 [qR 160, qI (p : Int), qI (((p + n) : Nat) : Int), qI (13 : Int)] [] (xput h F G) r hr
    refine z_iload_n d_X4_kindOfWord_2 rfl rfl ?_
    refine z_bipush d_X4_kindOfWord_3 (by decide) ?_
    refine z_icmp_ge 37 d_X4_kindOfWord_5 (by decide) (fun hc2 => ?_) (fun hc2 => absurd hc2 (by omega))
    refine z_iconst d_X4_kindOfWord_37 (by decide) ?_
    exact z_iret d_X4_kindOfWord_38 rfl (qer er (kwn_n hp9)) eh
set_option maxRecDepth 20000 in
set_option maxHeartbeats 4000000 in
theorem c_ntL {h : qH} {F G : Nat → Nat → Int} {B : Nat → Int} {N p n j : Nat} (hZ : rdB F G B N) (hN : N ≤ 400) (hp : p + n ≤ N) (hn : 1 ≤ n) (hj : j ≤ 400) (hL : isL (B p)) : qEx M_X4_noteToken 0 [qR 160, qI (j : Int), qI (p : Int), qI (((p + n) : Nat) : Int)] [] (xput h F G) none (xput h F (gup (gup (gup G 163 (qup (G 163) j (p : Int))) 164 (qup (G 164) j 0)) 162 (qup (G 162) j (kwn B p n)))) := by
  refine q_gen (fun r hr er eh => ?_)
  refine z_aload_n d_X4_noteToken_0 rfl rfl ?_
  refine z_getf (v := qR 163) d_X4_noteToken_1 fl_X4_22 (xput_ob (c := (F 160)) xi_160 rfl (xsh_4 xo_160)) rfl ?_
  refine z_iload_n d_X4_noteToken_4 rfl rfl ?_
  refine z_iload_n d_X4_noteToken_5 rfl rfl ?_
  refine z_ist j d_X4_noteToken_6 (xput_ar (g := (G 163)) xa_163 rfl) (by omega) rfl (by omega) ?_
  refine z_eq rfl rfl (xput_sa xa_163) ?_
  refine z_aload_n d_X4_noteToken_7 rfl rfl ?_
  refine z_getf (v := qR 164) d_X4_noteToken_8 fl_X4_25 (xput_ob (c := (F 160)) xi_160 rfl (xsh_4 xo_160)) rfl ?_
  refine z_iload_n d_X4_noteToken_11 rfl rfl ?_
  refine z_iconst d_X4_noteToken_12 (by decide) ?_
  refine z_ist j d_X4_noteToken_13 (xput_ar (g := (G 164)) xa_164 rfl) (by omega) rfl (by omega) ?_
  refine z_eq rfl rfl (xput_sa xa_164) ?_
  refine z_aload_n d_X4_noteToken_14 rfl rfl ?_
  refine z_getf (v := qR 161) d_X4_noteToken_15 fl_X4_11 (xput_ob (c := (F 160)) xi_160 rfl (xsh_4 xo_160)) rfl ?_
  refine z_iload_n d_X4_noteToken_18 rfl rfl ?_
  refine z_ild p d_X4_noteToken_19 (xput_ar (g := (G 161)) xa_161 rfl) rfl (by omega) ?_
  refine z_eq rfl (qc (qi (show ((G 161) p) = (B p) from hZ.2 p (by omega))) rfl) rfl ?_
  refine z_cs (M1 := M_X4_isLetter) d_X4_noteToken_20 ls_X4_84 k_X4_isLetter [qI (B p)] rfl rfl (Nat.le_of_ble_eq_true rfl) (by decide) (by decide) (Nat.le_of_ble_eq_true rfl) (c_isLetter (B p)) ?_
  refine z_ifeqB 41 d_X4_noteToken_23 (by decide) (fun hc1 => absurd hc1 (by exact fun z => z hL)) (fun hc1 => ?_)
  refine z_aload_n d_X4_noteToken_26 rfl rfl ?_
  refine z_getf (v := qR 162) d_X4_noteToken_27 fl_X4_19 (xput_ob (c := (F 160)) xi_160 rfl (xsh_4 xo_160)) rfl ?_
  refine z_iload_n d_X4_noteToken_30 rfl rfl ?_
  refine z_aload_n d_X4_noteToken_31 rfl rfl ?_
  refine z_iload_n d_X4_noteToken_32 rfl rfl ?_
  refine z_iload_n d_X4_noteToken_33 rfl rfl ?_
  refine z_cv (M1 := M_X4_kindOfWord) d_X4_noteToken_34 lv_X4_90 k_X4_kindOfWord [qI (p : Int), qI (((p + n) : Nat) : Int)] rfl rfl (xput_ob (c := (F 160)) xi_160 rfl (xsh_4 xo_160)) ⟨_, _, rfl⟩ (Nat.le_of_ble_eq_true rfl) (by decide) (by decide) (Nat.le_of_ble_eq_true rfl) (c_kindW (F := F) (G := (gup (gup G 163 (qup (G 163) j (p : Int))) 164 (qup (G 164) j 0))) (B := B) (N := N) (p := p) (n := n) ⟨hZ.1, fun j9 hj9 => by (repeat rw [gup_ne (by decide)]); exact hZ.2 j9 hj9⟩ hN hp) ?_
  refine z_ist j d_X4_noteToken_37 (xput_ar (g := (G 162)) xa_162 rfl) (by omega) rfl (by omega) ?_
  refine z_eq rfl rfl (xput_sa xa_162) ?_
  refine z_goto 115 d_X4_noteToken_38 (by decide) ?_
  exact z_vret d_X4_noteToken_115 rfl er eh
set_option maxRecDepth 20000 in
set_option maxHeartbeats 4000000 in
theorem c_ntS {h : qH} {F G : Nat → Nat → Int} {B : Nat → Int} {N p n j : Nat} (hZ : rdB F G B N) (hN : N ≤ 400) (hp : p + n ≤ N) (hn : 1 ≤ n) (hj : j ≤ 400) (hL : ¬ isL (B p)) (hD : ¬ isD (B p)) : qEx M_X4_noteToken 0 [qR 160, qI (j : Int), qI (p : Int), qI (((p + n) : Nat) : Int)] [] (xput h F G) none (xput h F (gup (gup (gup G 163 (qup (G 163) j (p : Int))) 164 (qup (G 164) j 0)) 162 (qup (G 162) j (sgk (B p))))) := by
  refine q_gen (fun r hr er eh => ?_)
  refine z_aload_n d_X4_noteToken_0 rfl rfl ?_
  refine z_getf (v := qR 163) d_X4_noteToken_1 fl_X4_22 (xput_ob (c := (F 160)) xi_160 rfl (xsh_4 xo_160)) rfl ?_
  refine z_iload_n d_X4_noteToken_4 rfl rfl ?_
  refine z_iload_n d_X4_noteToken_5 rfl rfl ?_
  refine z_ist j d_X4_noteToken_6 (xput_ar (g := (G 163)) xa_163 rfl) (by omega) rfl (by omega) ?_
  refine z_eq rfl rfl (xput_sa xa_163) ?_
  refine z_aload_n d_X4_noteToken_7 rfl rfl ?_
  refine z_getf (v := qR 164) d_X4_noteToken_8 fl_X4_25 (xput_ob (c := (F 160)) xi_160 rfl (xsh_4 xo_160)) rfl ?_
  refine z_iload_n d_X4_noteToken_11 rfl rfl ?_
  refine z_iconst d_X4_noteToken_12 (by decide) ?_
  refine z_ist j d_X4_noteToken_13 (xput_ar (g := (G 164)) xa_164 rfl) (by omega) rfl (by omega) ?_
  refine z_eq rfl rfl (xput_sa xa_164) ?_
  refine z_aload_n d_X4_noteToken_14 rfl rfl ?_
  refine z_getf (v := qR 161) d_X4_noteToken_15 fl_X4_11 (xput_ob (c := (F 160)) xi_160 rfl (xsh_4 xo_160)) rfl ?_
  refine z_iload_n d_X4_noteToken_18 rfl rfl ?_
  refine z_ild p d_X4_noteToken_19 (xput_ar (g := (G 161)) xa_161 rfl) rfl (by omega) ?_
  refine z_eq rfl (qc (qi (show ((G 161) p) = (B p) from hZ.2 p (by omega))) rfl) rfl ?_
  refine z_cs (M1 := M_X4_isLetter) d_X4_noteToken_20 ls_X4_84 k_X4_isLetter [qI (B p)] rfl rfl (Nat.le_of_ble_eq_true rfl) (by decide) (by decide) (Nat.le_of_ble_eq_true rfl) (c_isLetter (B p)) ?_
  refine z_ifeqB 41 d_X4_noteToken_23 (by decide) (fun hc1 => ?_) (fun hc1 => absurd hc1 (by exact hL))
  refine z_aload_n d_X4_noteToken_41 rfl rfl ?_
  refine z_getf (v := qR 161) d_X4_noteToken_42 fl_X4_11 (xput_ob (c := (F 160)) xi_160 rfl (xsh_4 xo_160)) rfl ?_
  refine z_iload_n d_X4_noteToken_45 rfl rfl ?_
  refine z_ild p d_X4_noteToken_46 (xput_ar (g := (G 161)) xa_161 rfl) rfl (by omega) ?_
  refine z_eq rfl (qc (qi (show ((G 161) p) = (B p) from hZ.2 p (by omega))) rfl) rfl ?_
  refine z_cs (M1 := M_X4_isDigit) d_X4_noteToken_47 ls_X4_87 k_X4_isDigit [qI (B p)] rfl rfl (Nat.le_of_ble_eq_true rfl) (by decide) (by decide) (Nat.le_of_ble_eq_true rfl) (c_isDigit (B p)) ?_
  refine z_ifeqB 100 d_X4_noteToken_50 (by decide) (fun hc2 => ?_) (fun hc2 => absurd hc2 (by exact hD))
  refine z_aload_n d_X4_noteToken_100 rfl rfl ?_
  refine z_getf (v := qR 162) d_X4_noteToken_101 fl_X4_19 (xput_ob (c := (F 160)) xi_160 rfl (xsh_4 xo_160)) rfl ?_
  refine z_iload_n d_X4_noteToken_104 rfl rfl ?_
  refine z_aload_n d_X4_noteToken_105 rfl rfl ?_
  refine z_getf (v := qR 161) d_X4_noteToken_106 fl_X4_11 (xput_ob (c := (F 160)) xi_160 rfl (xsh_4 xo_160)) rfl ?_
  refine z_iload_n d_X4_noteToken_109 rfl rfl ?_
  refine z_ild p d_X4_noteToken_110 (xput_ar (g := (G 161)) xa_161 rfl) rfl (by omega) ?_
  refine z_eq rfl (qc (qi (show ((G 161) p) = (B p) from hZ.2 p (by omega))) rfl) rfl ?_
  refine z_cs (M1 := M_X4_kindOfSign) d_X4_noteToken_111 ls_X4_97 k_X4_kindOfSign [qI (B p)] rfl rfl (Nat.le_of_ble_eq_true rfl) (by decide) (by decide) (Nat.le_of_ble_eq_true rfl) (c_sign (B p)) ?_
  refine z_ist j d_X4_noteToken_114 (xput_ar (g := (G 162)) xa_162 rfl) (by omega) rfl (by omega) ?_
  refine z_eq rfl rfl (xput_sa xa_162) ?_
  exact z_vret d_X4_noteToken_115 rfl er eh
set_option maxRecDepth 20000 in
set_option maxHeartbeats 4000000 in
theorem c_ntD {h : qH} {F G : Nat → Nat → Int} {B : Nat → Int} {N p n j : Nat} (hZ : rdB F G B N) (hN : N ≤ 400) (hp : p + n ≤ N) (hn : 1 ≤ n) (hj : j ≤ 400) (hL : ¬ isL (B p)) (hD : isD (B p)) (hn4 : n ≤ 4) (hDD : ∀ j, j < n → isD (B (p + j))) : qEx M_X4_noteToken 0 [qR 160, qI (j : Int), qI (p : Int), qI (((p + n) : Nat) : Int)] [] (xput h F G) none (xput h F (gup (gup (gup G 163 (qup (G 163) j (p : Int))) 164 (qup (qup (G 164) j 0) j (vlF B p n))) 162 (qup (G 162) j 2))) := by
  refine q_gen (fun r hr er eh => ?_)
  refine z_aload_n d_X4_noteToken_0 rfl rfl ?_
  refine z_getf (v := qR 163) d_X4_noteToken_1 fl_X4_22 (xput_ob (c := (F 160)) xi_160 rfl (xsh_4 xo_160)) rfl ?_
  refine z_iload_n d_X4_noteToken_4 rfl rfl ?_
  refine z_iload_n d_X4_noteToken_5 rfl rfl ?_
  refine z_ist j d_X4_noteToken_6 (xput_ar (g := (G 163)) xa_163 rfl) (by omega) rfl (by omega) ?_
  refine z_eq rfl rfl (xput_sa xa_163) ?_
  refine z_aload_n d_X4_noteToken_7 rfl rfl ?_
  refine z_getf (v := qR 164) d_X4_noteToken_8 fl_X4_25 (xput_ob (c := (F 160)) xi_160 rfl (xsh_4 xo_160)) rfl ?_
  refine z_iload_n d_X4_noteToken_11 rfl rfl ?_
  refine z_iconst d_X4_noteToken_12 (by decide) ?_
  refine z_ist j d_X4_noteToken_13 (xput_ar (g := (G 164)) xa_164 rfl) (by omega) rfl (by omega) ?_
  refine z_eq rfl rfl (xput_sa xa_164) ?_
  refine z_aload_n d_X4_noteToken_14 rfl rfl ?_
  refine z_getf (v := qR 161) d_X4_noteToken_15 fl_X4_11 (xput_ob (c := (F 160)) xi_160 rfl (xsh_4 xo_160)) rfl ?_
  refine z_iload_n d_X4_noteToken_18 rfl rfl ?_
  refine z_ild p d_X4_noteToken_19 (xput_ar (g := (G 161)) xa_161 rfl) rfl (by omega) ?_
  refine z_eq rfl (qc (qi (show ((G 161) p) = (B p) from hZ.2 p (by omega))) rfl) rfl ?_
  refine z_cs (M1 := M_X4_isLetter) d_X4_noteToken_20 ls_X4_84 k_X4_isLetter [qI (B p)] rfl rfl (Nat.le_of_ble_eq_true rfl) (by decide) (by decide) (Nat.le_of_ble_eq_true rfl) (c_isLetter (B p)) ?_
  refine z_ifeqB 41 d_X4_noteToken_23 (by decide) (fun hc1 => ?_) (fun hc1 => absurd hc1 (by exact hL))
  refine z_aload_n d_X4_noteToken_41 rfl rfl ?_
  refine z_getf (v := qR 161) d_X4_noteToken_42 fl_X4_11 (xput_ob (c := (F 160)) xi_160 rfl (xsh_4 xo_160)) rfl ?_
  refine z_iload_n d_X4_noteToken_45 rfl rfl ?_
  refine z_ild p d_X4_noteToken_46 (xput_ar (g := (G 161)) xa_161 rfl) rfl (by omega) ?_
  refine z_eq rfl (qc (qi (show ((G 161) p) = (B p) from hZ.2 p (by omega))) rfl) rfl ?_
  refine z_cs (M1 := M_X4_isDigit) d_X4_noteToken_47 ls_X4_87 k_X4_isDigit [qI (B p)] rfl rfl (Nat.le_of_ble_eq_true rfl) (by decide) (by decide) (Nat.le_of_ble_eq_true rfl) (c_isDigit (B p)) ?_
  refine z_ifeqB 100 d_X4_noteToken_50 (by decide) (fun hc2 => absurd hc2 (by exact fun z => z hD)) (fun hc2 => ?_)
  refine z_aload_n d_X4_noteToken_53 rfl rfl ?_
  refine z_getf (v := qR 162) d_X4_noteToken_54 fl_X4_19 (xput_ob (c := (F 160)) xi_160 rfl (xsh_4 xo_160)) rfl ?_
  refine z_iload_n d_X4_noteToken_57 rfl rfl ?_
  refine z_iload_n d_X4_noteToken_58 rfl rfl ?_
  refine z_iload_n d_X4_noteToken_59 rfl rfl ?_
  refine z_isub d_X4_noteToken_60 (by omega) ?_
  refine z_iconst d_X4_noteToken_61 (by decide) ?_
  refine z_icmp_gt 69 d_X4_noteToken_62 (by decide) (fun hc3 => absurd hc3 (by omega)) (fun hc3 => ?_)
  refine z_iconst d_X4_noteToken_65 (by decide) ?_
  refine z_goto 70 d_X4_noteToken_66 (by decide) ?_
  refine z_ist j d_X4_noteToken_70 (xput_ar (g := (G 162)) xa_162 rfl) (by omega) rfl (by omega) ?_
  refine z_eq rfl rfl (xput_sa xa_162) ?_
  refine z_aload_n d_X4_noteToken_71 rfl rfl ?_
  refine z_getf (v := qR 164) d_X4_noteToken_72 fl_X4_25 (xput_ob (c := (F 160)) xi_160 rfl (xsh_4 xo_160)) rfl ?_
  refine z_iload_n d_X4_noteToken_75 rfl rfl ?_
  refine z_aload_n d_X4_noteToken_76 rfl rfl ?_
  refine z_getf (v := qR 162) d_X4_noteToken_77 fl_X4_19 (xput_ob (c := (F 160)) xi_160 rfl (xsh_4 xo_160)) rfl ?_
  refine z_iload_n d_X4_noteToken_80 rfl rfl ?_
  refine z_ild j d_X4_noteToken_81 (xput_ar (g := (qup (G 162) j 2)) xa_162 rfl) rfl (by omega) ?_
  refine z_eq rfl (qc (qi (show ((qup (G 162) j 2) j) = 2 from qup_eq _ _ _)) rfl) rfl ?_
  refine z_iconst d_X4_noteToken_82 (by decide) ?_
  refine z_icmp_ne 95 d_X4_noteToken_83 (by decide) (fun hc4 => absurd hc4 (by decide)) (fun hc4 => ?_)
  refine z_aload_n d_X4_noteToken_86 rfl rfl ?_
  refine z_iload_n d_X4_noteToken_87 rfl rfl ?_
  refine z_iload_n d_X4_noteToken_88 rfl rfl ?_
  refine z_cv (M1 := M_X4_valueOf) d_X4_noteToken_89 lv_X4_94 k_X4_valueOf [qI (p : Int), qI (((p + n) : Nat) : Int)] rfl rfl (xput_ob (c := (F 160)) xi_160 rfl (xsh_4 xo_160)) ⟨_, _, rfl⟩ (Nat.le_of_ble_eq_true rfl) (by decide) (by decide) (Nat.le_of_ble_eq_true rfl) (c_valueOf (F := F) (G := (gup (gup (gup G 163 (qup (G 163) j (p : Int))) 164 (qup (G 164) j 0)) 162 (qup (G 162) j 2))) (B := B) (N := N) (p := p) (n := n) ⟨hZ.1, fun j9 hj9 => by (repeat rw [gup_ne (by decide)]); exact hZ.2 j9 hj9⟩ hN hp hn4 hDD) ?_
  refine z_goto 96 d_X4_noteToken_92 (by decide) ?_
  refine z_ist j d_X4_noteToken_96 (xput_ar (g := (qup (G 164) j 0)) xa_164 rfl) (by omega) rfl (by omega) ?_
  refine z_eq rfl rfl ((xput_sa xa_164).trans (xput_cg rfl ((gup_comm (by omega)).trans (congrArg (fun z => gup z 162 (qup (G 162) j 2)) (gup_gup _ _ _))))) ?_
  refine z_goto 115 d_X4_noteToken_97 (by decide) ?_
  exact z_vret d_X4_noteToken_115 rfl er eh
set_option maxRecDepth 20000 in
set_option maxHeartbeats 4000000 in
theorem c_ntD9 {h : qH} {F G : Nat → Nat → Int} {B : Nat → Int} {N p n j : Nat} (hZ : rdB F G B N) (hN : N ≤ 400) (hp : p + n ≤ N) (hn : 1 ≤ n) (hj : j ≤ 400) (hL : ¬ isL (B p)) (hD : isD (B p)) (hn4 : ¬ n ≤ 4) : qEx M_X4_noteToken 0 [qR 160, qI (j : Int), qI (p : Int), qI (((p + n) : Nat) : Int)] [] (xput h F G) none (xput h F (gup (gup (gup G 163 (qup (G 163) j (p : Int))) 164 (qup (qup (G 164) j 0) j 0)) 162 (qup (G 162) j 1))) := by
  refine q_gen (fun r hr er eh => ?_)
  refine z_aload_n d_X4_noteToken_0 rfl rfl ?_
  refine z_getf (v := qR 163) d_X4_noteToken_1 fl_X4_22 (xput_ob (c := (F 160)) xi_160 rfl (xsh_4 xo_160)) rfl ?_
  refine z_iload_n d_X4_noteToken_4 rfl rfl ?_
  refine z_iload_n d_X4_noteToken_5 rfl rfl ?_
  refine z_ist j d_X4_noteToken_6 (xput_ar (g := (G 163)) xa_163 rfl) (by omega) rfl (by omega) ?_
  refine z_eq rfl rfl (xput_sa xa_163) ?_
  refine z_aload_n d_X4_noteToken_7 rfl rfl ?_
  refine z_getf (v := qR 164) d_X4_noteToken_8 fl_X4_25 (xput_ob (c := (F 160)) xi_160 rfl (xsh_4 xo_160)) rfl ?_
  refine z_iload_n d_X4_noteToken_11 rfl rfl ?_
  refine z_iconst d_X4_noteToken_12 (by decide) ?_
  refine z_ist j d_X4_noteToken_13 (xput_ar (g := (G 164)) xa_164 rfl) (by omega) rfl (by omega) ?_
  refine z_eq rfl rfl (xput_sa xa_164) ?_
  refine z_aload_n d_X4_noteToken_14 rfl rfl ?_
  refine z_getf (v := qR 161) d_X4_noteToken_15 fl_X4_11 (xput_ob (c := (F 160)) xi_160 rfl (xsh_4 xo_160)) rfl ?_
  refine z_iload_n d_X4_noteToken_18 rfl rfl ?_
  refine z_ild p d_X4_noteToken_19 (xput_ar (g := (G 161)) xa_161 rfl) rfl (by omega) ?_
  refine z_eq rfl (qc (qi (show ((G 161) p) = (B p) from hZ.2 p (by omega))) rfl) rfl ?_
  refine z_cs (M1 := M_X4_isLetter) d_X4_noteToken_20 ls_X4_84 k_X4_isLetter [qI (B p)] rfl rfl (Nat.le_of_ble_eq_true rfl) (by decide) (by decide) (Nat.le_of_ble_eq_true rfl) (c_isLetter (B p)) ?_
  refine z_ifeqB 41 d_X4_noteToken_23 (by decide) (fun hc1 => ?_) (fun hc1 => absurd hc1 (by exact hL))
  refine z_aload_n d_X4_noteToken_41 rfl rfl ?_
  refine z_getf (v := qR 161) d_X4_noteToken_42 fl_X4_11 (xput_ob (c := (F 160)) xi_160 rfl (xsh_4 xo_160)) rfl ?_
  refine z_iload_n d_X4_noteToken_45 rfl rfl ?_
  refine z_ild p d_X4_noteToken_46 (xput_ar (g := (G 161)) xa_161 rfl) rfl (by omega) ?_
  refine z_eq rfl (qc (qi (show ((G 161) p) = (B p) from hZ.2 p (by omega))) rfl) rfl ?_
  refine z_cs (M1 := M_X4_isDigit) d_X4_noteToken_47 ls_X4_87 k_X4_isDigit [qI (B p)] rfl rfl (Nat.le_of_ble_eq_true rfl) (by decide) (by decide) (Nat.le_of_ble_eq_true rfl) (c_isDigit (B p)) ?_
  refine z_ifeqB 100 d_X4_noteToken_50 (by decide) (fun hc2 => absurd hc2 (by exact fun z => z hD)) (fun hc2 => ?_)
  refine z_aload_n d_X4_noteToken_53 rfl rfl ?_
  refine z_getf (v := qR 162) d_X4_noteToken_54 fl_X4_19 (xput_ob (c := (F 160)) xi_160 rfl (xsh_4 xo_160)) rfl ?_
  refine z_iload_n d_X4_noteToken_57 rfl rfl ?_
  refine z_iload_n d_X4_noteToken_58 rfl rfl ?_
  refine z_iload_n d_X4_noteToken_59 rfl rfl ?_
  refine z_isub d_X4_noteToken_60 (by omega) ?_
  refine z_iconst d_X4_noteToken_61 (by decide) ?_
  refine z_icmp_gt 69 d_X4_noteToken_62 (by decide) (fun hc3 => ?_) (fun hc3 => absurd hc3 (by omega))
  refine z_iconst d_X4_noteToken_69 (by decide) ?_
  refine z_ist j d_X4_noteToken_70 (xput_ar (g := (G 162)) xa_162 rfl) (by omega) rfl (by omega) ?_
  refine z_eq rfl rfl (xput_sa xa_162) ?_
  refine z_aload_n d_X4_noteToken_71 rfl rfl ?_
  refine z_getf (v := qR 164) d_X4_noteToken_72 fl_X4_25 (xput_ob (c := (F 160)) xi_160 rfl (xsh_4 xo_160)) rfl ?_
  refine z_iload_n d_X4_noteToken_75 rfl rfl ?_
  refine z_aload_n d_X4_noteToken_76 rfl rfl ?_
  refine z_getf (v := qR 162) d_X4_noteToken_77 fl_X4_19 (xput_ob (c := (F 160)) xi_160 rfl (xsh_4 xo_160)) rfl ?_
  refine z_iload_n d_X4_noteToken_80 rfl rfl ?_
  refine z_ild j d_X4_noteToken_81 (xput_ar (g := (qup (G 162) j 1)) xa_162 rfl) rfl (by omega) ?_
  refine z_eq rfl (qc (qi (show ((qup (G 162) j 1) j) = 1 from qup_eq _ _ _)) rfl) rfl ?_
  refine z_iconst d_X4_noteToken_82 (by decide) ?_
  refine z_icmp_ne 95 d_X4_noteToken_83 (by decide) (fun hc4 => ?_) (fun hc4 => absurd (by decide) hc4)
  refine z_iconst d_X4_noteToken_95 (by decide) ?_
  refine z_ist j d_X4_noteToken_96 (xput_ar (g := (qup (G 164) j 0)) xa_164 rfl) (by omega) rfl (by omega) ?_
  refine z_eq rfl rfl ((xput_sa xa_164).trans (xput_cg rfl ((gup_comm (by omega)).trans (congrArg (fun z => gup z 162 (qup (G 162) j 1)) (gup_gup _ _ _))))) ?_
  refine z_goto 115 d_X4_noteToken_97 (by decide) ?_
  exact z_vret d_X4_noteToken_115 rfl er eh
/-- a token's row: its kind, place and value -/
def ntG (B : Nat → Int) (N p j : Nat) (G G' : Nat → Nat → Int) : Prop := (∀ a, a ≠ 162 → a ≠ 163 → a ≠ 164 → G' a = G a) ∧ G' 162 = qup (G 162) j (kd B N p) ∧ G' 163 = qup (G 163) j (p : Int) ∧ ∃ v, G' 164 = qup (G 164) j v ∧ (kd B N p = 2 → v = vl B N p)
theorem ntG_mk {B : Nat → Int} {N p j : Nat} {G : Nat → Nat → Int} {k v : Int} {X : Nat → Int} (hk : k = kd B N p) (hX : X = qup (G 164) j v) (hv : kd B N p = 2 → v = vl B N p) : ntG B N p j G (gup (gup (gup G 163 (qup (G 163) j (p : Int))) 164 X) 162 (qup (G 162) j k)) := by
  refine ⟨fun a h1 h2 h3 => by rw [gup_ne h1, gup_ne h3, gup_ne h2], ?_, ?_, v, ?_, hv⟩
  · rw [gup_eq, hk]
  · rw [gup_ne (by decide), gup_ne (by decide), gup_eq]
  · rw [gup_ne (by decide), gup_eq, hX]
theorem c_note {h : qH} {F G : Nat → Nat → Int} {B : Nat → Int} {N p j : Nat} (hZ : rdB F G B N) (hN : N ≤ 400) (hp : p < N) (hj : j ≤ 400) : ∃ G', ntG B N p j G G' ∧ qEx M_X4_noteToken 0 [qR 160, qI (j : Int), qI (p : Int), qI ((en B N p : Nat) : Int)] [] (xput h F G) none (xput h F G') := by
  have hb := bAt_lt (B := B) hp
  have ht : (p : Int) < (N : Int) := by omega
  by_cases hL : isL (B p)
  · have hL2 : isL (bAt B N p) := by rw [hb]; exact hL
    have hr := rl_sp (Q := isL) B nL (Nat.le_of_lt hp)
    have h1 := rl_pos (Q := isL) nL (Nat.le_of_lt hp) hL2
    have he : en B N p = p + rl isL B N p := by unfold en; rw [qif_t hL2]
    have hk : kwn B p (rl isL B N p) = kd B N p := by unfold kd; rw [qif_t ht, qif_t hL2]; rfl
    rw [he]
    refine ⟨_, ntG_mk hk rfl (fun z => ?_), c_ntL hZ hN hr.1 h1 hj hL⟩
    have := kw_bd B N p
    rw [← hk] at z
    have z2 : kw B N p = 2 := z
    omega
  · have hL2 : ¬ isL (bAt B N p) := by rw [hb]; exact hL
    by_cases hD : isD (B p)
    · have hD2 : isD (bAt B N p) := by rw [hb]; exact hD
      have hr := rl_sp (Q := isD) B nD (Nat.le_of_lt hp)
      have h1 := rl_pos (Q := isD) nD (Nat.le_of_lt hp) hD2
      have he : en B N p = p + rl isD B N p := by unfold en; rw [qif_f hL2, qif_t hD2]
      rw [he]
      by_cases h4 : rl isD B N p ≤ 4
      · have hk : 2 = kd B N p := by unfold kd; rw [qif_t ht, qif_f hL2, qif_t hD2, qif_t h4]
        refine ⟨_, ntG_mk hk (qup_qup _ _ _ _) (fun _ => rfl), c_ntD hZ hN hr.1 h1 hj hL hD h4 (fun i hi => ?_)⟩
        have := hr.2.1 i hi
        rw [bAt_lt (by omega)] at this
        exact this
      · have hk : 1 = kd B N p := by unfold kd; rw [qif_t ht, qif_f hL2, qif_t hD2, qif_f h4]
        exact ⟨_, ntG_mk hk (qup_qup _ _ _ _) (fun z => absurd (hk.trans z) (by decide)), c_ntD9 hZ hN hr.1 h1 hj hL hD h4⟩
    · have hD2 : ¬ isD (bAt B N p) := by rw [hb]; exact hD
      have he : en B N p = p + 1 := by unfold en; rw [qif_f hL2, qif_f hD2]
      have hk : sgk (B p) = kd B N p := by unfold kd; rw [qif_t ht, qif_f hL2, qif_f hD2, hb]
      rw [he]
      refine ⟨_, ntG_mk hk rfl (fun z => ?_), c_ntS hZ hN (by omega) (by omega) hj hL hD⟩
      rw [← hk] at z
      unfold sgk at z
      split at z
      · cases z
      · split at z
        · cases z
        · split at z <;> cases z
