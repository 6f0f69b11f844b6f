/-! ===== CONTRACTS: trials: fewestPages, tryMixedBooks, noteRuns, firstUnlike ===== -/
noncomputable def bcn (x : Int) : Int := cnt (fun q => tb x q = true) 32
noncomputable def enC (R C : Nat → Int) (to : Nat) : Nat → Int
  | 0 => -1
  | s + 1 => qif (enC R C to s = -1 ∨ bcn s < bcn (enC R C to s)) (qif (fbR (bkTc R (pgC C (s : Int)) 15 (-1) (-1) 0) to = -1) s (enC R C to s)) (enC R C to s)
theorem fst_s {p : Nat → Prop} {n : Nat} : fst p (n + 1) = qif (fst p n ≠ -1) (fst p n) (qif (p n) (n : Int) (-1)) := by
  rcases fst_cases p n with ⟨e, h⟩ | ⟨i, hi, e, h1, h2⟩
  · rw [e, qif_f (show ¬ ((-1 : Int) ≠ -1) from fun z => z rfl)]
    by_cases c : p n
    · rw [qif_t c]; exact fst_at (by omega) h c
    · rw [qif_f c]; exact fst_none (q_lts h c)
  · rw [e, qif_t (show (i : Int) ≠ -1 by omega)]
    exact fst_at (by omega) h2 h1
theorem fst_cnt {p : Nat → Prop} {n : Nat} : fst p n = -1 ↔ cnt p n = 0 := by
  rw [cnt_0]
  constructor
  · intro e
    rcases fst_cases p n with ⟨_, h⟩ | ⟨i, hi, e2, _⟩
    · exact h
    · rw [e2] at e; omega
  · exact fst_none
set_option maxRecDepth 20000 in
set_option maxHeartbeats 4000000 in
theorem c_fewest {h : qH} {F G : Nat → Nat → Int} {b to : Nat} {R C : Nat → Int} (hb2 : 2 ≤ b) (hb : xk b = 0) (hbl : b + 23 < 172) (ht : to ≤ 24) (hR : bkR F G b R C) (hO : bkOk R C) (hth : thi G) : ∃ F' G', (xfr 172 205 F G F' G' ∧ thi G') ∧ qEx M_X9_fewestPages 0 [qR 172, qR b, qI (to : Int), qU, qU, qU] [] (xput h F G) (some (qI (enC R C to 16))) (xput h F' G') := by
  refine x_in (fun Q hQ => ?_)
  refine qy (fun _ _ k9 => z_iconst d_X9_fewestPages_0 (by decide) k9) ?_
  refine qy (fun _ _ k9 => z_istore_n (ls' := [qR 172, qR b, qI (to : Int), qI (-1), qU, qU]) d_X9_fewestPages_1 rfl (by decide) rfl k9) ?_
  refine qy (fun _ _ k9 => z_iconst d_X9_fewestPages_2 (by decide) k9) ?_
  refine qy (fun _ _ k9 => z_istore (ls' := [qR 172, qR b, qI (to : Int), qI (-1), qI 0, qU]) d_X9_fewestPages_3 (by decide) rfl k9) ?_
  refine qy (fun _ _ k9 => z_eq (qc rfl (qc rfl (qc rfl (qc (qi (rfl)) (qc (qi (rfl)) (qc rfl rfl)))))) rfl rfl k9) (y_wh3 (fun (k : Nat) (Fa : Nat → Nat → Int) (Ga : Nat → Nat → Int) => 16 - k) (fun (k : Nat) (Fa : Nat → Nat → Int) (Ga : Nat → Nat → Int) => [qR 172, qR b, qI (to : Int), qI (enC R C to k), qI (k : Int), qU]) (fun (k : Nat) (Fa : Nat → Nat → Int) (Ga : Nat → Nat → Int) => (xput h Fa Ga)) (fun (k : Nat) (Fa : Nat → Nat → Int) (Ga : Nat → Nat → Int) => k ≤ 16 ∧ xfr 172 205 F G Fa Ga ∧ thi Ga) 0 F G (⟨by omega, xfr_rf _ _ _ _, hth⟩) (fun k Fa Ga hp kk => ?_))
  obtain ⟨hk16, hfr, hth⟩ := hp
  show qEy M_X9_fewestPages 5 [qR 172, qR b, qI (to : Int), qI (enC R C to k), qI (k : Int), qU] [] (xput h Fa Ga) Q
  have hR1 : bkR Fa Ga b R C := bkR_cg hR (fun a h1 h2 => hfr a (by omega))
  refine qy (fun _ _ k9 => z_iload d_X9_fewestPages_5 rfl k9) ?_
  refine qy (fun _ _ k9 => z_bipush d_X9_fewestPages_7 (by decide) k9) ?_
  refine qy2 (fun _ _ => z_icmp_ge 61 d_X9_fewestPages_9 (by decide)) (fun hc1 => ?_) (fun hc1 => ?_)
  · refine qy (fun _ _ k9 => z_iload_n d_X9_fewestPages_61 rfl rfl k9) ?_
    exact y_ret (hQ Fa Ga (⟨hfr, hth⟩)) (z_iret d_X9_fewestPages_62 rfl (qsi (by rw [show k = 16 by omega])) rfl)
  · refine qy (fun _ _ k9 => z_iload_n d_X9_fewestPages_12 rfl rfl k9) ?_
    refine qy (fun _ _ k9 => z_iconst d_X9_fewestPages_13 (by decide) k9) ?_
    refine qy2 (fun _ _ => z_icmp_eq 29 d_X9_fewestPages_14 (by decide)) (fun q14 => ?_) (fun q14 => ?_)
    · refine qy (fun _ _ k9 => z_iconst d_X9_fewestPages_29 (by decide) k9) ?_
      refine qy (fun _ _ k9 => z_goto 34 d_X9_fewestPages_30 (by decide) k9) ?_
      refine qy (fun _ _ k9 => z_istore (ls' := [qR 172, qR b, qI (to : Int), qI (enC R C to k), qI (k : Int), qI 1]) d_X9_fewestPages_34 (by decide) rfl k9) ?_
      refine qy (fun _ _ k9 => z_iload d_X9_fewestPages_36 rfl k9) ?_
      refine qy2 (fun _ _ => z_if_eq 55 d_X9_fewestPages_38 (by decide)) (fun hc2 => absurd hc2 (by decide)) (fun hc2 => ?_)
      refine qy (fun _ _ k9 => z_aload_n d_X9_fewestPages_41 rfl rfl k9) ?_
      refine qy (fun _ _ k9 => z_aload_n d_X9_fewestPages_42 rfl rfl k9) ?_
      refine qy (fun _ _ k9 => z_iload d_X9_fewestPages_43 rfl k9) ?_
      refine qy (fun _ _ k9 => z_iload_n d_X9_fewestPages_45 rfl rfl k9) ?_
      obtain ⟨F1, G1, ⟨hv1, hw1⟩, hx1⟩ := c_wwPages (h := h) (F := Fa) (G := Ga) (b := b) (to := to) (R := R) (C := C) k hb2 hb hbl ht hR1 hO hth (by omega)
      refine qy (fun _ _ k9 => z_cv (M1 := M_X9_worksWithPages) d_X9_fewestPages_46 lv_X9_148 k_X9_worksWithPages [qR b, qI (k : Int), qI (to : Int)] rfl rfl (xput_ob (c := (Fa 172)) xi_172 rfl (xsh_9 xo_172)) ⟨_, _, rfl⟩ (Nat.le_of_ble_eq_true rfl) (by decide) (by decide) (Nat.le_of_ble_eq_true rfl) hx1 k9) ?_
      refine qy2n (fun _ _ => z_ifeqB 55 d_X9_fewestPages_49 (by decide)) (fun q49 => ?_) (fun q49 => ?_)
      · refine qy (fun _ _ k9 => z_iinc (ls' := [qR 172, qR b, qI (to : Int), qI (enC R C to k), qI ((k : Int) + 1), qI 1]) d_X9_fewestPages_55 rfl (by decide) (by omega) rfl k9) ?_
        refine qy (fun _ _ k9 => z_goto 5 d_X9_fewestPages_58 (by decide) k9) ?_
        exact qy (fun _ _ k9 => z_dr (qle_k rfl (qle_k rfl (qle_k rfl (qle_k (qi ((show _ = qif _ _ _ by rw [qif_t (show enC R C to k = -1 ∨ bcn (k : Int) < bcn (enC R C to k) by omega), qif_f q49]))) (qle_k (qi (by omega)) (qle_d qle_n)))))) rfl rfl k9) (kk (k + 1) F1 G1 (⟨by omega, xfr_tr hfr hv1, hw1⟩) (by omega))
      · refine qy (fun _ _ k9 => z_iload d_X9_fewestPages_52 rfl k9) ?_
        refine qy (fun _ _ k9 => z_istore_n (ls' := [qR 172, qR b, qI (to : Int), qI (k : Int), qI (k : Int), qI 1]) d_X9_fewestPages_54 rfl (by decide) rfl k9) ?_
        refine qy (fun _ _ k9 => z_iinc (ls' := [qR 172, qR b, qI (to : Int), qI (k : Int), qI ((k : Int) + 1), qI 1]) d_X9_fewestPages_55 rfl (by decide) (by omega) rfl k9) ?_
        refine qy (fun _ _ k9 => z_goto 5 d_X9_fewestPages_58 (by decide) k9) ?_
        exact qy (fun _ _ k9 => z_dr (qle_k rfl (qle_k rfl (qle_k rfl (qle_k (qi ((show _ = qif _ _ _ by rw [qif_t (show enC R C to k = -1 ∨ bcn (k : Int) < bcn (enC R C to k) by omega), qif_t q49]))) (qle_k (qi (by omega)) (qle_d qle_n)))))) rfl rfl k9) (kk (k + 1) F1 G1 (⟨by omega, xfr_tr hfr hv1, hw1⟩) (by omega))
    · refine qy (fun _ _ k9 => z_iload d_X9_fewestPages_17 rfl k9) ?_
      refine qy (fun _ _ k9 => z_cs (M1 := M_J6_bitCount_0f7a4) d_X9_fewestPages_19 ls_X9_143 k_J6_bitCount_0f7a4 [qI (k : Int)] rfl rfl (Nat.le_of_ble_eq_true rfl) (by decide) (by decide) (Nat.le_of_ble_eq_true rfl) (z_end (c_bits (k : Int)) (show _ = some (qI (bcn (k : Int))) from rfl) rfl) k9) ?_
      refine qy (fun _ _ k9 => z_iload_n d_X9_fewestPages_22 rfl rfl k9) ?_
      refine qy (fun _ _ k9 => z_cs (M1 := M_J6_bitCount_0f7a4) d_X9_fewestPages_23 ls_X9_143 k_J6_bitCount_0f7a4 [qI (enC R C to k)] rfl rfl (Nat.le_of_ble_eq_true rfl) (by decide) (by decide) (Nat.le_of_ble_eq_true rfl) (z_end (c_bits (enC R C to k)) (show _ = some (qI (bcn (enC R C to k))) from rfl) rfl) k9) ?_
      refine qy2 (fun _ _ => z_icmp_ge 33 d_X9_fewestPages_26 (by decide)) (fun q26 => ?_) (fun q26 => ?_)
      · refine qy (fun _ _ k9 => z_iconst d_X9_fewestPages_33 (by decide) k9) ?_
        refine qy (fun _ _ k9 => z_istore (ls' := [qR 172, qR b, qI (to : Int), qI (enC R C to k), qI (k : Int), qI 0]) d_X9_fewestPages_34 (by decide) rfl k9) ?_
        refine qy (fun _ _ k9 => z_iload d_X9_fewestPages_36 rfl k9) ?_
        refine qy2 (fun _ _ => z_if_eq 55 d_X9_fewestPages_38 (by decide)) (fun hc3 => ?_) (fun hc3 => absurd (by decide) hc3)
        refine qy (fun _ _ k9 => z_iinc (ls' := [qR 172, qR b, qI (to : Int), qI (enC R C to k), qI ((k : Int) + 1), qI 0]) d_X9_fewestPages_55 rfl (by decide) (by omega) rfl k9) ?_
        refine qy (fun _ _ k9 => z_goto 5 d_X9_fewestPages_58 (by decide) k9) ?_
        exact qy (fun _ _ k9 => z_dr (qle_k rfl (qle_k rfl (qle_k rfl (qle_k (qi ((show _ = qif _ _ _ by rw [qif_f (show ¬ (enC R C to k = -1 ∨ bcn (k : Int) < bcn (enC R C to k)) by omega)]))) (qle_k (qi (by omega)) (qle_d qle_n)))))) rfl rfl k9) (kk (k + 1) Fa Ga (⟨by omega, hfr, hth⟩) (by omega))
      · refine qy (fun _ _ k9 => z_iconst d_X9_fewestPages_29 (by decide) k9) ?_
        refine qy (fun _ _ k9 => z_goto 34 d_X9_fewestPages_30 (by decide) k9) ?_
        refine qy (fun _ _ k9 => z_istore (ls' := [qR 172, qR b, qI (to : Int), qI (enC R C to k), qI (k : Int), qI 1]) d_X9_fewestPages_34 (by decide) rfl k9) ?_
        refine qy (fun _ _ k9 => z_iload d_X9_fewestPages_36 rfl k9) ?_
        refine qy2 (fun _ _ => z_if_eq 55 d_X9_fewestPages_38 (by decide)) (fun hc4 => absurd hc4 (by decide)) (fun hc4 => ?_)
        refine qy (fun _ _ k9 => z_aload_n d_X9_fewestPages_41 rfl rfl k9) ?_
        refine qy (fun _ _ k9 => z_aload_n d_X9_fewestPages_42 rfl rfl k9) ?_
        refine qy (fun _ _ k9 => z_iload d_X9_fewestPages_43 rfl k9) ?_
        refine qy (fun _ _ k9 => z_iload_n d_X9_fewestPages_45 rfl rfl k9) ?_
        obtain ⟨F2, G2, ⟨hv2, hw2⟩, hx2⟩ := c_wwPages (h := h) (F := Fa) (G := Ga) (b := b) (to := to) (R := R) (C := C) k hb2 hb hbl ht hR1 hO hth (by omega)
        refine qy (fun _ _ k9 => z_cv (M1 := M_X9_worksWithPages) d_X9_fewestPages_46 lv_X9_148 k_X9_worksWithPages [qR b, qI (k : Int), qI (to : Int)] rfl rfl (xput_ob (c := (Fa 172)) xi_172 rfl (xsh_9 xo_172)) ⟨_, _, rfl⟩ (Nat.le_of_ble_eq_true rfl) (by decide) (by decide) (Nat.le_of_ble_eq_true rfl) hx2 k9) ?_
        refine qy2n (fun _ _ => z_ifeqB 55 d_X9_fewestPages_49 (by decide)) (fun q49 => ?_) (fun q49 => ?_)
        · refine qy (fun _ _ k9 => z_iinc (ls' := [qR 172, qR b, qI (to : Int), qI (enC R C to k), qI ((k : Int) + 1), qI 1]) d_X9_fewestPages_55 rfl (by decide) (by omega) rfl k9) ?_
          refine qy (fun _ _ k9 => z_goto 5 d_X9_fewestPages_58 (by decide) k9) ?_
          exact qy (fun _ _ k9 => z_dr (qle_k rfl (qle_k rfl (qle_k rfl (qle_k (qi ((show _ = qif _ _ _ by rw [qif_t (show enC R C to k = -1 ∨ bcn (k : Int) < bcn (enC R C to k) by omega), qif_f q49]))) (qle_k (qi (by omega)) (qle_d qle_n)))))) rfl rfl k9) (kk (k + 1) F2 G2 (⟨by omega, xfr_tr hfr hv2, hw2⟩) (by omega))
        · refine qy (fun _ _ k9 => z_iload d_X9_fewestPages_52 rfl k9) ?_
          refine qy (fun _ _ k9 => z_istore_n (ls' := [qR 172, qR b, qI (to : Int), qI (k : Int), qI (k : Int), qI 1]) d_X9_fewestPages_54 rfl (by decide) rfl k9) ?_
          refine qy (fun _ _ k9 => z_iinc (ls' := [qR 172, qR b, qI (to : Int), qI (k : Int), qI ((k : Int) + 1), qI 1]) d_X9_fewestPages_55 rfl (by decide) (by omega) rfl k9) ?_
          refine qy (fun _ _ k9 => z_goto 5 d_X9_fewestPages_58 (by decide) k9) ?_
          exact qy (fun _ _ k9 => z_dr (qle_k rfl (qle_k rfl (qle_k rfl (qle_k (qi ((show _ = qif _ _ _ by rw [qif_t (show enC R C to k = -1 ∨ bcn (k : Int) < bcn (enC R C to k) by omega), qif_t q49]))) (qle_k (qi (by omega)) (qle_d qle_n)))))) rfl rfl k9) (kk (k + 1) F2 G2 (⟨by omega, xfr_tr hfr hv2, hw2⟩) (by omega))
noncomputable def mxRR (R R2 : Nat → Int) (s : Int) (k : Nat) : Int := qif (tb s (k / 96) = true) (R2 k) (R k)
noncomputable def mxCC (C C2 : Nat → Int) (s : Int) (p : Nat) : Int := qif (tb s p = true) (C2 p) (C p)
theorem bkOk_mx {R R2 C C2 : Nat → Int} {s : Int} (h : bkOk R C) (h2 : bkOk R2 C2) : bkOk (mxRR R R2 s) (mxCC C C2 s) := fun q h1 h3 => by
  unfold mxRR
  unfold mxCC at h3
  rw [show (4 * q + 3) / 96 = q / 24 by omega]
  by_cases z : tb s (q / 24) = true
  · rw [qif_t z] at h3 ⊢; exact h2 q h1 h3
  · rw [qif_f z] at h3 ⊢; exact h q h1 h3
set_option maxRecDepth 20000 in
set_option maxHeartbeats 4000000 in
theorem c_tryMixed {h : qH} {F G : Nat → Nat → Int} {b c to : Nat} {R C R2 C2 : Nat → Int} (hb2 : 2 ≤ b) (hb : xk b = 0) (hbl : b + 23 < 172) (hc2 : 2 ≤ c) (hc : xk c = 0) (hcl : c + 23 < 172) (ht : to ≤ 24) (hR : bkR F G b R C) (hS : bkR F G c R2 C2) (hO : bkOk R C) (hO2 : bkOk R2 C2) (hth : thi G) : ∃ F' G', (xfr 172 205 F G F' G' ∧ thi G' ∧ F' 172 5 = cnt (fun q : Nat => fbR (bkTc (mxRR R R2 (q : Int)) (mxCC C C2 (q : Int)) 15 (-1) (-1) 0) to = -1) 16 ∧ F' 172 6 = fst (fun q : Nat => fbR (bkTc (mxRR R R2 (q : Int)) (mxCC C C2 (q : Int)) 15 (-1) (-1) 0) to = -1) 16) ∧ qEx M_X9_tryMixedBooks 0 [qR 172, qR b, qR c, qI (to : Int), qU, qU] [] (xput h F G) none (xput h F' G') := by
  refine x_in (fun Q hQ => ?_)
  refine qy (fun _ _ k9 => z_aload_n d_X9_tryMixedBooks_0 rfl rfl k9) ?_
  refine qy (fun _ _ k9 => z_iconst d_X9_tryMixedBooks_1 (by decide) k9) ?_
  refine qy (fun _ _ k9 => z_putf (fs' := [qR 173, qR 177, qR 181, qR 205, qI ((F 172) 4), qI 0, qI ((F 172) 6)]) d_X9_tryMixedBooks_2 fp_X9_36 (xput_ob (c := (F 172)) xi_172 rfl (xsh_9 xo_172)) (fun _ => rfl) (fun _ => rfl) (Nat.le_of_ble_eq_true rfl) rfl k9) ?_
  refine qy (fun _ _ k9 => z_eq rfl rfl (xput_sf (c := (qup (F 172) 5 0)) xi_172 (xsh_9 xo_172)) k9) ?_
  refine qy (fun _ _ k9 => z_aload_n d_X9_tryMixedBooks_5 rfl rfl k9) ?_
  refine qy (fun _ _ k9 => z_iconst d_X9_tryMixedBooks_6 (by decide) k9) ?_
  refine qy (fun _ _ k9 => z_putf (fs' := [qR 173, qR 177, qR 181, qR 205, qI ((F 172) 4), qI 0, qI (-1)]) d_X9_tryMixedBooks_7 fp_X9_39 (xput_ob (c := (qup (F 172) 5 0)) xi_172 rfl (xsh_9 xo_172)) (fun _ => rfl) (fun _ => rfl) (Nat.le_of_ble_eq_true rfl) rfl k9) ?_
  refine qy (fun _ _ k9 => z_eq rfl rfl ((xput_sf (c := (qup (qup (F 172) 5 0) 6 (-1))) xi_172 (xsh_9 xo_172)).trans (xput_cg (gup_gup _ _ _) rfl)) k9) ?_
  refine qy (fun _ _ k9 => z_iconst d_X9_tryMixedBooks_10 (by decide) k9) ?_
  refine qy (fun _ _ k9 => z_istore (ls' := [qR 172, qR b, qR c, qI (to : Int), qI 0, qU]) d_X9_tryMixedBooks_11 (by decide) rfl k9) ?_
  refine qy (fun _ _ k9 => z_eq (qc rfl (qc rfl (qc rfl (qc rfl (qc (qi (rfl)) (qc rfl rfl)))))) rfl rfl k9) (y_wh3 (fun (st : Nat) (Fa : Nat → Nat → Int) (Ga : Nat → Nat → Int) => 16 - st) (fun (st : Nat) (Fa : Nat → Nat → Int) (Ga : Nat → Nat → Int) => [qR 172, qR b, qR c, qI (to : Int), qI (st : Int), qU]) (fun (st : Nat) (Fa : Nat → Nat → Int) (Ga : Nat → Nat → Int) => (xput h Fa Ga)) (fun (st : Nat) (Fa : Nat → Nat → Int) (Ga : Nat → Nat → Int) => st ≤ 16 ∧ xfr 172 205 F G Fa Ga ∧ thi Ga ∧ Fa 172 5 = cnt (fun q : Nat => fbR (bkTc (mxRR R R2 (q : Int)) (mxCC C C2 (q : Int)) 15 (-1) (-1) 0) to = -1) st ∧ Fa 172 6 = fst (fun q : Nat => fbR (bkTc (mxRR R R2 (q : Int)) (mxCC C C2 (q : Int)) 15 (-1) (-1) 0) to = -1) st) 0 (gup F 172 (qup (qup (F 172) 5 0) 6 (-1))) G (⟨by omega, xfr_f (xfr_rf _ _ _ _) (by decide) (by decide), hth, rfl, rfl⟩) (fun st Fa Ga hp ko => ?_))
  obtain ⟨hs16, hfr, hth, hf5, hf6⟩ := hp
  show qEy M_X9_tryMixedBooks 13 [qR 172, qR b, qR c, qI (to : Int), qI (st : Int), qU] [] (xput h Fa Ga) Q
  refine qy (fun _ _ k9 => z_iload d_X9_tryMixedBooks_13 rfl k9) ?_
  refine qy (fun _ _ k9 => z_bipush d_X9_tryMixedBooks_15 (by decide) k9) ?_
  refine qy2 (fun _ _ => z_icmp_ge 134 d_X9_tryMixedBooks_17 (by decide)) (fun pq1 => ?_) (fun pq1 => ?_)
  · exact y_ret (hQ Fa Ga (⟨hfr, hth, by rw [hf5, show st = 16 by omega], by rw [hf6, show st = 16 by omega]⟩)) (z_vret d_X9_tryMixedBooks_134 rfl rfl rfl)
  · refine qy (fun _ _ k9 => z_iconst d_X9_tryMixedBooks_20 (by decide) k9) ?_
    refine qy (fun _ _ k9 => z_istore (ls' := [qR 172, qR b, qR c, qI (to : Int), qI (st : Int), qI 0]) d_X9_tryMixedBooks_21 (by decide) rfl k9) ?_
    refine qy (fun _ _ k9 => z_eq (qc rfl (qc rfl (qc rfl (qc rfl (qc rfl (qc (qi (rfl)) rfl)))))) rfl rfl k9) (y_wh3 (fun (k : Nat) (Fi : Nat → Nat → Int) (Gi : Nat → Nat → Int) => 4 - k) (fun (k : Nat) (Fi : Nat → Nat → Int) (Gi : Nat → Nat → Int) => [qR 172, qR b, qR c, qI (to : Int), qI (st : Int), qI (k : Int)]) (fun (k : Nat) (Fi : Nat → Nat → Int) (Gi : Nat → Nat → Int) => (xput h Fi Gi)) (fun (k : Nat) (Fi : Nat → Nat → Int) (Gi : Nat → Nat → Int) => k ≤ 4 ∧ xfr 185 204 Fa Ga Fi Gi ∧ ∀ q, q < k → pgR Fi Gi (185 + 5 * q) (fun j => (mxRR R R2 (st : Int)) (96 * q + j)) ((mxCC C C2 (st : Int)) q)) 0 Fa Ga (⟨by omega, xfr_rf _ _ _ _, fun q hq => absurd hq (by omega)⟩) (fun k Fi Gi hp ki => ?_))
    obtain ⟨hk4, hfi, hpg⟩ := hp
    show qEy M_X9_tryMixedBooks 23 [qR 172, qR b, qR c, qI (to : Int), qI (st : Int), qI (k : Int)] [] (xput h Fi Gi) Q
    have hR1 : bkR Fi Gi b R C := bkR_cg (bkR_cg hR (fun a h1 h2 => hfr a (by omega))) (fun a h1 h2 => hfi a (by omega))
    have hR2 : bkR Fi Gi c R2 C2 := bkR_cg (bkR_cg hS (fun a h1 h2 => hfr a (by omega))) (fun a h1 h2 => hfi a (by omega))
    refine qy (fun _ _ k9 => z_iload d_X9_tryMixedBooks_23 rfl k9) ?_
    refine qy (fun _ _ k9 => z_iconst d_X9_tryMixedBooks_25 (by decide) k9) ?_
    refine qy2 (fun _ _ => z_icmp_ge 75 d_X9_tryMixedBooks_26 (by decide)) (fun pq2 => ?_) (fun pq2 => ?_)
    · refine qy (fun _ _ k9 => z_aload_n d_X9_tryMixedBooks_75 rfl rfl k9) ?_
      refine qy (fun _ _ k9 => z_getf (v := qR 181) d_X9_tryMixedBooks_76 fl_X9_24 (xput_ob (c := (Fi 172)) xi_172 rfl (xsh_9 xo_172)) rfl k9) ?_
      obtain ⟨G1, ⟨hv1, hw1, ht1, hd1⟩, hx1⟩ := c_settle (h := h) (F := Fi) (G := Gi) (b := 181) (R := (mxRR R R2 (st : Int))) (C := (mxCC C C2 (st : Int))) (by decide) xo_181 (fun q hq => hpg q (by omega)) (fun c h1 h2 => by rw [xfr_G hfi (by omega), xfr_G hfi (by omega)]; exact hth c h1 h2)
      refine qy (fun _ _ k9 => z_cv0 (M1 := M_X0_settle) d_X9_tryMixedBooks_79 lv_X9_107 k_X0_settle [] rfl rfl (xput_ob (c := (Fi 181)) xi_181 rfl (xsh_0 xo_181)) ⟨_, _, rfl⟩ (Nat.le_of_ble_eq_true rfl) (by decide) (by decide) (Nat.le_of_ble_eq_true rfl) hx1 k9) ?_
      refine qy (fun _ _ k9 => z_aload_n d_X9_tryMixedBooks_82 rfl rfl k9) ?_
      refine qy (fun _ _ k9 => z_aload_n d_X9_tryMixedBooks_83 rfl rfl k9) ?_
      refine qy (fun _ _ k9 => z_getf (v := qR 181) d_X9_tryMixedBooks_84 fl_X9_24 (xput_ob (c := (Fi 172)) xi_172 rfl (xsh_9 xo_172)) rfl k9) ?_
      refine qy (fun _ _ k9 => z_getf (v := qR 183) d_X9_tryMixedBooks_87 fl_X9_110 (xput_ob (c := (Fi 181)) xi_181 rfl (xsh_0 xo_181)) rfl k9) ?_
      refine qy (fun _ _ k9 => z_iload_n d_X9_tryMixedBooks_90 rfl rfl k9) ?_
      obtain ⟨F2, G2, ⟨hv2, -⟩, hx2⟩ := xc_firstBad (h := h) (F := Fi) (G := G1) (d := 183) (to := to) (T := (bkTc (mxRR R R2 (st : Int)) (mxCC C C2 (st : Int)) 15 (-1) (-1) 0)) xa_183 (by decide) (by omega) ht1 (bkTc_bd (bkOk_mx hO hO2) (by decide))
      refine qy (fun _ _ k9 => z_cv (M1 := M_X9_firstBad) d_X9_tryMixedBooks_91 lv_X9_113 k_X9_firstBad [qR 183, qI (to : Int)] rfl rfl (xput_ob (c := (Fi 172)) xi_172 rfl (xsh_9 xo_172)) ⟨_, _, rfl⟩ (Nat.le_of_ble_eq_true rfl) (by decide) (by decide) (Nat.le_of_ble_eq_true rfl) hx2 k9) ?_
      refine qy (fun _ _ k9 => z_iconst d_X9_tryMixedBooks_94 (by decide) k9) ?_
      have e172_2 : F2 172 = Fa 172 := (xfr_F hv2 (by omega)).trans (xfr_F hfi (by omega))
      have e5_2 : F2 172 5 = cnt (fun q : Nat => fbR (bkTc (mxRR R R2 (q : Int)) (mxCC C C2 (q : Int)) 15 (-1) (-1) 0) to = -1) st := by rw [e172_2]; exact hf5
      have hcn := cnt_bd (fun q : Nat => fbR (bkTc (mxRR R R2 (q : Int)) (mxCC C C2 (q : Int)) 15 (-1) (-1) 0) to = -1) st
      refine qy2 (fun _ _ => z_icmp_ne 128 d_X9_tryMixedBooks_95 (by decide)) (fun q95 => ?_) (fun q95 => ?_)
      · refine qy (fun _ _ k9 => z_iinc (ls' := [qR 172, qR b, qR c, qI (to : Int), qI ((st : Int) + 1), qI (k : Int)]) d_X9_tryMixedBooks_128 rfl (by decide) (by omega) rfl k9) ?_
        refine qy (fun _ _ k9 => z_goto 13 d_X9_tryMixedBooks_131 (by decide) k9) ?_
        exact qy (fun _ _ k9 => z_dr (qle_k rfl (qle_k rfl (qle_k rfl (qle_k rfl (qle_k (qi (by omega)) (qle_d qle_n)))))) rfl rfl k9) (ko (st + 1) F2 G2 (⟨by omega, (fun a ha => ⟨(xfr_F hv2 (by omega)).trans ((xfr_F hfi (by omega)).trans (xfr_F hfr ha)), ((xfr_G hv2 (by omega)).trans (hv1 a (by omega) (by omega))).trans ((xfr_G hfi (by omega)).trans (xfr_G hfr ha))⟩), (fun c h1 h2 => by rw [xfr_G hv2 (by omega), xfr_G hv2 (by omega), ht1 c h2, hd1 c h2]; exact ⟨(bk_hi h1 h2).2, (bk_hi h1 h2).1⟩), by rw [e172_2, hf5]; exact (cnt_f (p := (fun q : Nat => fbR (bkTc (mxRR R R2 (q : Int)) (mxCC C C2 (q : Int)) 15 (-1) (-1) 0) to = -1)) q95).symm, by rw [e172_2, hf6, fst_s (p := (fun q : Nat => fbR (bkTc (mxRR R R2 (q : Int)) (mxCC C C2 (q : Int)) 15 (-1) (-1) 0) to = -1))]; exact (by by_cases z : fst (fun q : Nat => fbR (bkTc (mxRR R R2 (q : Int)) (mxCC C C2 (q : Int)) 15 (-1) (-1) 0) to = -1) st = -1; rw [qif_f (not_not_intro z), qif_f q95, z]; rw [qif_t z])⟩) (by omega))
      · refine qy (fun _ _ k9 => z_aload_n d_X9_tryMixedBooks_98 rfl rfl k9) ?_
        refine qy (fun _ _ k9 => z_aload_n d_X9_tryMixedBooks_99 rfl rfl k9) ?_
        refine qy (fun _ _ k9 => z_getf (v := qI ((F2 172) 5)) d_X9_tryMixedBooks_100 fl_X9_36 (xput_ob (c := (F2 172)) xi_172 rfl (xsh_9 xo_172)) rfl k9) ?_
        refine qy2 (fun _ _ => z_if_ne 111 d_X9_tryMixedBooks_103 (by decide)) (fun q103 => ?_) (fun q103 => ?_)
        · refine qy (fun _ _ k9 => z_aload_n d_X9_tryMixedBooks_111 rfl rfl k9) ?_
          refine qy (fun _ _ k9 => z_getf (v := qI ((F2 172) 6)) d_X9_tryMixedBooks_112 fl_X9_39 (xput_ob (c := (F2 172)) xi_172 rfl (xsh_9 xo_172)) rfl k9) ?_
          refine qy (fun _ _ k9 => z_putf (fs' := [qR 173, qR 177, qR 181, qR 205, qI ((F2 172) 4), qI ((F2 172) 5), qI ((F2 172) 6)]) d_X9_tryMixedBooks_115 fp_X9_39 (xput_ob (c := (F2 172)) xi_172 rfl (xsh_9 xo_172)) (fun _ => rfl) (fun _ => rfl) (Nat.le_of_ble_eq_true rfl) rfl k9) ?_
          refine qy (fun _ _ k9 => z_eq rfl rfl (xput_sf (c := (qup (F2 172) 6 ((F2 172) 6))) xi_172 (xsh_9 xo_172)) k9) ?_
          refine qy (fun _ _ k9 => z_aload_n d_X9_tryMixedBooks_118 rfl rfl k9) ?_
          refine qy (fun _ _ k9 => z_dup d_X9_tryMixedBooks_119 rfl k9) ?_
          refine qy (fun _ _ k9 => z_getf (v := qI ((F2 172) 5)) d_X9_tryMixedBooks_120 fl_X9_36 (xput_ob (c := (qup (F2 172) 6 ((F2 172) 6))) xi_172 rfl (xsh_9 xo_172)) rfl k9) ?_
          refine qy (fun _ _ k9 => z_iconst d_X9_tryMixedBooks_123 (by decide) k9) ?_
          refine qy (fun _ _ k9 => z_iadd d_X9_tryMixedBooks_124 (by omega) k9) ?_
          refine qy (fun _ _ k9 => z_putf (fs' := [qR 173, qR 177, qR 181, qR 205, qI ((F2 172) 4), qI (((F2 172) 5) + 1), qI ((F2 172) 6)]) d_X9_tryMixedBooks_125 fp_X9_36 (xput_ob (c := (qup (F2 172) 6 ((F2 172) 6))) xi_172 rfl (xsh_9 xo_172)) (fun _ => rfl) (fun _ => rfl) (Nat.le_of_ble_eq_true rfl) rfl k9) ?_
          refine qy (fun _ _ k9 => z_eq rfl rfl ((xput_sf (c := (qup (qup (F2 172) 6 ((F2 172) 6)) 5 (((F2 172) 5) + 1))) xi_172 (xsh_9 xo_172)).trans (xput_cg (gup_gup _ _ _) rfl)) k9) ?_
          refine qy (fun _ _ k9 => z_iinc (ls' := [qR 172, qR b, qR c, qI (to : Int), qI ((st : Int) + 1), qI (k : Int)]) d_X9_tryMixedBooks_128 rfl (by decide) (by omega) rfl k9) ?_
          refine qy (fun _ _ k9 => z_goto 13 d_X9_tryMixedBooks_131 (by decide) k9) ?_
          exact qy (fun _ _ k9 => z_dr (qle_k rfl (qle_k rfl (qle_k rfl (qle_k rfl (qle_k (qi (by omega)) (qle_d qle_n)))))) rfl rfl k9) (ko (st + 1) (gup F2 172 (qup (qup (F2 172) 6 ((F2 172) 6)) 5 (((F2 172) 5) + 1))) G2 (⟨by omega, (xfr_f (fun a ha => ⟨(xfr_F hv2 (by omega)).trans ((xfr_F hfi (by omega)).trans (xfr_F hfr ha)), ((xfr_G hv2 (by omega)).trans (hv1 a (by omega) (by omega))).trans ((xfr_G hfi (by omega)).trans (xfr_G hfr ha))⟩) (by decide) (by decide)), (fun c h1 h2 => by rw [xfr_G hv2 (by omega), xfr_G hv2 (by omega), ht1 c h2, hd1 c h2]; exact ⟨(bk_hi h1 h2).2, (bk_hi h1 h2).1⟩), (by rw [gup_eq]; show F2 172 5 + 1 = _; rw [e172_2, hf5]; exact (cnt_t (p := (fun q : Nat => fbR (bkTc (mxRR R R2 (q : Int)) (mxCC C C2 (q : Int)) 15 (-1) (-1) 0) to = -1)) (Classical.not_not.mp q95)).symm), (by rw [gup_eq]; show F2 172 6 = _; rw [e172_2, hf6, fst_s (p := (fun q : Nat => fbR (bkTc (mxRR R R2 (q : Int)) (mxCC C C2 (q : Int)) 15 (-1) (-1) 0) to = -1)), qif_t (fun z => q103 (by have := fst_cnt.mp z; omega))])⟩) (by omega))
        · refine qy (fun _ _ k9 => z_iload d_X9_tryMixedBooks_106 rfl k9) ?_
          refine qy (fun _ _ k9 => z_goto 115 d_X9_tryMixedBooks_108 (by decide) k9) ?_
          refine qy (fun _ _ k9 => z_putf (fs' := [qR 173, qR 177, qR 181, qR 205, qI ((F2 172) 4), qI ((F2 172) 5), qI (st : Int)]) d_X9_tryMixedBooks_115 fp_X9_39 (xput_ob (c := (F2 172)) xi_172 rfl (xsh_9 xo_172)) (fun _ => rfl) (fun _ => rfl) (Nat.le_of_ble_eq_true rfl) rfl k9) ?_
          refine qy (fun _ _ k9 => z_eq rfl rfl (xput_sf (c := (qup (F2 172) 6 (st : Int))) xi_172 (xsh_9 xo_172)) k9) ?_
          refine qy (fun _ _ k9 => z_aload_n d_X9_tryMixedBooks_118 rfl rfl k9) ?_
          refine qy (fun _ _ k9 => z_dup d_X9_tryMixedBooks_119 rfl k9) ?_
          refine qy (fun _ _ k9 => z_getf (v := qI ((F2 172) 5)) d_X9_tryMixedBooks_120 fl_X9_36 (xput_ob (c := (qup (F2 172) 6 (st : Int))) xi_172 rfl (xsh_9 xo_172)) rfl k9) ?_
          refine qy (fun _ _ k9 => z_iconst d_X9_tryMixedBooks_123 (by decide) k9) ?_
          refine qy (fun _ _ k9 => z_iadd d_X9_tryMixedBooks_124 (by omega) k9) ?_
          refine qy (fun _ _ k9 => z_putf (fs' := [qR 173, qR 177, qR 181, qR 205, qI ((F2 172) 4), qI (((F2 172) 5) + 1), qI (st : Int)]) d_X9_tryMixedBooks_125 fp_X9_36 (xput_ob (c := (qup (F2 172) 6 (st : Int))) xi_172 rfl (xsh_9 xo_172)) (fun _ => rfl) (fun _ => rfl) (Nat.le_of_ble_eq_true rfl) rfl k9) ?_
          refine qy (fun _ _ k9 => z_eq rfl rfl ((xput_sf (c := (qup (qup (F2 172) 6 (st : Int)) 5 (((F2 172) 5) + 1))) xi_172 (xsh_9 xo_172)).trans (xput_cg (gup_gup _ _ _) rfl)) k9) ?_
          refine qy (fun _ _ k9 => z_iinc (ls' := [qR 172, qR b, qR c, qI (to : Int), qI ((st : Int) + 1), qI (k : Int)]) d_X9_tryMixedBooks_128 rfl (by decide) (by omega) rfl k9) ?_
          refine qy (fun _ _ k9 => z_goto 13 d_X9_tryMixedBooks_131 (by decide) k9) ?_
          exact qy (fun _ _ k9 => z_dr (qle_k rfl (qle_k rfl (qle_k rfl (qle_k rfl (qle_k (qi (by omega)) (qle_d qle_n)))))) rfl rfl k9) (ko (st + 1) (gup F2 172 (qup (qup (F2 172) 6 (st : Int)) 5 (((F2 172) 5) + 1))) G2 (⟨by omega, (xfr_f (fun a ha => ⟨(xfr_F hv2 (by omega)).trans ((xfr_F hfi (by omega)).trans (xfr_F hfr ha)), ((xfr_G hv2 (by omega)).trans (hv1 a (by omega) (by omega))).trans ((xfr_G hfi (by omega)).trans (xfr_G hfr ha))⟩) (by decide) (by decide)), (fun c h1 h2 => by rw [xfr_G hv2 (by omega), xfr_G hv2 (by omega), ht1 c h2, hd1 c h2]; exact ⟨(bk_hi h1 h2).2, (bk_hi h1 h2).1⟩), (by rw [gup_eq]; show F2 172 5 + 1 = _; rw [e172_2, hf5]; exact (cnt_t (p := (fun q : Nat => fbR (bkTc (mxRR R R2 (q : Int)) (mxCC C C2 (q : Int)) 15 (-1) (-1) 0) to = -1)) (Classical.not_not.mp q95)).symm), (by rw [gup_eq]; show (st : Int) = _; rw [fst_s, qif_f (not_not_intro (fst_cnt.mpr (by omega))), qif_t (show (fun q : Nat => fbR (bkTc (mxRR R R2 (q : Int)) (mxCC C C2 (q : Int)) 15 (-1) (-1) 0) to = -1) st from Classical.not_not.mp q95)])⟩) (by omega))
    · refine qy (fun _ _ k9 => z_aload_n d_X9_tryMixedBooks_29 rfl rfl k9) ?_
      refine qy (fun _ _ k9 => z_getf (v := qR 181) d_X9_tryMixedBooks_30 fl_X9_24 (xput_ob (c := (Fi 172)) xi_172 rfl (xsh_9 xo_172)) rfl k9) ?_
      refine qy (fun _ _ k9 => z_getf (v := qR 182) d_X9_tryMixedBooks_33 fl_X9_97 (xput_ob (c := (Fi 181)) xi_181 rfl (xsh_0 xo_181)) rfl k9) ?_
      refine qy (fun _ _ k9 => z_iload d_X9_tryMixedBooks_36 rfl k9) ?_
      refine qy (fun _ _ k9 => z_ald k d_X9_tryMixedBooks_38 (Or.inl ⟨rfl, rfl, rfl⟩) (xput_ob xi_182 rfl (xsh_20 xo_182)) rfl (by omega) (show (if k < 4 then some (182 + 3 + 5 * k) else none) = some (185 + 5 * k) from (if_pos (by omega)).trans (congrArg some (by omega))) k9) ?_
      refine qy (fun _ _ k9 => z_iload d_X9_tryMixedBooks_39 rfl k9) ?_
      refine qy (fun _ _ k9 => z_iload d_X9_tryMixedBooks_41 rfl k9) ?_
      refine qy (fun _ _ k9 => z_ishr d_X9_tryMixedBooks_43 k9) ?_
      refine qy (fun _ _ k9 => z_iconst d_X9_tryMixedBooks_44 (by decide) k9) ?_
      refine qy (fun _ _ k9 => z_iand d_X9_tryMixedBooks_45 k9) ?_
      refine qy2 (fun _ _ => z_if_eq 59 d_X9_tryMixedBooks_46 (by decide)) (fun q46 => ?_) (fun q46 => ?_)
      · have hbit : ¬ tb (st : Int) k = true := fun z => by rw [q_hasB _ (by omega), qb_t z] at q46; exact absurd q46 (by decide)
        refine qy (fun _ _ k9 => z_aload_n d_X9_tryMixedBooks_59 rfl rfl k9) ?_
        refine qy (fun _ _ k9 => z_getf (v := qR (b + 1)) d_X9_tryMixedBooks_60 fl_X9_97 (xput_ob (c := (Fi b)) (bkx_in hb2 hb) rfl (xsh_0 hb)) rfl k9) ?_
        refine qy (fun _ _ k9 => z_iload d_X9_tryMixedBooks_63 rfl k9) ?_
        refine qy (fun _ _ k9 => z_ald k d_X9_tryMixedBooks_65 (Or.inl ⟨rfl, rfl, rfl⟩) (xput_ob ⟨by omega, by have := (bkp hb2 hb).2.1; omega⟩ rfl (xsh_20 (bkp hb2 hb).1)) rfl (by omega) (show (if k < 4 then some ((b + 1) + 3 + 5 * k) else none) = some (b + 4 + 5 * k) from (if_pos (by omega)).trans (congrArg some (by omega))) k9) ?_
        obtain ⟨F3, G3, ⟨hv3, hw3⟩, hx3⟩ := c_pgCopy (h := h) (F := Fi) (G := Gi) (p := (185 + 5 * k)) (q := (b + 4 + 5 * k)) (R := (fun j => R (96 * k + j))) (c := C k) (by omega) ((bkp (by decide) xo_181).2.2 k (by omega)) (by omega) ((bkp hb2 hb).2.2 k (by omega)) (by omega) (hR1 k (by omega))
        refine qy (fun _ _ k9 => z_cv0 (M1 := M_X2_copyFrom) d_X9_tryMixedBooks_66 lv_X9_152 k_X2_copyFrom [qR (b + 4 + 5 * k)] rfl rfl (xput_ob (c := (Fi (185 + 5 * k))) (pgx_in (by omega) ((bkp (by decide) xo_181).2.2 k (by omega))) rfl (xsh_2 ((bkp (by decide) xo_181).2.2 k (by omega)))) ⟨_, _, rfl⟩ (Nat.le_of_ble_eq_true rfl) (by decide) (by decide) (Nat.le_of_ble_eq_true rfl) hx3 k9) ?_
        refine qy (fun _ _ k9 => z_iinc (ls' := [qR 172, qR b, qR c, qI (to : Int), qI (st : Int), qI ((k : Int) + 1)]) d_X9_tryMixedBooks_69 rfl (by decide) (by omega) rfl k9) ?_
        refine qy (fun _ _ k9 => z_goto 23 d_X9_tryMixedBooks_72 (by decide) k9) ?_
        exact qy (fun _ _ k9 => z_eq (qc rfl (qc rfl (qc rfl (qc rfl (qc rfl (qc (qi (by omega)) rfl)))))) rfl rfl k9) (ki (k + 1) F3 G3 (⟨by omega, xfr_tr hfi (xfr_wd hv3 (by omega) (by omega)), q_lts (fun q hq => pgR_cg (hpg q hq) (by rw [xfr_F hv3 (by omega)]) (fun s _ => by rw [xfr_G hv3 (by omega)]) (fun s _ => by rw [xfr_G hv3 (by omega)]) (fun s _ => by rw [xfr_G hv3 (by omega)]) (fun s _ => by rw [xfr_G hv3 (by omega)])) (by have e9 : mxCC C C2 (st : Int) k = C k := qif_f hbit; rw [e9]; exact pgR_R hw3 (fun j hj => by unfold mxRR; rw [show (96 * k + j) / 96 = k by omega, qif_f hbit]))⟩) (by omega))
      · have hbit : tb (st : Int) k = true := Classical.not_not.mp (fun z => q46 (by rw [q_hasB _ (by omega), qb_f z]))
        refine qy (fun _ _ k9 => z_aload_n d_X9_tryMixedBooks_49 rfl rfl k9) ?_
        refine qy (fun _ _ k9 => z_getf (v := qR (c + 1)) d_X9_tryMixedBooks_50 fl_X9_97 (xput_ob (c := (Fi c)) (bkx_in hc2 hc) rfl (xsh_0 hc)) rfl k9) ?_
        refine qy (fun _ _ k9 => z_iload d_X9_tryMixedBooks_53 rfl k9) ?_
        refine qy (fun _ _ k9 => z_ald k d_X9_tryMixedBooks_55 (Or.inl ⟨rfl, rfl, rfl⟩) (xput_ob ⟨by omega, by have := (bkp hc2 hc).2.1; omega⟩ rfl (xsh_20 (bkp hc2 hc).1)) rfl (by omega) (show (if k < 4 then some ((c + 1) + 3 + 5 * k) else none) = some (c + 4 + 5 * k) from (if_pos (by omega)).trans (congrArg some (by omega))) k9) ?_
        refine qy (fun _ _ k9 => z_goto 66 d_X9_tryMixedBooks_56 (by decide) k9) ?_
        obtain ⟨F4, G4, ⟨hv4, hw4⟩, hx4⟩ := c_pgCopy (h := h) (F := Fi) (G := Gi) (p := (185 + 5 * k)) (q := (c + 4 + 5 * k)) (R := (fun j => R2 (96 * k + j))) (c := C2 k) (by omega) ((bkp (by decide) xo_181).2.2 k (by omega)) (by omega) ((bkp hc2 hc).2.2 k (by omega)) (by omega) (hR2 k (by omega))
        refine qy (fun _ _ k9 => z_cv0 (M1 := M_X2_copyFrom) d_X9_tryMixedBooks_66 lv_X9_152 k_X2_copyFrom [qR (c + 4 + 5 * k)] rfl rfl (xput_ob (c := (Fi (185 + 5 * k))) (pgx_in (by omega) ((bkp (by decide) xo_181).2.2 k (by omega))) rfl (xsh_2 ((bkp (by decide) xo_181).2.2 k (by omega)))) ⟨_, _, rfl⟩ (Nat.le_of_ble_eq_true rfl) (by decide) (by decide) (Nat.le_of_ble_eq_true rfl) hx4 k9) ?_
        refine qy (fun _ _ k9 => z_iinc (ls' := [qR 172, qR b, qR c, qI (to : Int), qI (st : Int), qI ((k : Int) + 1)]) d_X9_tryMixedBooks_69 rfl (by decide) (by omega) rfl k9) ?_
        refine qy (fun _ _ k9 => z_goto 23 d_X9_tryMixedBooks_72 (by decide) k9) ?_
        exact qy (fun _ _ k9 => z_eq (qc rfl (qc rfl (qc rfl (qc rfl (qc rfl (qc (qi (by omega)) rfl)))))) rfl rfl k9) (ki (k + 1) F4 G4 (⟨by omega, xfr_tr hfi (xfr_wd hv4 (by omega) (by omega)), q_lts (fun q hq => pgR_cg (hpg q hq) (by rw [xfr_F hv4 (by omega)]) (fun s _ => by rw [xfr_G hv4 (by omega)]) (fun s _ => by rw [xfr_G hv4 (by omega)]) (fun s _ => by rw [xfr_G hv4 (by omega)]) (fun s _ => by rw [xfr_G hv4 (by omega)])) (by have e9 : mxCC C C2 (st : Int) k = C2 k := qif_t hbit; rw [e9]; exact pgR_R hw4 (fun j hj => by unfold mxRR; rw [show (96 * k + j) / 96 = k by omega, qif_t hbit]))⟩) (by omega))
