/-! ===== CONTRACTS: the reader: bytes ===== -/
set_option maxRecDepth 20000 in
set_option maxHeartbeats 4000000 in
theorem c_takeNum {h : qH} {F G : Nat → Nat → Int} {t : Nat} (v : Int) (ht : F 160 1 = (t : Int)) (h4 : t + 4 ≤ 400) : qEx M_X4_takeNumber 0 [qR 160, qI v, qU] [] (xput h F G) none (xput h (gup F 160 (qup (F 160) 1 ((t : Int) + 1 + 1 + 1 + 1))) (gup G 161 (by4 (G 161) t v))) := by
  refine q_gen (fun r hr er eh => ?_)
  refine z_bipush d_X4_takeNumber_0 (by decide) ?_
  refine z_istore_n (ls' := [qR 160, qI v, qI 24]) d_X4_takeNumber_2 rfl (by decide) rfl ?_
  refine z_iload_n d_X4_takeNumber_3 rfl rfl ?_
  refine z_if_lt 49 d_X4_takeNumber_4 (by decide) (fun hc1 => absurd hc1 (by decide)) (fun hc1 => ?_)
  refine z_aload_n d_X4_takeNumber_7 rfl rfl ?_
  refine z_getf (v := qI ((F 160) 1)) d_X4_takeNumber_8 fl_X4_15 (xput_ob (c := (F 160)) xi_160 rfl (xsh_4 xo_160)) rfl ?_
  refine z_eq rfl (qc (qi ht) rfl) rfl ?_
  refine z_sipush d_X4_takeNumber_11 (by decide) ?_
  refine z_icmp_ge 49 d_X4_takeNumber_14 (by decide) (fun hc2 => absurd hc2 (by omega)) (fun hc2 => ?_)
  refine z_aload_n d_X4_takeNumber_17 rfl rfl ?_
  refine z_getf (v := qR 161) d_X4_takeNumber_18 fl_X4_11 (xput_ob (c := (F 160)) xi_160 rfl (xsh_4 xo_160)) rfl ?_
  refine z_aload_n d_X4_takeNumber_21 rfl rfl ?_
  refine z_getf (v := qI ((F 160) 1)) d_X4_takeNumber_22 fl_X4_15 (xput_ob (c := (F 160)) xi_160 rfl (xsh_4 xo_160)) rfl ?_
  refine z_eq rfl (qc (qi ht) rfl) rfl ?_
  refine z_iload_n d_X4_takeNumber_25 rfl rfl ?_
  refine z_iload_n d_X4_takeNumber_26 rfl rfl ?_
  refine z_iushr d_X4_takeNumber_27 ?_
  refine z_sipush d_X4_takeNumber_28 (by decide) ?_
  refine z_iand d_X4_takeNumber_31 ?_
  refine z_eq rfl (qc (qi (show (qAnd (qUshr v 24) 255) = (qAnd (qShr v 24) 255) from q_byte v (j := 24) (by decide))) rfl) rfl ?_
  refine z_ist t d_X4_takeNumber_32 (xput_ar (g := (G 161)) xa_161 rfl) (by omega) rfl (by omega) ?_
  refine z_eq rfl rfl (xput_sa xa_161) ?_
  refine z_aload_n d_X4_takeNumber_33 rfl rfl ?_
  refine z_dup d_X4_takeNumber_34 rfl ?_
  refine z_getf (v := qI ((F 160) 1)) d_X4_takeNumber_35 fl_X4_15 (xput_ob (c := (F 160)) xi_160 rfl (xsh_4 xo_160)) rfl ?_
  refine z_eq rfl (qc (qi ht) rfl) rfl ?_
  refine z_iconst d_X4_takeNumber_38 (by decide) ?_
  refine z_iadd d_X4_takeNumber_39 (by omega) ?_
  refine z_putf (fs' := [qR 161, qI ((t : Int) + 1), qR 162, qR 163, qR 164, qI ((F 160) 5), qI ((F 160) 6), qI ((F 160) 7), qI ((F 160) 8), qR 165, qR 170]) d_X4_takeNumber_40 fp_X4_15 (xput_ob (c := (F 160)) xi_160 rfl (xsh_4 xo_160)) (fun _ => rfl) (fun _ => rfl) (Nat.le_of_ble_eq_true rfl) rfl ?_
  refine z_eq rfl rfl (xput_sf (c := (qup (F 160) 1 ((t : Int) + 1))) xi_160 (xsh_4 xo_160)) ?_
  refine z_iinc (ls' := [qR 160, qI v, qI 16]) d_X4_takeNumber_43 rfl (by decide) (by omega) rfl ?_
  refine z_goto 3 d_X4_takeNumber_46 (by decide) ?_
  refine z_iload_n d_X4_takeNumber_3 rfl rfl ?_
  refine z_if_lt 49 d_X4_takeNumber_4 (by decide) (fun hc3 => absurd hc3 (by decide)) (fun hc3 => ?_)
  refine z_aload_n d_X4_takeNumber_7 rfl rfl ?_
  refine z_getf (v := qI ((t : Int) + 1)) d_X4_takeNumber_8 fl_X4_15 (xput_ob (c := (qup (F 160) 1 ((t : Int) + 1))) xi_160 rfl (xsh_4 xo_160)) rfl ?_
  refine z_sipush d_X4_takeNumber_11 (by decide) ?_
  refine z_icmp_ge 49 d_X4_takeNumber_14 (by decide) (fun hc4 => absurd hc4 (by omega)) (fun hc4 => ?_)
  refine z_aload_n d_X4_takeNumber_17 rfl rfl ?_
  refine z_getf (v := qR 161) d_X4_takeNumber_18 fl_X4_11 (xput_ob (c := (qup (F 160) 1 ((t : Int) + 1))) xi_160 rfl (xsh_4 xo_160)) rfl ?_
  refine z_aload_n d_X4_takeNumber_21 rfl rfl ?_
  refine z_getf (v := qI ((t : Int) + 1)) d_X4_takeNumber_22 fl_X4_15 (xput_ob (c := (qup (F 160) 1 ((t : Int) + 1))) xi_160 rfl (xsh_4 xo_160)) rfl ?_
  refine z_iload_n d_X4_takeNumber_25 rfl rfl ?_
  refine z_iload_n d_X4_takeNumber_26 rfl rfl ?_
  refine z_iushr d_X4_takeNumber_27 ?_
  refine z_sipush d_X4_takeNumber_28 (by decide) ?_
  refine z_iand d_X4_takeNumber_31 ?_
  refine z_eq rfl (qc (qi (show (qAnd (qUshr v 16) 255) = (qAnd (qShr v 16) 255) from q_byte v (j := 16) (by decide))) rfl) rfl ?_
  refine z_ist (t + 1) d_X4_takeNumber_32 (xput_ar (g := (qup (G 161) t (qAnd (qShr v 24) 255))) xa_161 rfl) (by omega) rfl (by omega) ?_
  refine z_eq rfl rfl ((xput_sa xa_161).trans (xput_cg rfl (gup_gup _ _ _))) ?_
  refine z_aload_n d_X4_takeNumber_33 rfl rfl ?_
  refine z_dup d_X4_takeNumber_34 rfl ?_
  refine z_getf (v := qI ((t : Int) + 1)) d_X4_takeNumber_35 fl_X4_15 (xput_ob (c := (qup (F 160) 1 ((t : Int) + 1))) xi_160 rfl (xsh_4 xo_160)) rfl ?_
  refine z_iconst d_X4_takeNumber_38 (by decide) ?_
  refine z_iadd d_X4_takeNumber_39 (by omega) ?_
  refine z_putf (fs' := [qR 161, qI (((t : Int) + 1) + 1), qR 162, qR 163, qR 164, qI ((F 160) 5), qI ((F 160) 6), qI ((F 160) 7), qI ((F 160) 8), qR 165, qR 170]) d_X4_takeNumber_40 fp_X4_15 (xput_ob (c := (qup (F 160) 1 ((t : Int) + 1))) xi_160 rfl (xsh_4 xo_160)) (fun _ => rfl) (fun _ => rfl) (Nat.le_of_ble_eq_true rfl) rfl ?_
  refine z_eq rfl rfl ((xput_sf (c := (qup (qup (F 160) 1 ((t : Int) + 1)) 1 (((t : Int) + 1) + 1))) xi_160 (xsh_4 xo_160)).trans (xput_cg ((gup_gup _ _ _).trans (gup_cg rfl (qup_qup _ _ _ _))) rfl)) ?_
  refine z_iinc (ls' := [qR 160, qI v, qI 8]) d_X4_takeNumber_43 rfl (by decide) (by omega) rfl ?_
  refine z_goto 3 d_X4_takeNumber_46 (by decide) ?_
  refine z_iload_n d_X4_takeNumber_3 rfl rfl ?_
  refine z_if_lt 49 d_X4_takeNumber_4 (by decide) (fun hc5 => absurd hc5 (by decide)) (fun hc5 => ?_)
  refine z_aload_n d_X4_takeNumber_7 rfl rfl ?_
  refine z_getf (v := qI (((t : Int) + 1) + 1)) d_X4_takeNumber_8 fl_X4_15 (xput_ob (c := (qup (F 160) 1 (((t : Int) + 1) + 1))) xi_160 rfl (xsh_4 xo_160)) rfl ?_
  refine z_sipush d_X4_takeNumber_11 (by decide) ?_
  refine z_icmp_ge 49 d_X4_takeNumber_14 (by decide) (fun hc6 => absurd hc6 (by omega)) (fun hc6 => ?_)
  refine z_aload_n d_X4_takeNumber_17 rfl rfl ?_
  refine z_getf (v := qR 161) d_X4_takeNumber_18 fl_X4_11 (xput_ob (c := (qup (F 160) 1 (((t : Int) + 1) + 1))) xi_160 rfl (xsh_4 xo_160)) rfl ?_
  refine z_aload_n d_X4_takeNumber_21 rfl rfl ?_
  refine z_getf (v := qI (((t : Int) + 1) + 1)) d_X4_takeNumber_22 fl_X4_15 (xput_ob (c := (qup (F 160) 1 (((t : Int) + 1) + 1))) xi_160 rfl (xsh_4 xo_160)) rfl ?_
  refine z_iload_n d_X4_takeNumber_25 rfl rfl ?_
  refine z_iload_n d_X4_takeNumber_26 rfl rfl ?_
  refine z_iushr d_X4_takeNumber_27 ?_
  refine z_sipush d_X4_takeNumber_28 (by decide) ?_
  refine z_iand d_X4_takeNumber_31 ?_
  refine z_eq rfl (qc (qi (show (qAnd (qUshr v 8) 255) = (qAnd (qShr v 8) 255) from q_byte v (j := 8) (by decide))) rfl) rfl ?_
  refine z_ist ((t + 1) + 1) d_X4_takeNumber_32 (xput_ar (g := (qup (qup (G 161) t (qAnd (qShr v 24) 255)) (t + 1) (qAnd (qShr v 16) 255))) xa_161 rfl) (by omega) rfl (by omega) ?_
  refine z_eq rfl rfl ((xput_sa xa_161).trans (xput_cg rfl (gup_gup _ _ _))) ?_
  refine z_aload_n d_X4_takeNumber_33 rfl rfl ?_
  refine z_dup d_X4_takeNumber_34 rfl ?_
  refine z_getf (v := qI (((t : Int) + 1) + 1)) d_X4_takeNumber_35 fl_X4_15 (xput_ob (c := (qup (F 160) 1 (((t : Int) + 1) + 1))) xi_160 rfl (xsh_4 xo_160)) rfl ?_
  refine z_iconst d_X4_takeNumber_38 (by decide) ?_
  refine z_iadd d_X4_takeNumber_39 (by omega) ?_
  refine z_putf (fs' := [qR 161, qI ((((t : Int) + 1) + 1) + 1), qR 162, qR 163, qR 164, qI ((F 160) 5), qI ((F 160) 6), qI ((F 160) 7), qI ((F 160) 8), qR 165, qR 170]) d_X4_takeNumber_40 fp_X4_15 (xput_ob (c := (qup (F 160) 1 (((t : Int) + 1) + 1))) xi_160 rfl (xsh_4 xo_160)) (fun _ => rfl) (fun _ => rfl) (Nat.le_of_ble_eq_true rfl) rfl ?_
  refine z_eq rfl rfl ((xput_sf (c := (qup (qup (F 160) 1 (((t : Int) + 1) + 1)) 1 ((((t : Int) + 1) + 1) + 1))) xi_160 (xsh_4 xo_160)).trans (xput_cg ((gup_gup _ _ _).trans (gup_cg rfl (qup_qup _ _ _ _))) rfl)) ?_
  refine z_iinc (ls' := [qR 160, qI v, qI 0]) d_X4_takeNumber_43 rfl (by decide) (by omega) rfl ?_
  refine z_goto 3 d_X4_takeNumber_46 (by decide) ?_
  refine z_iload_n d_X4_takeNumber_3 rfl rfl ?_
  refine z_if_lt 49 d_X4_takeNumber_4 (by decide) (fun hc7 => absurd hc7 (by decide)) (fun hc7 => ?_)
  refine z_aload_n d_X4_takeNumber_7 rfl rfl ?_
  refine z_getf (v := qI ((((t : Int) + 1) + 1) + 1)) d_X4_takeNumber_8 fl_X4_15 (xput_ob (c := (qup (F 160) 1 ((((t : Int) + 1) + 1) + 1))) xi_160 rfl (xsh_4 xo_160)) rfl ?_
  refine z_sipush d_X4_takeNumber_11 (by decide) ?_
  refine z_icmp_ge 49 d_X4_takeNumber_14 (by decide) (fun hc8 => absurd hc8 (by omega)) (fun hc8 => ?_)
  refine z_aload_n d_X4_takeNumber_17 rfl rfl ?_
  refine z_getf (v := qR 161) d_X4_takeNumber_18 fl_X4_11 (xput_ob (c := (qup (F 160) 1 ((((t : Int) + 1) + 1) + 1))) xi_160 rfl (xsh_4 xo_160)) rfl ?_
  refine z_aload_n d_X4_takeNumber_21 rfl rfl ?_
  refine z_getf (v := qI ((((t : Int) + 1) + 1) + 1)) d_X4_takeNumber_22 fl_X4_15 (xput_ob (c := (qup (F 160) 1 ((((t : Int) + 1) + 1) + 1))) xi_160 rfl (xsh_4 xo_160)) rfl ?_
  refine z_iload_n d_X4_takeNumber_25 rfl rfl ?_
  refine z_iload_n d_X4_takeNumber_26 rfl rfl ?_
  refine z_iushr d_X4_takeNumber_27 ?_
  refine z_sipush d_X4_takeNumber_28 (by decide) ?_
  refine z_iand d_X4_takeNumber_31 ?_
  refine z_eq rfl (qc (qi (show (qAnd (qUshr v 0) 255) = (qAnd (qShr v 0) 255) from q_byte v (j := 0) (by decide))) rfl) rfl ?_
  refine z_ist (((t + 1) + 1) + 1) d_X4_takeNumber_32 (xput_ar (g := (qup (qup (qup (G 161) t (qAnd (qShr v 24) 255)) (t + 1) (qAnd (qShr v 16) 255)) ((t + 1) + 1) (qAnd (qShr v 8) 255))) xa_161 rfl) (by omega) rfl (by omega) ?_
  refine z_eq rfl rfl ((xput_sa xa_161).trans (xput_cg rfl (gup_gup _ _ _))) ?_
  refine z_aload_n d_X4_takeNumber_33 rfl rfl ?_
  refine z_dup d_X4_takeNumber_34 rfl ?_
  refine z_getf (v := qI ((((t : Int) + 1) + 1) + 1)) d_X4_takeNumber_35 fl_X4_15 (xput_ob (c := (qup (F 160) 1 ((((t : Int) + 1) + 1) + 1))) xi_160 rfl (xsh_4 xo_160)) rfl ?_
  refine z_iconst d_X4_takeNumber_38 (by decide) ?_
  refine z_iadd d_X4_takeNumber_39 (by omega) ?_
  refine z_putf (fs' := [qR 161, qI (((((t : Int) + 1) + 1) + 1) + 1), qR 162, qR 163, qR 164, qI ((F 160) 5), qI ((F 160) 6), qI ((F 160) 7), qI ((F 160) 8), qR 165, qR 170]) d_X4_takeNumber_40 fp_X4_15 (xput_ob (c := (qup (F 160) 1 ((((t : Int) + 1) + 1) + 1))) xi_160 rfl (xsh_4 xo_160)) (fun _ => rfl) (fun _ => rfl) (Nat.le_of_ble_eq_true rfl) rfl ?_
  refine z_eq rfl rfl ((xput_sf (c := (qup (qup (F 160) 1 ((((t : Int) + 1) + 1) + 1)) 1 (((((t : Int) + 1) + 1) + 1) + 1))) xi_160 (xsh_4 xo_160)).trans (xput_cg ((gup_gup _ _ _).trans (gup_cg rfl (qup_qup _ _ _ _))) rfl)) ?_
  refine z_iinc (ls' := [qR 160, qI v, qI (-8)]) d_X4_takeNumber_43 rfl (by decide) (by omega) rfl ?_
  refine z_goto 3 d_X4_takeNumber_46 (by decide) ?_
  refine z_iload_n d_X4_takeNumber_3 rfl rfl ?_
  refine z_if_lt 49 d_X4_takeNumber_4 (by decide) (fun hc9 => ?_) (fun hc9 => absurd (by decide) hc9)
  exact z_vret d_X4_takeNumber_49 rfl er eh
/-- the reader's bytes: N of them, B -/
def rdB (F G : Nat → Nat → Int) (B : Nat → Int) (N : Nat) : Prop := F 160 1 = (N : Int) ∧ ∀ j, j < 400 → G 161 j = B j
def rdX (F G F' G' : Nat → Nat → Int) : Prop := (∀ a, a ≠ 160 → F' a = F a) ∧ (∀ k, k ≠ 1 → F' 160 k = F 160 k) ∧ ∀ a, a ≠ 161 → G' a = G a
theorem rdX_tr {F G F1 G1 F2 G2 : Nat → Nat → Int} (h1 : rdX F G F1 G1) (h2 : rdX F1 G1 F2 G2) : rdX F G F2 G2 := ⟨fun a h => (h2.1 a h).trans (h1.1 a h), fun k h => (h2.2.1 k h).trans (h1.2.1 k h), fun a h => (h2.2.2 a h).trans (h1.2.2 a h)⟩
theorem by4_cg {B B' : Nat → Int} {t j : Nat} {v : Int} (h : B j = B' j) : by4 B t v j = by4 B' t v j := by
  unfold by4 qup
  split
  · rfl
  · split
    · rfl
    · split
      · rfl
      · split
        · rfl
        · exact h
theorem c_takeN {h : qH} {F G : Nat → Nat → Int} {B : Nat → Int} {t : Nat} (v : Int) (hZ : rdB F G B t) (h4 : t + 4 ≤ 400) : ∃ F' G', (rdX F G F' G' ∧ rdB F' G' (by4 B t v) (t + 1 + 1 + 1 + 1)) ∧ qEx M_X4_takeNumber 0 [qR 160, qI v, qU] [] (xput h F G) none (xput h F' G') := by
  refine ⟨_, _, ⟨⟨fun a ha => gup_ne ha, fun k hk => ?_, fun a ha => gup_ne ha⟩, ?_, fun j hj => ?_⟩, c_takeNum v hZ.1 h4⟩
  · show gup F 160 _ 160 k = _
    rw [gup_eq, qup_ne hk]
  · show gup F 160 _ 160 1 = _
    rw [gup_eq, qup_eq]; omega
  · show gup G 161 _ 161 j = _
    rw [gup_eq]
    exact by4_cg (hZ.2 j hj)
set_option maxRecDepth 20000 in
set_option maxHeartbeats 4000000 in
theorem c_takeNo {h : qH} {F G : Nat → Nat → Int} {B : Nat → Int} {t : Nat} (a b c d e : Int) (hZ : rdB F G B t) (hb : t ≤ 400) (hno : 400 < t + 20) : qEx M_X4_take 0 [qR 160, qI a, qI b, qI c, qI d, qI e] [] (xput h F G) (some (qI (-1))) (xput h F G) := by
  refine q_gen (fun r hr er eh => ?_)
  refine z_aload_n d_X4_take_0 rfl rfl ?_
  refine z_getf (v := qI ((F 160) 1)) d_X4_take_1 fl_X4_15 (xput_ob (c := (F 160)) xi_160 rfl (xsh_4 xo_160)) rfl ?_
  refine z_eq rfl (qc (qi hZ.1) rfl) rfl ?_
  refine z_bipush d_X4_take_4 (by decide) ?_
  refine z_iadd d_X4_take_6 (by omega) ?_
  refine z_sipush d_X4_take_7 (by decide) ?_
  refine z_icmp_le 15 d_X4_take_10 (by decide) (fun hc1 => absurd hc1 (by omega)) (fun hc1 => ?_)
  refine z_iconst d_X4_take_13 (by decide) ?_
  exact z_iret d_X4_take_14 rfl er eh
set_option maxRecDepth 20000 in
set_option maxHeartbeats 4000000 in
theorem c_take {h : qH} {F G : Nat → Nat → Int} {B : Nat → Int} {t : Nat} (a b c d e : Int) (hZ : rdB F G B t) (hok : t + 20 ≤ 400) : ∃ F' G', (rdX F G F' G' ∧ rdB F' G' (by20 B t a b c d e) (t + 20)) ∧ qEx M_X4_take 0 [qR 160, qI a, qI b, qI c, qI d, qI e] [] (xput h F G) (some (qI ((t : Int) + 20))) (xput h F' G') := by
  refine x_in (fun Q hQ => ?_)
  refine qy (fun _ _ k9 => z_aload_n d_X4_take_0 rfl rfl k9) ?_
  refine qy (fun _ _ k9 => z_getf (v := qI ((F 160) 1)) d_X4_take_1 fl_X4_15 (xput_ob (c := (F 160)) xi_160 rfl (xsh_4 xo_160)) rfl k9) ?_
  refine qy (fun _ _ k9 => z_eq rfl (qc (qi hZ.1) rfl) rfl k9) ?_
  refine qy (fun _ _ k9 => z_bipush d_X4_take_4 (by decide) k9) ?_
  refine qy (fun _ _ k9 => z_iadd d_X4_take_6 (by omega) k9) ?_
  refine qy (fun _ _ k9 => z_sipush d_X4_take_7 (by decide) k9) ?_
  refine qy2 (fun _ _ => z_icmp_le 15 d_X4_take_10 (by decide)) (fun hc1 => ?_) (fun hc1 => absurd hc1 (by omega))
  refine qy (fun _ _ k9 => z_aload_n d_X4_take_15 rfl rfl k9) ?_
  refine qy (fun _ _ k9 => z_iload_n d_X4_take_16 rfl rfl k9) ?_
  obtain ⟨F1, G1, ⟨hv1, hw1⟩, hx1⟩ := c_takeN (h := h) (F := F) (G := G) a hZ (by omega)
  refine qy (fun _ _ k9 => z_cv0 (M1 := M_X4_takeNumber) d_X4_take_17 lv_X4_56 k_X4_takeNumber [qI a] rfl rfl (xput_ob (c := (F 160)) xi_160 rfl (xsh_4 xo_160)) ⟨_, _, rfl⟩ (Nat.le_of_ble_eq_true rfl) (by decide) (by decide) (Nat.le_of_ble_eq_true rfl) hx1 k9) ?_
  refine qy (fun _ _ k9 => z_aload_n d_X4_take_20 rfl rfl k9) ?_
  refine qy (fun _ _ k9 => z_iload_n d_X4_take_21 rfl rfl k9) ?_
  obtain ⟨F2, G2, ⟨hv2, hw2⟩, hx2⟩ := c_takeN (h := h) (F := F1) (G := G1) b hw1 (by omega)
  refine qy (fun _ _ k9 => z_cv0 (M1 := M_X4_takeNumber) d_X4_take_22 lv_X4_56 k_X4_takeNumber [qI b] rfl rfl (xput_ob (c := (F1 160)) xi_160 rfl (xsh_4 xo_160)) ⟨_, _, rfl⟩ (Nat.le_of_ble_eq_true rfl) (by decide) (by decide) (Nat.le_of_ble_eq_true rfl) hx2 k9) ?_
  refine qy (fun _ _ k9 => z_aload_n d_X4_take_25 rfl rfl k9) ?_
  refine qy (fun _ _ k9 => z_iload_n d_X4_take_26 rfl rfl k9) ?_
  obtain ⟨F3, G3, ⟨hv3, hw3⟩, hx3⟩ := c_takeN (h := h) (F := F2) (G := G2) c hw2 (by omega)
  refine qy (fun _ _ k9 => z_cv0 (M1 := M_X4_takeNumber) d_X4_take_27 lv_X4_56 k_X4_takeNumber [qI c] rfl rfl (xput_ob (c := (F2 160)) xi_160 rfl (xsh_4 xo_160)) ⟨_, _, rfl⟩ (Nat.le_of_ble_eq_true rfl) (by decide) (by decide) (Nat.le_of_ble_eq_true rfl) hx3 k9) ?_
  refine qy (fun _ _ k9 => z_aload_n d_X4_take_30 rfl rfl k9) ?_
  refine qy (fun _ _ k9 => z_iload d_X4_take_31 rfl k9) ?_
  obtain ⟨F4, G4, ⟨hv4, hw4⟩, hx4⟩ := c_takeN (h := h) (F := F3) (G := G3) d hw3 (by omega)
  refine qy (fun _ _ k9 => z_cv0 (M1 := M_X4_takeNumber) d_X4_take_33 lv_X4_56 k_X4_takeNumber [qI d] rfl rfl (xput_ob (c := (F3 160)) xi_160 rfl (xsh_4 xo_160)) ⟨_, _, rfl⟩ (Nat.le_of_ble_eq_true rfl) (by decide) (by decide) (Nat.le_of_ble_eq_true rfl) hx4 k9) ?_
  refine qy (fun _ _ k9 => z_aload_n d_X4_take_36 rfl rfl k9) ?_
  refine qy (fun _ _ k9 => z_iload d_X4_take_37 rfl k9) ?_
  obtain ⟨F5, G5, ⟨hv5, hw5⟩, hx5⟩ := c_takeN (h := h) (F := F4) (G := G4) e hw4 (by omega)
  refine qy (fun _ _ k9 => z_cv0 (M1 := M_X4_takeNumber) d_X4_take_39 lv_X4_56 k_X4_takeNumber [qI e] rfl rfl (xput_ob (c := (F4 160)) xi_160 rfl (xsh_4 xo_160)) ⟨_, _, rfl⟩ (Nat.le_of_ble_eq_true rfl) (by decide) (by decide) (Nat.le_of_ble_eq_true rfl) hx5 k9) ?_
  refine qy (fun _ _ k9 => z_aload_n d_X4_take_42 rfl rfl k9) ?_
  refine qy (fun _ _ k9 => z_getf (v := qI ((F5 160) 1)) d_X4_take_43 fl_X4_15 (xput_ob (c := (F5 160)) xi_160 rfl (xsh_4 xo_160)) rfl k9) ?_
  exact y_ret (hQ F5 G5 (⟨rdX_tr hv1 (rdX_tr hv2 (rdX_tr hv3 (rdX_tr hv4 hv5))), hw5⟩)) (z_iret d_X4_take_46 rfl (qsi (by rw [hw5.1]; omega)) rfl)
set_option maxRecDepth 20000 in
set_option maxHeartbeats 4000000 in
theorem c_cutNo {h : qH} {F G : Nat → Nat → Int} {B : Nat → Int} {t : Nat} (l : Int) (hZ : rdB F G B t) (hno : ¬ (0 ≤ l ∧ l ≤ (t : Int))) : qEx M_X4_cutTo 0 [qR 160, qI l] [] (xput h F G) (some (qI 0)) (xput h F G) := by
  refine q_gen (fun r hr er eh => ?_)
  refine z_iload_n d_X4_cutTo_0 rfl rfl ?_
  refine z_iconst d_X4_cutTo_1 (by decide) ?_
  refine z_aload_n d_X4_cutTo_2 rfl rfl ?_
  refine z_getf (v := qI ((F 160) 1)) d_X4_cutTo_3 fl_X4_15 (xput_ob (c := (F 160)) xi_160 rfl (xsh_4 xo_160)) rfl ?_
  refine z_eq rfl (qc (qi hZ.1) rfl) rfl ?_
  refine z_cs (M1 := M_X11_isWithin) d_X4_cutTo_6 ls_X4_59 k_X11_isWithin [qI l, qI 0, qI (t : Int)] rfl rfl (Nat.le_of_ble_eq_true rfl) (by decide) (by decide) (Nat.le_of_ble_eq_true rfl) (c_isWithin l 0 (t : Int)) ?_
  refine z_ifneB 14 d_X4_cutTo_9 (by decide) (fun hc1 => absurd hc1 (by exact hno)) (fun hc1 => ?_)
  refine z_iconst d_X4_cutTo_12 (by decide) ?_
  exact z_zret d_X4_cutTo_13 rfl (by first | exact qb_01 _ | decide | omega) er eh
set_option maxRecDepth 20000 in
set_option maxHeartbeats 4000000 in
theorem c_cut0 {h : qH} {F G : Nat → Nat → Int} {B : Nat → Int} {t : Nat} (l : Int) (hZ : rdB F G B t) (hok : 0 ≤ l ∧ l ≤ (t : Int)) : qEx M_X4_cutTo 0 [qR 160, qI l] [] (xput h F G) (some (qI 1)) (xput h (gup F 160 (qup (F 160) 1 l)) G) := by
  refine q_gen (fun r hr er eh => ?_)
  refine z_iload_n d_X4_cutTo_0 rfl rfl ?_
  refine z_iconst d_X4_cutTo_1 (by decide) ?_
  refine z_aload_n d_X4_cutTo_2 rfl rfl ?_
  refine z_getf (v := qI ((F 160) 1)) d_X4_cutTo_3 fl_X4_15 (xput_ob (c := (F 160)) xi_160 rfl (xsh_4 xo_160)) rfl ?_
  refine z_eq rfl (qc (qi hZ.1) rfl) rfl ?_
  refine z_cs (M1 := M_X11_isWithin) d_X4_cutTo_6 ls_X4_59 k_X11_isWithin [qI l, qI 0, qI (t : Int)] rfl rfl (Nat.le_of_ble_eq_true rfl) (by decide) (by decide) (Nat.le_of_ble_eq_true rfl) (c_isWithin l 0 (t : Int)) ?_
  refine z_ifneB 14 d_X4_cutTo_9 (by decide) (fun hc1 => ?_) (fun hc1 => absurd hc1 (by exact not_not_intro hok))
  refine z_aload_n d_X4_cutTo_14 rfl rfl ?_
  refine z_iload_n d_X4_cutTo_15 rfl rfl ?_
  refine z_putf (fs' := [qR 161, qI l, qR 162, qR 163, qR 164, qI ((F 160) 5), qI ((F 160) 6), qI ((F 160) 7), qI ((F 160) 8), qR 165, qR 170]) d_X4_cutTo_16 fp_X4_15 (xput_ob (c := (F 160)) xi_160 rfl (xsh_4 xo_160)) (fun _ => rfl) (fun _ => rfl) (Nat.le_of_ble_eq_true rfl) rfl ?_
  refine z_eq rfl rfl (xput_sf (c := (qup (F 160) 1 l)) xi_160 (xsh_4 xo_160)) ?_
  refine z_iconst d_X4_cutTo_19 (by decide) ?_
  exact z_zret d_X4_cutTo_20 rfl (by first | exact qb_01 _ | decide | omega) er eh
