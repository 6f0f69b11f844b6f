/-! ===== CONTRACTS: BeaconWall: feed, end, heard, trees ===== -/
set_option maxRecDepth 20000 in
set_option maxHeartbeats 4000000 in
theorem xc_feed_no {h : qH} {F G : Nat → Nat → Int} {B : Nat → Int} {t : Nat} (a b c d e : Int) (hZ : rdB F G B t) (hb : t ≤ 400) (hno : 400 < t + 20) : qEx M_X11_feed 0 [qR 2, qI a, qI b, qI c, qI d, qI e] [] (xput h F G) (some (qI (-1))) (xput h F G) := by
  refine q_gen (fun r hr er eh => ?_)
  refine z_aload_n d_X11_feed_0 rfl rfl ?_
  refine z_getf (v := qR 160) d_X11_feed_1 fl_X11_33 (xput_ob (c := (F 2)) xi_2 rfl (xsh_11 xo_2)) rfl ?_
  refine z_iload_n d_X11_feed_4 rfl rfl ?_
  refine z_iload_n d_X11_feed_5 rfl rfl ?_
  refine z_iload_n d_X11_feed_6 rfl rfl ?_
  refine z_iload d_X11_feed_7 rfl ?_
  refine z_iload d_X11_feed_9 rfl ?_
  refine z_cv (M1 := M_X4_take) d_X11_feed_11 lv_X11_188 k_X4_take [qI a, qI b, qI c, qI d, qI e] rfl rfl (xput_ob (c := (F 160)) xi_160 rfl (xsh_4 xo_160)) ⟨_, _, rfl⟩ (Nat.le_of_ble_eq_true rfl) (by decide) (by decide) (Nat.le_of_ble_eq_true rfl) (c_takeNo a b c d e hZ hb hno) ?_
  exact z_iret d_X11_feed_14 rfl er eh
set_option maxRecDepth 20000 in
set_option maxHeartbeats 4000000 in
theorem xc_feed {h : qH} {F G : Nat → Nat → Int} {B : Nat → Int} {t : Nat} (a b c d e : Int) (hZ : rdB F G B t) (hok : t + 20 ≤ 400) : ∃ F' G', (rdX F G F' G' ∧ rdB F' G' (by20 B t a b c d e) (t + 20)) ∧ qEx M_X11_feed 0 [qR 2, qI a, qI b, qI c, qI d, qI e] [] (xput h F G) (some (qI ((t : Int) + 20))) (xput h F' G') := by
  refine x_in (fun Q hQ => ?_)
  refine qy (fun _ _ k9 => z_aload_n d_X11_feed_0 rfl rfl k9) ?_
  refine qy (fun _ _ k9 => z_getf (v := qR 160) d_X11_feed_1 fl_X11_33 (xput_ob (c := (F 2)) xi_2 rfl (xsh_11 xo_2)) rfl k9) ?_
  refine qy (fun _ _ k9 => z_iload_n d_X11_feed_4 rfl rfl k9) ?_
  refine qy (fun _ _ k9 => z_iload_n d_X11_feed_5 rfl rfl k9) ?_
  refine qy (fun _ _ k9 => z_iload_n d_X11_feed_6 rfl rfl k9) ?_
  refine qy (fun _ _ k9 => z_iload d_X11_feed_7 rfl k9) ?_
  refine qy (fun _ _ k9 => z_iload d_X11_feed_9 rfl k9) ?_
  obtain ⟨F1, G1, ⟨hv1, hw1⟩, hx1⟩ := c_take (h := h) (F := F) (G := G) a b c d e hZ hok
  refine qy (fun _ _ k9 => z_cv (M1 := M_X4_take) d_X11_feed_11 lv_X11_188 k_X4_take [qI a, qI b, qI c, qI d, qI e] rfl rfl (xput_ob (c := (F 160)) xi_160 rfl (xsh_4 xo_160)) ⟨_, _, rfl⟩ (Nat.le_of_ble_eq_true rfl) (by decide) (by decide) (Nat.le_of_ble_eq_true rfl) hx1 k9) ?_
  exact y_ret (hQ F1 G1 (⟨hv1, hw1⟩)) (z_iret d_X11_feed_14 rfl rfl rfl)
set_option maxRecDepth 20000 in
set_option maxHeartbeats 4000000 in
theorem xc_end_no {h : qH} {F G : Nat → Nat → Int} {B : Nat → Int} {t : Nat} (l : Int) (hZ : rdB F G B t) (hno : ¬ (0 ≤ l ∧ l ≤ (t : Int))) : qEx M_X11_end 0 [qR 2, qI l] [] (xput h F G) (some (qI 0)) (xput h F G) := by
  refine q_gen (fun r hr er eh => ?_)
  refine z_aload_n d_X11_end_0 rfl rfl ?_
  refine z_getf (v := qR 160) d_X11_end_1 fl_X11_33 (xput_ob (c := (F 2)) xi_2 rfl (xsh_11 xo_2)) rfl ?_
  refine z_iload_n d_X11_end_4 rfl rfl ?_
  refine z_cv (M1 := M_X4_cutTo) d_X11_end_5 lv_X11_192 k_X4_cutTo [qI l] rfl rfl (xput_ob (c := (F 160)) xi_160 rfl (xsh_4 xo_160)) ⟨_, _, rfl⟩ (Nat.le_of_ble_eq_true rfl) (by decide) (by decide) (Nat.le_of_ble_eq_true rfl) (c_cutNo l hZ hno) ?_
  exact z_zret d_X11_end_8 rfl (by first | exact qb_01 _ | decide | omega) er eh
set_option maxRecDepth 20000 in
set_option maxHeartbeats 4000000 in
theorem xc_end {h : qH} {F G : Nat → Nat → Int} {B : Nat → Int} {t : Nat} (l : Int) (hZ : rdB F G B t) (hok : 0 ≤ l ∧ l ≤ (t : Int)) : qEx M_X11_end 0 [qR 2, qI l] [] (xput h F G) (some (qI 1)) (xput h (gup F 160 (qup (F 160) 1 l)) G) := by
  refine q_gen (fun r hr er eh => ?_)
  refine z_aload_n d_X11_end_0 rfl rfl ?_
  refine z_getf (v := qR 160) d_X11_end_1 fl_X11_33 (xput_ob (c := (F 2)) xi_2 rfl (xsh_11 xo_2)) rfl ?_
  refine z_iload_n d_X11_end_4 rfl rfl ?_
  refine z_cv (M1 := M_X4_cutTo) d_X11_end_5 lv_X11_192 k_X4_cutTo [qI l] rfl rfl (xput_ob (c := (F 160)) xi_160 rfl (xsh_4 xo_160)) ⟨_, _, rfl⟩ (Nat.le_of_ble_eq_true rfl) (by decide) (by decide) (Nat.le_of_ble_eq_true rfl) (c_cut0 l hZ hok) ?_
  exact z_zret d_X11_end_8 rfl (by first | exact qb_01 _ | decide | omega) er eh
set_option maxRecDepth 20000 in
set_option maxHeartbeats 4000000 in
theorem xc_heard_t {h : qH} {F G : Nat → Nat → Int} {n : Nat} (k : Nat) (t : Int) {N : Nat → Int} (hW : wlR F G 56 N) (hO : wOk N) (hN : N 160 = (n : Int)) (hn : n ≤ 32) (hD : ∀ j, j < 32 → 0 ≤ N (64 + j) ∧ N (64 + j) ≤ 1) (hL : ∀ j, j < 32 → 0 ≤ N (96 + j) ∧ N (96 + j) ≤ 1) (hk : k < n) (ht : 0 ≤ t ∧ t ≤ 200) : ∃ F' G', (F' = F ∧ ∀ a, a ≠ 219 → G' a = G a) ∧ qEx M_X11_heard 0 [qR 2, qI (k : Int), qI (-1), qI t, qU] [] (xput h F G) (some (qI (cnt (fun j => (hrR N n (k : Int) n) j ≤ t) n))) (xput h F' G') := by
  refine x_in (fun Q hQ => ?_)
  refine qy (fun _ _ k9 => z_aload_n d_X11_heard_0 rfl rfl k9) ?_
  refine qy (fun _ _ k9 => z_getf (v := qR 3) d_X11_heard_1 fl_X11_12 (xput_ob (c := (F 2)) xi_2 rfl (xsh_11 xo_2)) rfl k9) ?_
  refine qy (fun _ _ k9 => z_getf (v := qR 56) d_X11_heard_4 fl_X11_66 (xput_ob (c := (F 3)) xi_3 rfl (xsh_8 xo_3)) rfl k9) ?_
  refine qy (fun _ _ k9 => z_astore (ls' := [qR 2, qI (k : Int), qI (-1), qI t, qR 56]) d_X11_heard_7 (by decide) rfl k9) ?_
  refine qy (fun _ _ k9 => z_aload d_X11_heard_9 rfl k9) ?_
  refine qy (fun _ _ k9 => z_iload_n d_X11_heard_11 rfl rfl k9) ?_
  refine qy (fun _ _ k9 => z_cv (M1 := M_X10_has) d_X11_heard_12 lv_X11_83 k_X10_has [qI (k : Int)] rfl rfl (xput_ob (c := (F 56)) xi_56 rfl (xsh_10 xo_56)) ⟨_, _, rfl⟩ (Nat.le_of_ble_eq_true rfl) (by decide) (by decide) (Nat.le_of_ble_eq_true rfl) (c_wlHas (wl := 56) (n := n) (k : Int) (by decide) xo_56 hW hO hN) k9) ?_
  refine qy2 (fun _ _ => z_ifneB 20 d_X11_heard_15 (by decide)) (fun hc1 => ?_) (fun hc1 => absurd hc1 (by omega))
  refine qy (fun _ _ k9 => z_iload_n d_X11_heard_20 rfl rfl k9) ?_
  refine qy (fun _ _ k9 => z_iconst d_X11_heard_21 (by decide) k9) ?_
  refine qy2 (fun _ _ => z_icmp_ne 49 d_X11_heard_22 (by decide)) (fun hc2 => absurd hc2 (by decide)) (fun hc2 => ?_)
  refine qy (fun _ _ k9 => z_iload_n d_X11_heard_25 rfl rfl k9) ?_
  refine qy (fun _ _ k9 => z_iconst d_X11_heard_26 (by decide) k9) ?_
  refine qy (fun _ _ k9 => z_sipush d_X11_heard_27 (by decide) k9) ?_
  refine qy (fun _ _ k9 => z_cs (M1 := M_X11_isWithin) d_X11_heard_30 ls_X11_62 k_X11_isWithin [qI t, qI 0, qI 200] rfl rfl (Nat.le_of_ble_eq_true rfl) (by decide) (by decide) (Nat.le_of_ble_eq_true rfl) (c_isWithin t 0 200) k9) ?_
  refine qy2 (fun _ _ => z_ifneB 38 d_X11_heard_33 (by decide)) (fun hc3 => ?_) (fun hc3 => absurd hc3 (by omega))
  refine qy (fun _ _ k9 => z_aload_n d_X11_heard_38 rfl rfl k9) ?_
  refine qy (fun _ _ k9 => z_iload_n d_X11_heard_39 rfl rfl k9) ?_
  obtain ⟨F1, G1, ⟨he1, hv1, hw1⟩, hx1⟩ := c_spread (h := h) (F := F) (G := G) (k := k) hW hO hN hn hD hL hk
  refine qy (fun _ _ k9 => z_cv0 (M1 := M_X11_spreadFrom) d_X11_heard_40 lv_X11_405 k_X11_spreadFrom [qI (k : Int)] rfl rfl (xput_ob (c := (F 2)) xi_2 rfl (xsh_11 xo_2)) ⟨_, _, rfl⟩ (Nat.le_of_ble_eq_true rfl) (by decide) (by decide) (Nat.le_of_ble_eq_true rfl) hx1 k9) ?_
  refine qy (fun _ _ k9 => z_aload_n d_X11_heard_43 rfl rfl k9) ?_
  refine qy (fun _ _ k9 => z_iload_n d_X11_heard_44 rfl rfl k9) ?_
  refine qy (fun _ _ k9 => z_cv (M1 := M_X11_knowersBehind) d_X11_heard_45 lv_X11_409 k_X11_knowersBehind [qI t] rfl rfl (xput_ob (c := (F1 2)) xi_2 rfl (xsh_11 xo_2)) ⟨_, _, rfl⟩ (Nat.le_of_ble_eq_true rfl) (by decide) (by decide) (Nat.le_of_ble_eq_true rfl) (c_knowers (n := n) (H := (hrR N n (k : Int) n)) t (wlR_cg hW (by rw [he1]) (hv1 _ (by decide)) (hv1 _ (by decide)) (hv1 _ (by decide))) hN hn ht.2 (fun j hj => (hrI_R hn hL (by omega) n j hj).1) hw1) k9) ?_
  exact y_ret (hQ F1 G1 (⟨he1, hv1⟩)) (z_iret d_X11_heard_48 rfl rfl rfl)
set_option maxRecDepth 20000 in
set_option maxHeartbeats 4000000 in
theorem xc_heard_j {h : qH} {F G : Nat → Nat → Int} {n : Nat} (k j : Nat) (t : Int) {N : Nat → Int} (hW : wlR F G 56 N) (hO : wOk N) (hN : N 160 = (n : Int)) (hn : n ≤ 32) (hD : ∀ j, j < 32 → 0 ≤ N (64 + j) ∧ N (64 + j) ≤ 1) (hL : ∀ j, j < 32 → 0 ≤ N (96 + j) ∧ N (96 + j) ≤ 1) (hk : k < n) (hj : j < n) : ∃ F' G', (F' = F ∧ ∀ a, a ≠ 219 → G' a = G a) ∧ qEx M_X11_heard 0 [qR 2, qI (k : Int), qI (j : Int), qI t, qU] [] (xput h F G) (some (qI (qif ((hrR N n (k : Int) n) j < 999) ((hrR N n (k : Int) n) j) (-1)))) (xput h F' G') := by
  refine x_in (fun Q hQ => ?_)
  refine qy (fun _ _ k9 => z_aload_n d_X11_heard_0 rfl rfl k9) ?_
  refine qy (fun _ _ k9 => z_getf (v := qR 3) d_X11_heard_1 fl_X11_12 (xput_ob (c := (F 2)) xi_2 rfl (xsh_11 xo_2)) rfl k9) ?_
  refine qy (fun _ _ k9 => z_getf (v := qR 56) d_X11_heard_4 fl_X11_66 (xput_ob (c := (F 3)) xi_3 rfl (xsh_8 xo_3)) rfl k9) ?_
  refine qy (fun _ _ k9 => z_astore (ls' := [qR 2, qI (k : Int), qI (j : Int), qI t, qR 56]) d_X11_heard_7 (by decide) rfl k9) ?_
  refine qy (fun _ _ k9 => z_aload d_X11_heard_9 rfl k9) ?_
  refine qy (fun _ _ k9 => z_iload_n d_X11_heard_11 rfl rfl k9) ?_
  refine qy (fun _ _ k9 => z_cv (M1 := M_X10_has) d_X11_heard_12 lv_X11_83 k_X10_has [qI (k : Int)] rfl rfl (xput_ob (c := (F 56)) xi_56 rfl (xsh_10 xo_56)) ⟨_, _, rfl⟩ (Nat.le_of_ble_eq_true rfl) (by decide) (by decide) (Nat.le_of_ble_eq_true rfl) (c_wlHas (wl := 56) (n := n) (k : Int) (by decide) xo_56 hW hO hN) k9) ?_
  refine qy2 (fun _ _ => z_ifneB 20 d_X11_heard_15 (by decide)) (fun hc1 => ?_) (fun hc1 => absurd hc1 (by omega))
  refine qy (fun _ _ k9 => z_iload_n d_X11_heard_20 rfl rfl k9) ?_
  refine qy (fun _ _ k9 => z_iconst d_X11_heard_21 (by decide) k9) ?_
  refine qy2 (fun _ _ => z_icmp_ne 49 d_X11_heard_22 (by decide)) (fun hc2 => ?_) (fun hc2 => absurd hc2 (by omega))
  refine qy (fun _ _ k9 => z_aload d_X11_heard_49 rfl k9) ?_
  refine qy (fun _ _ k9 => z_iload_n d_X11_heard_51 rfl rfl k9) ?_
  refine qy (fun _ _ k9 => z_cv (M1 := M_X10_has) d_X11_heard_52 lv_X11_83 k_X10_has [qI (j : Int)] rfl rfl (xput_ob (c := (F 56)) xi_56 rfl (xsh_10 xo_56)) ⟨_, _, rfl⟩ (Nat.le_of_ble_eq_true rfl) (by decide) (by decide) (Nat.le_of_ble_eq_true rfl) (c_wlHas (wl := 56) (n := n) (j : Int) (by decide) xo_56 hW hO hN) k9) ?_
  refine qy2 (fun _ _ => z_ifneB 60 d_X11_heard_55 (by decide)) (fun hc3 => ?_) (fun hc3 => absurd hc3 (by omega))
  refine qy (fun _ _ k9 => z_aload_n d_X11_heard_60 rfl rfl k9) ?_
  refine qy (fun _ _ k9 => z_iload_n d_X11_heard_61 rfl rfl k9) ?_
  obtain ⟨F1, G1, ⟨he1, hv1, hw1⟩, hx1⟩ := c_spread (h := h) (F := F) (G := G) (k := k) hW hO hN hn hD hL hk
  refine qy (fun _ _ k9 => z_cv0 (M1 := M_X11_spreadFrom) d_X11_heard_62 lv_X11_405 k_X11_spreadFrom [qI (k : Int)] rfl rfl (xput_ob (c := (F 2)) xi_2 rfl (xsh_11 xo_2)) ⟨_, _, rfl⟩ (Nat.le_of_ble_eq_true rfl) (by decide) (by decide) (Nat.le_of_ble_eq_true rfl) hx1 k9) ?_
  refine qy (fun _ _ k9 => z_aload_n d_X11_heard_65 rfl rfl k9) ?_
  refine qy (fun _ _ k9 => z_getf (v := qR 219) d_X11_heard_66 fl_X11_58 (xput_ob (c := (F1 2)) xi_2 rfl (xsh_11 xo_2)) rfl k9) ?_
  refine qy (fun _ _ k9 => z_iload_n d_X11_heard_69 rfl rfl k9) ?_
  refine qy (fun _ _ k9 => z_ild j d_X11_heard_70 (xput_ar (g := (G1 219)) xa_219 rfl) rfl (by omega) k9) ?_
  exact y_ret (hQ F1 G1 (⟨he1, hv1⟩)) (z_iret d_X11_heard_71 rfl (qsi (hw1 j hj).symm) rfl)
set_option maxRecDepth 20000 in
set_option maxHeartbeats 4000000 in
theorem xc_heard_no {h : qH} {F G : Nat → Nat → Int} {n : Nat} (k j t : Int) {N : Nat → Int} (hW : wlR F G 56 N) (hO : wOk N) (hN : N 160 = (n : Int)) (hn : n ≤ 32) (hD : ∀ j, j < 32 → 0 ≤ N (64 + j) ∧ N (64 + j) ≤ 1) (hL : ∀ j, j < 32 → 0 ≤ N (96 + j) ∧ N (96 + j) ≤ 1) (hno : ¬ ((0 ≤ k ∧ k < n) ∧ ((j = -1 ∧ 0 ≤ t ∧ t ≤ 200) ∨ (0 ≤ j ∧ j < n)))) : qEx M_X11_heard 0 [qR 2, qI k, qI j, qI t, qU] [] (xput h F G) (some (qI (-1))) (xput h F G) := by
  refine q_gen (fun r hr er eh => ?_)
  refine z_aload_n d_X11_heard_0 rfl rfl ?_
  refine z_getf (v := qR 3) d_X11_heard_1 fl_X11_12 (xput_ob (c := (F 2)) xi_2 rfl (xsh_11 xo_2)) rfl ?_
  refine z_getf (v := qR 56) d_X11_heard_4 fl_X11_66 (xput_ob (c := (F 3)) xi_3 rfl (xsh_8 xo_3)) rfl ?_
  refine z_astore (ls' := [qR 2, qI k, qI j, qI t, qR 56]) d_X11_heard_7 (by decide) rfl ?_
  refine z_aload d_X11_heard_9 rfl ?_
  refine z_iload_n d_X11_heard_11 rfl rfl ?_
  refine z_cv (M1 := M_X10_has) d_X11_heard_12 lv_X11_83 k_X10_has [qI k] rfl rfl (xput_ob (c := (F 56)) xi_56 rfl (xsh_10 xo_56)) ⟨_, _, rfl⟩ (Nat.le_of_ble_eq_true rfl) (by decide) (by decide) (Nat.le_of_ble_eq_true rfl) (c_wlHas (wl := 56) (n := n) k (by decide) xo_56 hW hO hN) ?_
  refine z_ifneB 20 d_X11_heard_15 (by decide) (fun hc1 => ?_) (fun hc1 => ?_)
  · refine z_iload_n d_X11_heard_20 rfl rfl ?_
    refine z_iconst d_X11_heard_21 (by decide) ?_
    refine z_icmp_ne 49 d_X11_heard_22 (by decide) (fun hc2 => ?_) (fun hc2 => ?_)
    · refine z_aload d_X11_heard_49 rfl ?_
      refine z_iload_n d_X11_heard_51 rfl rfl ?_
      refine z_cv (M1 := M_X10_has) d_X11_heard_52 lv_X11_83 k_X10_has [qI j] rfl rfl (xput_ob (c := (F 56)) xi_56 rfl (xsh_10 xo_56)) ⟨_, _, rfl⟩ (Nat.le_of_ble_eq_true rfl) (by decide) (by decide) (Nat.le_of_ble_eq_true rfl) (c_wlHas (wl := 56) (n := n) j (by decide) xo_56 hW hO hN) ?_
      refine z_ifneB 60 d_X11_heard_55 (by decide) (fun hc3 => ?_) (fun hc3 => ?_)
      · exact absurd (by omega) hno
      · refine z_iconst d_X11_heard_58 (by decide) ?_
        exact z_iret d_X11_heard_59 rfl er eh
    · refine z_iload_n d_X11_heard_25 rfl rfl ?_
      refine z_iconst d_X11_heard_26 (by decide) ?_
      refine z_sipush d_X11_heard_27 (by decide) ?_
      refine z_cs (M1 := M_X11_isWithin) d_X11_heard_30 ls_X11_62 k_X11_isWithin [qI t, qI 0, qI 200] rfl rfl (Nat.le_of_ble_eq_true rfl) (by decide) (by decide) (Nat.le_of_ble_eq_true rfl) (c_isWithin t 0 200) ?_
      refine z_ifneB 38 d_X11_heard_33 (by decide) (fun hc4 => ?_) (fun hc4 => ?_)
      · exact absurd (by omega) hno
      · refine z_iconst d_X11_heard_36 (by decide) ?_
        exact z_iret d_X11_heard_37 rfl er eh
  · refine z_iconst d_X11_heard_18 (by decide) ?_
    exact z_iret d_X11_heard_19 rfl er eh
set_option maxRecDepth 20000 in
set_option maxHeartbeats 4000000 in
theorem xc_trees0 {h : qH} {F G : Nat → Nat → Int} {n L : Nat} {A T : Nat → Int} (hLt : F 54 2 = (L : Int)) (hLm : L ≤ xM 54) (hC : trC (G 55) L) (hA : ∀ k, k < 16 → A k = trF (G 55) (fun _ => -1) L k) (hn : n = trN A 16) (hT : ∀ c, c < 648 → G 6 c = T c) (hB : ∀ c, c < 648 → 0 ≤ T c ∧ T c ≤ 7) : ∃ F' G', (xfr 173 176 F G F' G') ∧ qEx M_X11_trees 0 [qR 2, qI 0, qU] [] (xput h F G) (some (qI (trV T A n (trJ T A n)))) (xput h F' G') := by
  refine x_in (fun Q hQ => ?_)
  have hn1 : 1 ≤ n ∧ n ≤ 16 := by have h1 := trN_X hC hA; have h2 := trG9_bd hC L (Nat.le_refl _); omega
  refine qy (fun _ _ k9 => z_aload_n d_X11_trees_0 rfl rfl k9) ?_
  refine qy (fun _ _ k9 => z_getf (v := qR 172) d_X11_trees_1 fl_X11_40 (xput_ob (c := (F 2)) xi_2 rfl (xsh_11 xo_2)) rfl k9) ?_
  refine qy (fun _ _ k9 => z_getf (v := qR 173) d_X11_trees_4 fl_X11_293 (xput_ob (c := (F 172)) xi_172 rfl (xsh_9 xo_172)) rfl k9) ?_
  refine qy (fun _ _ k9 => z_astore_n (ls' := [qR 2, qI 0, qR 173]) d_X11_trees_7 rfl (by decide) rfl k9) ?_
  refine qy (fun _ _ k9 => z_aload_n d_X11_trees_8 rfl rfl k9) ?_
  refine qy (fun _ _ k9 => z_aload_n d_X11_trees_9 rfl rfl k9) ?_
  refine qy (fun _ _ k9 => z_getf (v := qR 3) d_X11_trees_10 fl_X11_12 (xput_ob (c := (F 2)) xi_2 rfl (xsh_11 xo_2)) rfl k9) ?_
  refine qy (fun _ _ k9 => z_getf (v := qR 54) d_X11_trees_13 fl_X11_178 (xput_ob (c := (F 3)) xi_3 rfl (xsh_8 xo_3)) rfl k9) ?_
  obtain ⟨F1, G1, ⟨hv1, hw1, ha1⟩, hx1⟩ := c_trStart (h := h) (F := F) (G := G) (n := n) hLt hLm hC (by rw [hn]; exact trN_X hC hA)
  refine qy (fun _ _ k9 => z_cv0 (M1 := M_X7_startTree) d_X11_trees_16 lv_X11_305 k_X7_startTree [qR 54] rfl rfl (xput_ob (c := (F 173)) xi_173 rfl (xsh_7 xo_173)) ⟨_, _, rfl⟩ (Nat.le_of_ble_eq_true rfl) (by decide) (by decide) (Nat.le_of_ble_eq_true rfl) hx1 k9) ?_
  refine qy (fun _ _ k9 => z_aload_n d_X11_trees_19 rfl rfl k9) ?_
  refine qy (fun _ _ k9 => z_aload_n d_X11_trees_20 rfl rfl k9) ?_
  refine qy (fun _ _ k9 => z_getf (v := qR 3) d_X11_trees_21 fl_X11_12 (xput_ob (c := (F1 2)) xi_2 rfl (xsh_11 xo_2)) rfl k9) ?_
  refine qy (fun _ _ k9 => z_getf (v := qR 4) d_X11_trees_24 fl_X11_144 (xput_ob (c := (F1 3)) xi_3 rfl (xsh_8 xo_3)) rfl k9) ?_
  refine qy (fun _ _ k9 => z_getf (v := qR 6) d_X11_trees_27 fl_X11_243 (xput_ob (c := (F1 4)) xi_4 rfl (xsh_0 xo_4)) rfl k9) ?_
  obtain ⟨F2, G2, ⟨tt2, ch2, hv2, hw2, he2⟩, hx2⟩ := c_trFin (h := h) (F := F1) (G := G1) (n := n) (A := A) (T := T) hn1 (fun k hk => by rw [ha1 k (by omega), hA k (by omega)]) (trA_F hC hA) (fun c hc => by rw [xfr_G hv1 (by decide)]; exact hT c hc) hB hw1
  refine qy (fun _ _ k9 => z_cv0 (M1 := M_X7_finish) d_X11_trees_30 lv_X11_301 k_X7_finish [qR 6] rfl rfl (xput_ob (c := (F1 173)) xi_173 rfl (xsh_7 xo_173)) ⟨_, _, rfl⟩ (Nat.le_of_ble_eq_true rfl) (by decide) (by decide) (Nat.le_of_ble_eq_true rfl) hx2 k9) ?_
  refine qy (fun _ _ k9 => z_aload_n d_X11_trees_33 rfl rfl k9) ?_
  refine qy (fun _ _ k9 => z_iload_n d_X11_trees_34 rfl rfl k9) ?_
  refine qy (fun _ _ k9 => z_cv (M1 := M_X7_outcome) d_X11_trees_35 lv_X11_288 k_X7_outcome [qI 0] rfl rfl (xput_ob (c := (F2 173)) xi_173 rfl (xsh_7 xo_173)) ⟨_, _, rfl⟩ (Nat.le_of_ble_eq_true rfl) (by decide) (by decide) (Nat.le_of_ble_eq_true rfl) (c_rnOut0 (by decide) xo_173 (by omega) hw2) k9) ?_
  exact y_ret (hQ F2 G2 (xfr_tr hv1 hv2)) (z_iret d_X11_trees_38 rfl (qsi he2) rfl)
set_option maxRecDepth 20000 in
set_option maxHeartbeats 4000000 in
theorem xc_trees1 {h : qH} {F G : Nat → Nat → Int} {n L : Nat} {A T : Nat → Int} (hLt : F 54 2 = (L : Int)) (hLm : L ≤ xM 54) (hC : trC (G 55) L) (hA : ∀ k, k < 16 → A k = trF (G 55) (fun _ => -1) L k) (hn : n = trN A 16) (hT : ∀ c, c < 648 → G 6 c = T c) (hB : ∀ c, c < 648 → 0 ≤ T c ∧ T c ≤ 7) : ∃ F' G', (xfr 173 176 F G F' G') ∧ qEx M_X11_trees 0 [qR 2, qI 1, qU] [] (xput h F G) (some (qI (cnt (fun k => (tps T A n (trJ T A n)) k = 7) n))) (xput h F' G') := by
  refine x_in (fun Q hQ => ?_)
  have hn1 : 1 ≤ n ∧ n ≤ 16 := by have h1 := trN_X hC hA; have h2 := trG9_bd hC L (Nat.le_refl _); omega
  refine qy (fun _ _ k9 => z_aload_n d_X11_trees_0 rfl rfl k9) ?_
  refine qy (fun _ _ k9 => z_getf (v := qR 172) d_X11_trees_1 fl_X11_40 (xput_ob (c := (F 2)) xi_2 rfl (xsh_11 xo_2)) rfl k9) ?_
  refine qy (fun _ _ k9 => z_getf (v := qR 173) d_X11_trees_4 fl_X11_293 (xput_ob (c := (F 172)) xi_172 rfl (xsh_9 xo_172)) rfl k9) ?_
  refine qy (fun _ _ k9 => z_astore_n (ls' := [qR 2, qI 1, qR 173]) d_X11_trees_7 rfl (by decide) rfl k9) ?_
  refine qy (fun _ _ k9 => z_aload_n d_X11_trees_8 rfl rfl k9) ?_
  refine qy (fun _ _ k9 => z_aload_n d_X11_trees_9 rfl rfl k9) ?_
  refine qy (fun _ _ k9 => z_getf (v := qR 3) d_X11_trees_10 fl_X11_12 (xput_ob (c := (F 2)) xi_2 rfl (xsh_11 xo_2)) rfl k9) ?_
  refine qy (fun _ _ k9 => z_getf (v := qR 54) d_X11_trees_13 fl_X11_178 (xput_ob (c := (F 3)) xi_3 rfl (xsh_8 xo_3)) rfl k9) ?_
  obtain ⟨F1, G1, ⟨hv1, hw1, ha1⟩, hx1⟩ := c_trStart (h := h) (F := F) (G := G) (n := n) hLt hLm hC (by rw [hn]; exact trN_X hC hA)
  refine qy (fun _ _ k9 => z_cv0 (M1 := M_X7_startTree) d_X11_trees_16 lv_X11_305 k_X7_startTree [qR 54] rfl rfl (xput_ob (c := (F 173)) xi_173 rfl (xsh_7 xo_173)) ⟨_, _, rfl⟩ (Nat.le_of_ble_eq_true rfl) (by decide) (by decide) (Nat.le_of_ble_eq_true rfl) hx1 k9) ?_
  refine qy (fun _ _ k9 => z_aload_n d_X11_trees_19 rfl rfl k9) ?_
  refine qy (fun _ _ k9 => z_aload_n d_X11_trees_20 rfl rfl k9) ?_
  refine qy (fun _ _ k9 => z_getf (v := qR 3) d_X11_trees_21 fl_X11_12 (xput_ob (c := (F1 2)) xi_2 rfl (xsh_11 xo_2)) rfl k9) ?_
  refine qy (fun _ _ k9 => z_getf (v := qR 4) d_X11_trees_24 fl_X11_144 (xput_ob (c := (F1 3)) xi_3 rfl (xsh_8 xo_3)) rfl k9) ?_
  refine qy (fun _ _ k9 => z_getf (v := qR 6) d_X11_trees_27 fl_X11_243 (xput_ob (c := (F1 4)) xi_4 rfl (xsh_0 xo_4)) rfl k9) ?_
  obtain ⟨F2, G2, ⟨tt2, ch2, hv2, hw2, he2⟩, hx2⟩ := c_trFin (h := h) (F := F1) (G := G1) (n := n) (A := A) (T := T) hn1 (fun k hk => by rw [ha1 k (by omega), hA k (by omega)]) (trA_F hC hA) (fun c hc => by rw [xfr_G hv1 (by decide)]; exact hT c hc) hB hw1
  refine qy (fun _ _ k9 => z_cv0 (M1 := M_X7_finish) d_X11_trees_30 lv_X11_301 k_X7_finish [qR 6] rfl rfl (xput_ob (c := (F1 173)) xi_173 rfl (xsh_7 xo_173)) ⟨_, _, rfl⟩ (Nat.le_of_ble_eq_true rfl) (by decide) (by decide) (Nat.le_of_ble_eq_true rfl) hx2 k9) ?_
  refine qy (fun _ _ k9 => z_aload_n d_X11_trees_33 rfl rfl k9) ?_
  refine qy (fun _ _ k9 => z_iload_n d_X11_trees_34 rfl rfl k9) ?_
  refine qy (fun _ _ k9 => z_cv (M1 := M_X7_outcome) d_X11_trees_35 lv_X11_288 k_X7_outcome [qI 1] rfl rfl (xput_ob (c := (F2 173)) xi_173 rfl (xsh_7 xo_173)) ⟨_, _, rfl⟩ (Nat.le_of_ble_eq_true rfl) (by decide) (by decide) (Nat.le_of_ble_eq_true rfl) (c_rnOut1 (by decide) xo_173 (by omega) hw2) k9) ?_
  exact y_ret (hQ F2 G2 (xfr_tr hv1 hv2)) (z_iret d_X11_trees_38 rfl rfl rfl)
set_option maxRecDepth 20000 in
set_option maxHeartbeats 4000000 in
theorem xc_trees2 {h : qH} {F G : Nat → Nat → Int} {n L : Nat} {A T : Nat → Int} (hLt : F 54 2 = (L : Int)) (hLm : L ≤ xM 54) (hC : trC (G 55) L) (hA : ∀ k, k < 16 → A k = trF (G 55) (fun _ => -1) L k) (hn : n = trN A 16) (hT : ∀ c, c < 648 → G 6 c = T c) (hB : ∀ c, c < 648 → 0 ≤ T c ∧ T c ≤ 7) : ∃ F' G', (xfr 173 176 F G F' G') ∧ qEx M_X11_trees 0 [qR 2, qI 2, qU] [] (xput h F G) (some (qI (fst (fun k => ¬ (tps T A n (trJ T A n)) k = 7) n))) (xput h F' G') := by
  refine x_in (fun Q hQ => ?_)
  have hn1 : 1 ≤ n ∧ n ≤ 16 := by have h1 := trN_X hC hA; have h2 := trG9_bd hC L (Nat.le_refl _); omega
  refine qy (fun _ _ k9 => z_aload_n d_X11_trees_0 rfl rfl k9) ?_
  refine qy (fun _ _ k9 => z_getf (v := qR 172) d_X11_trees_1 fl_X11_40 (xput_ob (c := (F 2)) xi_2 rfl (xsh_11 xo_2)) rfl k9) ?_
  refine qy (fun _ _ k9 => z_getf (v := qR 173) d_X11_trees_4 fl_X11_293 (xput_ob (c := (F 172)) xi_172 rfl (xsh_9 xo_172)) rfl k9) ?_
  refine qy (fun _ _ k9 => z_astore_n (ls' := [qR 2, qI 2, qR 173]) d_X11_trees_7 rfl (by decide) rfl k9) ?_
  refine qy (fun _ _ k9 => z_aload_n d_X11_trees_8 rfl rfl k9) ?_
  refine qy (fun _ _ k9 => z_aload_n d_X11_trees_9 rfl rfl k9) ?_
  refine qy (fun _ _ k9 => z_getf (v := qR 3) d_X11_trees_10 fl_X11_12 (xput_ob (c := (F 2)) xi_2 rfl (xsh_11 xo_2)) rfl k9) ?_
  refine qy (fun _ _ k9 => z_getf (v := qR 54) d_X11_trees_13 fl_X11_178 (xput_ob (c := (F 3)) xi_3 rfl (xsh_8 xo_3)) rfl k9) ?_
  obtain ⟨F1, G1, ⟨hv1, hw1, ha1⟩, hx1⟩ := c_trStart (h := h) (F := F) (G := G) (n := n) hLt hLm hC (by rw [hn]; exact trN_X hC hA)
  refine qy (fun _ _ k9 => z_cv0 (M1 := M_X7_startTree) d_X11_trees_16 lv_X11_305 k_X7_startTree [qR 54] rfl rfl (xput_ob (c := (F 173)) xi_173 rfl (xsh_7 xo_173)) ⟨_, _, rfl⟩ (Nat.le_of_ble_eq_true rfl) (by decide) (by decide) (Nat.le_of_ble_eq_true rfl) hx1 k9) ?_
  refine qy (fun _ _ k9 => z_aload_n d_X11_trees_19 rfl rfl k9) ?_
  refine qy (fun _ _ k9 => z_aload_n d_X11_trees_20 rfl rfl k9) ?_
  refine qy (fun _ _ k9 => z_getf (v := qR 3) d_X11_trees_21 fl_X11_12 (xput_ob (c := (F1 2)) xi_2 rfl (xsh_11 xo_2)) rfl k9) ?_
  refine qy (fun _ _ k9 => z_getf (v := qR 4) d_X11_trees_24 fl_X11_144 (xput_ob (c := (F1 3)) xi_3 rfl (xsh_8 xo_3)) rfl k9) ?_
  refine qy (fun _ _ k9 => z_getf (v := qR 6) d_X11_trees_27 fl_X11_243 (xput_ob (c := (F1 4)) xi_4 rfl (xsh_0 xo_4)) rfl k9) ?_
  obtain ⟨F2, G2, ⟨tt2, ch2, hv2, hw2, he2⟩, hx2⟩ := c_trFin (h := h) (F := F1) (G := G1) (n := n) (A := A) (T := T) hn1 (fun k hk => by rw [ha1 k (by omega), hA k (by omega)]) (trA_F hC hA) (fun c hc => by rw [xfr_G hv1 (by decide)]; exact hT c hc) hB hw1
  refine qy (fun _ _ k9 => z_cv0 (M1 := M_X7_finish) d_X11_trees_30 lv_X11_301 k_X7_finish [qR 6] rfl rfl (xput_ob (c := (F1 173)) xi_173 rfl (xsh_7 xo_173)) ⟨_, _, rfl⟩ (Nat.le_of_ble_eq_true rfl) (by decide) (by decide) (Nat.le_of_ble_eq_true rfl) hx2 k9) ?_
  refine qy (fun _ _ k9 => z_aload_n d_X11_trees_33 rfl rfl k9) ?_
  refine qy (fun _ _ k9 => z_iload_n d_X11_trees_34 rfl rfl k9) ?_
  refine qy (fun _ _ k9 => z_cv (M1 := M_X7_outcome) d_X11_trees_35 lv_X11_288 k_X7_outcome [qI 2] rfl rfl (xput_ob (c := (F2 173)) xi_173 rfl (xsh_7 xo_173)) ⟨_, _, rfl⟩ (Nat.le_of_ble_eq_true rfl) (by decide) (by decide) (Nat.le_of_ble_eq_true rfl) (c_rnOut2 (by decide) xo_173 (by omega) hw2) k9) ?_
  exact y_ret (hQ F2 G2 (xfr_tr hv1 hv2)) (z_iret d_X11_trees_38 rfl rfl rfl)
