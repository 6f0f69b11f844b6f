/-! ===== CONTRACTS: BeaconWall: act ===== -/
theorem psR_cg {F G F' G' g g' : Nat → Nat → Int} {b : Nat} (h : psR F G g b) (e : ∀ a, 127 ≤ a → a ≤ 159 → F' a = F a ∧ G' a = G a) (eg : g' 14 = g 14) : psR F' G' g' b := by
  obtain ⟨l, ⟨h1, h2, h3, h4⟩, h5⟩ := h
  refine ⟨l, ⟨h1, ?_, ?_, h4⟩, fun t ht => ?_⟩
  · rw [(e 127 (by omega) (by omega)).1]; exact h2
  · rw [(e 127 (by omega) (by omega)).1]; exact h3
  · obtain ⟨h6, h7⟩ := h5 t ht
    have e1 : bkN g' t = bkN g t := by unfold bkN; rw [eg]
    rw [e1, (e 129 (by omega) (by omega)).2]
    exact ⟨wlR_cg h6 (e _ (by omega) (by omega)).1 (e _ (by omega) (by omega)).2 (e _ (by omega) (by omega)).2 (e _ (by omega) (by omega)).2, h7⟩
theorem becV_V {K v : Int} : becV K (becV K v) = becV K v := by
  unfold becV
  by_cases h0 : K = 0
  · rw [if_pos h0, if_pos h0]
  · by_cases h5 : K = 5
    · rw [if_neg h0, if_pos h5, if_neg h0, if_pos h5]
    · rw [if_neg h0, if_neg h5, if_neg h0, if_neg h5]
theorem becG_V {g : Nat → Nat → Int} {K v : Int} {who : Nat} (hK : 0 ≤ K ∧ K ≤ 5) : becG g K who (becV K v) = becG g K who v := by
  unfold becG
  rw [becV_V]
  have e : becA K who (becV K v) (g 11) = becA K who v (g 11) := by
    obtain rfl | rfl | rfl | rfl | rfl | rfl : K = 0 ∨ K = 1 ∨ K = 2 ∨ K = 3 ∨ K = 4 ∨ K = 5 := by omega
    all_goals rfl
  rw [e]
theorem kAct_bd {k v : Int} (h : kAct k v ≠ -1) : 0 ≤ kAct k v ∧ kAct k v ≤ 5 := by
  unfold kAct at h ⊢
  repeat' split
  all_goals omega
set_option maxRecDepth 20000 in
set_option maxHeartbeats 4000000 in
theorem xc_act_no {h : qH} {F G : Nat → Nat → Int} {g : Nat → Nat → Int} {n : Nat} (what who v : Int) (hW : wgR F G g) (hN : g 11 160 = (n : Int)) (hR : rwOk (g 11)) (hno : ¬ (kAct what v ≠ -1 ∧ 0 ≤ who ∧ who < (n : Int))) : qEx M_X11_act 0 [qR 2, qI what, qI who, qI v, qU] [] (xput h F G) (some (qI 0)) (xput h F G) := by
  refine q_gen (fun r hr er eh => ?_)
  refine z_iload_n d_X11_act_0 rfl rfl ?_
  refine z_iload_n d_X11_act_1 rfl rfl ?_
  refine z_cs (M1 := M_X11_kindOfAct) d_X11_act_2 ls_X11_79 k_X11_kindOfAct [qI what, qI v] rfl rfl (Nat.le_of_ble_eq_true rfl) (by decide) (by decide) (Nat.le_of_ble_eq_true rfl) (c_kind what v) ?_
  refine z_istore (ls' := [qR 2, qI what, qI who, qI v, qI (kAct what v)]) d_X11_act_5 (by decide) rfl ?_
  refine z_iload d_X11_act_7 rfl ?_
  refine z_iconst d_X11_act_9 (by decide) ?_
  refine z_icmp_eq 27 d_X11_act_10 (by decide) (fun q10 => ?_) (fun q10 => ?_)
  · refine z_iconst d_X11_act_27 (by decide) ?_
    exact z_zret d_X11_act_28 rfl (by first | exact qb_01 _ | decide | omega) er eh
  · refine z_aload_n d_X11_act_13 rfl rfl ?_
    refine z_getf (v := qR 3) d_X11_act_14 fl_X11_12 (xput_ob (c := (F 2)) xi_2 rfl (xsh_11 xo_2)) rfl ?_
    refine z_getf (v := qR 56) d_X11_act_17 fl_X11_66 (xput_ob (c := (F 3)) xi_3 rfl (xsh_8 xo_3)) rfl ?_
    refine z_iload_n d_X11_act_20 rfl rfl ?_
    refine z_cv (M1 := M_X10_has) d_X11_act_21 lv_X11_83 k_X10_has [qI who] rfl rfl (xput_ob (c := (F 56)) xi_56 rfl (xsh_10 xo_56)) ⟨_, _, rfl⟩ (Nat.le_of_ble_eq_true rfl) (by decide) (by decide) (Nat.le_of_ble_eq_true rfl) (c_wlHas (wl := 56) (n := n) who (by decide) xo_56 hW.1 (wOk_of hR) hN) ?_
    refine z_ifneB 29 d_X11_act_24 (by decide) (fun q24 => ?_) (fun q24 => ?_)
    · exact absurd (by omega) hno
    · refine z_iconst d_X11_act_27 (by decide) ?_
      exact z_zret d_X11_act_28 rfl (by first | exact qb_01 _ | decide | omega) er eh
set_option maxRecDepth 20000 in
set_option maxHeartbeats 4000000 in
theorem xc_act {h : qH} {F G : Nat → Nat → Int} {g : Nat → Nat → Int} {f : Nat → Int} {n b who : Nat} (what v : Int) (hW : wgR F G g) (hN : g 11 160 = (n : Int)) (hR : rwOk (g 11)) (hn : n ≤ 32) (hP : psR F G g b) (hf : f 25 = (b : Int)) (hk : kAct what v ≠ -1) (hw9 : who < n) : ∃ F' G', ((∀ a, (a < 56 ∨ 62 < a) → (a < 127 ∨ 159 < a) → F' a = F a ∧ G' a = G a) ∧ wgR F' G' (becG (kbG f g) (kAct what v) who v) ∧ psR F' G' (becG (kbG f g) (kAct what v) who v) (if b = 6 then 6 else b + 1)) ∧ qEx M_X11_act 0 [qR 2, qI what, qI (who : Int), qI v, qU] [] (xput h F G) (some (qI 1)) (xput h F' G') := by
  refine x_in (fun Q hQ => ?_)
  refine qy (fun _ _ k9 => z_iload_n d_X11_act_0 rfl rfl k9) ?_
  refine qy (fun _ _ k9 => z_iload_n d_X11_act_1 rfl rfl k9) ?_
  refine qy (fun _ _ k9 => z_cs (M1 := M_X11_kindOfAct) d_X11_act_2 ls_X11_79 k_X11_kindOfAct [qI what, qI v] rfl rfl (Nat.le_of_ble_eq_true rfl) (by decide) (by decide) (Nat.le_of_ble_eq_true rfl) (c_kind what v) k9) ?_
  refine qy (fun _ _ k9 => z_istore (ls' := [qR 2, qI what, qI (who : Int), qI v, qI (kAct what v)]) d_X11_act_5 (by decide) rfl k9) ?_
  refine qy (fun _ _ k9 => z_iload d_X11_act_7 rfl k9) ?_
  refine qy (fun _ _ k9 => z_iconst d_X11_act_9 (by decide) k9) ?_
  refine qy2 (fun _ _ => z_icmp_eq 27 d_X11_act_10 (by decide)) (fun hc1 => absurd hc1 (by exact hk)) (fun hc1 => ?_)
  refine qy (fun _ _ k9 => z_aload_n d_X11_act_13 rfl rfl k9) ?_
  refine qy (fun _ _ k9 => z_getf (v := qR 3) d_X11_act_14 fl_X11_12 (xput_ob (c := (F 2)) xi_2 rfl (xsh_11 xo_2)) rfl k9) ?_
  refine qy (fun _ _ k9 => z_getf (v := qR 56) d_X11_act_17 fl_X11_66 (xput_ob (c := (F 3)) xi_3 rfl (xsh_8 xo_3)) rfl k9) ?_
  refine qy (fun _ _ k9 => z_iload_n d_X11_act_20 rfl rfl k9) ?_
  refine qy (fun _ _ k9 => z_cv (M1 := M_X10_has) d_X11_act_21 lv_X11_83 k_X10_has [qI (who : Int)] rfl rfl (xput_ob (c := (F 56)) xi_56 rfl (xsh_10 xo_56)) ⟨_, _, rfl⟩ (Nat.le_of_ble_eq_true rfl) (by decide) (by decide) (Nat.le_of_ble_eq_true rfl) (c_wlHas (wl := 56) (n := n) (who : Int) (by decide) xo_56 hW.1 (wOk_of hR) hN) k9) ?_
  refine qy2 (fun _ _ => z_ifneB 29 d_X11_act_24 (by decide)) (fun hc2 => ?_) (fun hc2 => absurd hc2 (by omega))
  refine qy (fun _ _ k9 => z_aload_n d_X11_act_29 rfl rfl k9) ?_
  refine qy (fun _ _ k9 => z_getf (v := qR 127) d_X11_act_30 fl_X11_26 (xput_ob (c := (F 2)) xi_2 rfl (xsh_11 xo_2)) rfl k9) ?_
  refine qy (fun _ _ k9 => z_aload_n d_X11_act_33 rfl rfl k9) ?_
  refine qy (fun _ _ k9 => z_getf (v := qR 3) d_X11_act_34 fl_X11_12 (xput_ob (c := (F 2)) xi_2 rfl (xsh_11 xo_2)) rfl k9) ?_
  obtain ⟨F1, G1, ⟨hv1, hw1⟩, hx1⟩ := c_keep (h := h) (F := F) (G := G) (f := f) hW hP hf (by have := rw_at (a := 0) (b := 1) hR (j := 161) (by decide) rfl rfl; omega)
  refine qy (fun _ _ k9 => z_cv0 (M1 := M_X3_keep) d_X11_act_37 lv_X11_87 k_X3_keep [qR 3] rfl rfl (xput_ob (c := (F 127)) xi_127 rfl (xsh_3 xo_127)) ⟨_, _, rfl⟩ (Nat.le_of_ble_eq_true rfl) (by decide) (by decide) (Nat.le_of_ble_eq_true rfl) hx1 k9) ?_
  refine qy (fun _ _ k9 => z_aload_n d_X11_act_40 rfl rfl k9) ?_
  refine qy (fun _ _ k9 => z_getf (v := qR 3) d_X11_act_41 fl_X11_12 (xput_ob (c := (F1 2)) xi_2 rfl (xsh_11 xo_2)) rfl k9) ?_
  refine qy (fun _ _ k9 => z_iload d_X11_act_44 rfl k9) ?_
  refine qy (fun _ _ k9 => z_iload_n d_X11_act_46 rfl rfl k9) ?_
  refine qy (fun _ _ k9 => z_iload d_X11_act_47 rfl k9) ?_
  refine qy2 (fun _ _ => z_if_eq 58 d_X11_act_49 (by decide)) (fun q49 => ?_) (fun q49 => ?_)
  · refine qy (fun _ _ k9 => z_iload_n d_X11_act_58 rfl rfl k9) ?_
    refine qy (fun _ _ k9 => z_goto 63 d_X11_act_59 (by decide) k9) ?_
    refine qy (fun _ _ k9 => z_eq rfl (qc (qi (show v = (becV (kAct what v) v) from by unfold becV; split <;> (try split) <;> first | rfl | omega)) rfl) rfl k9) ?_
    obtain ⟨F2, G2, ⟨hv2, hw2⟩, hx2⟩ := c_perform (h := h) (F := F1) (G := G1) (g := kbG f g) (kAct what v) who (becV (kAct what v) v) (wgR_g (wgR_cg hW hv1 (by decide)) (kbG_ne (by decide)) (kbG_ne (by decide))) (by omega) (by rw [kbG_ne (by decide)]; exact rw_at (a := 0) (b := 150) hR (j := 166) (by decide) rfl rfl) (kAct_bd hk) becV_V
    refine qy (fun _ _ k9 => z_cv0 (M1 := M_X8_perform) d_X11_act_63 lv_X11_91 k_X8_perform [qI (kAct what v), qI (who : Int), qI (becV (kAct what v) v)] rfl rfl (xput_ob (c := (F1 3)) xi_3 rfl (xsh_8 xo_3)) ⟨_, _, rfl⟩ (Nat.le_of_ble_eq_true rfl) (by decide) (by decide) (Nat.le_of_ble_eq_true rfl) hx2 k9) ?_
    refine qy (fun _ _ k9 => z_iconst d_X11_act_66 (by decide) k9) ?_
    exact y_ret (hQ F2 G2 (⟨fun a h1 h2 => ⟨(xfr_F hv2 h1).trans (xfr_F hv1 h2), (xfr_G hv2 h1).trans (xfr_G hv1 h2)⟩, (by rw [← becG_V (kAct_bd hk)]; exact hw2), psR_cg hw1 (fun a h1 h2 => ⟨xfr_F hv2 (by omega), xfr_G hv2 (by omega)⟩) (becG_ne (by decide) (by decide))⟩)) (z_zret d_X11_act_67 rfl (by first | exact qb_01 _ | decide | omega) rfl rfl)
  · refine qy (fun _ _ k9 => z_iload d_X11_act_52 rfl k9) ?_
    refine qy (fun _ _ k9 => z_iconst d_X11_act_54 (by decide) k9) ?_
    refine qy2 (fun _ _ => z_icmp_ne 62 d_X11_act_55 (by decide)) (fun q55 => ?_) (fun q55 => ?_)
    · refine qy (fun _ _ k9 => z_iconst d_X11_act_62 (by decide) k9) ?_
      refine qy (fun _ _ k9 => z_eq rfl (qc (qi (show 0 = (becV (kAct what v) v) from by unfold becV; split <;> (try split) <;> first | rfl | omega)) rfl) rfl k9) ?_
      obtain ⟨F3, G3, ⟨hv3, hw3⟩, hx3⟩ := c_perform (h := h) (F := F1) (G := G1) (g := kbG f g) (kAct what v) who (becV (kAct what v) v) (wgR_g (wgR_cg hW hv1 (by decide)) (kbG_ne (by decide)) (kbG_ne (by decide))) (by omega) (by rw [kbG_ne (by decide)]; exact rw_at (a := 0) (b := 150) hR (j := 166) (by decide) rfl rfl) (kAct_bd hk) becV_V
      refine qy (fun _ _ k9 => z_cv0 (M1 := M_X8_perform) d_X11_act_63 lv_X11_91 k_X8_perform [qI (kAct what v), qI (who : Int), qI (becV (kAct what v) v)] rfl rfl (xput_ob (c := (F1 3)) xi_3 rfl (xsh_8 xo_3)) ⟨_, _, rfl⟩ (Nat.le_of_ble_eq_true rfl) (by decide) (by decide) (Nat.le_of_ble_eq_true rfl) hx3 k9) ?_
      refine qy (fun _ _ k9 => z_iconst d_X11_act_66 (by decide) k9) ?_
      exact y_ret (hQ F3 G3 (⟨fun a h1 h2 => ⟨(xfr_F hv3 h1).trans (xfr_F hv1 h2), (xfr_G hv3 h1).trans (xfr_G hv1 h2)⟩, (by rw [← becG_V (kAct_bd hk)]; exact hw3), psR_cg hw1 (fun a h1 h2 => ⟨xfr_F hv3 (by omega), xfr_G hv3 (by omega)⟩) (becG_ne (by decide) (by decide))⟩)) (z_zret d_X11_act_67 rfl (by first | exact qb_01 _ | decide | omega) rfl rfl)
    · refine qy (fun _ _ k9 => z_iload_n d_X11_act_58 rfl rfl k9) ?_
      refine qy (fun _ _ k9 => z_goto 63 d_X11_act_59 (by decide) k9) ?_
      refine qy (fun _ _ k9 => z_eq rfl (qc (qi (show v = (becV (kAct what v) v) from by unfold becV; split <;> (try split) <;> first | rfl | omega)) rfl) rfl k9) ?_
      obtain ⟨F4, G4, ⟨hv4, hw4⟩, hx4⟩ := c_perform (h := h) (F := F1) (G := G1) (g := kbG f g) (kAct what v) who (becV (kAct what v) v) (wgR_g (wgR_cg hW hv1 (by decide)) (kbG_ne (by decide)) (kbG_ne (by decide))) (by omega) (by rw [kbG_ne (by decide)]; exact rw_at (a := 0) (b := 150) hR (j := 166) (by decide) rfl rfl) (kAct_bd hk) becV_V
      refine qy (fun _ _ k9 => z_cv0 (M1 := M_X8_perform) d_X11_act_63 lv_X11_91 k_X8_perform [qI (kAct what v), qI (who : Int), qI (becV (kAct what v) v)] rfl rfl (xput_ob (c := (F1 3)) xi_3 rfl (xsh_8 xo_3)) ⟨_, _, rfl⟩ (Nat.le_of_ble_eq_true rfl) (by decide) (by decide) (Nat.le_of_ble_eq_true rfl) hx4 k9) ?_
      refine qy (fun _ _ k9 => z_iconst d_X11_act_66 (by decide) k9) ?_
      exact y_ret (hQ F4 G4 (⟨fun a h1 h2 => ⟨(xfr_F hv4 h1).trans (xfr_F hv1 h2), (xfr_G hv4 h1).trans (xfr_G hv1 h2)⟩, (by rw [← becG_V (kAct_bd hk)]; exact hw4), psR_cg hw1 (fun a h1 h2 => ⟨xfr_F hv4 (by omega), xfr_G hv4 (by omega)⟩) (becG_ne (by decide) (by decide))⟩)) (z_zret d_X11_act_67 rfl (by first | exact qb_01 _ | decide | omega) rfl rfl)
