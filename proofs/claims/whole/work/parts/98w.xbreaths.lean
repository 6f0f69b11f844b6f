/-! ===== CONTRACTS: BeaconWall: breaths ===== -/
theorem kbI_s {f : Nat → Int} {i : Nat} (h : 0 ≤ f 25 ∧ f 25 ≤ 6) : (kbI f (i + 1) 25).toNat = if (kbI f i 25).toNat = 6 then 6 else (kbI f i 25).toNat + 1 := by
  have h1 := kbI_25 h i
  have e : kbI f (i + 1) 25 = kbF (kbI f i) 25 := rfl
  rw [e]
  unfold kbF
  by_cases z : kbI f i 25 = 6
  · rw [if_pos z, qup_eq, z]; rfl
  · rw [if_neg z, qup_eq, if_neg (by omega)]; omega
set_option maxRecDepth 20000 in
set_option maxHeartbeats 4000000 in
theorem xc_breaths {h : qH} {F G : Nat → Nat → Int} {g : Nat → Nat → Int} {f : Nat → Int} {n pl b c : Nat} (hN : g 11 160 = (n : Int)) (hR : rwOk (g 11)) (hP : plOk (g 7) pl) (hpR : plR F G g pl) (hW : wgR F G g) (hPs : psR F G g b) (hf : f 25 = (b : Int)) (hb6 : b ≤ 6) (hb : g 11 162 + c ≤ 9999) (hc : 1 ≤ c ∧ c ≤ 60) (hB : ∀ c, c < 648 → 0 ≤ g 25 c ∧ g 25 c ≤ 7) (hT : ∀ c, c < 648 → G 6 c = g 25 c) (hD : ∀ c, c < 648 → G 7 c = g 26 c) : ∃ F' G', ((∀ a, (a < 56 ∨ 62 < a) → (a < 127 ∨ 159 < a) → F' a = F a ∧ G' a = G a) ∧ wgR F' G' (bsG n pl f g c) ∧ psR F' G' (bsG n pl f g c) (((kbI f c) 25).toNat)) ∧ qEx M_X11_breaths 0 [qR 2, qI (c : Int), qU] [] (xput h F G) (some (qI (cnt (fun k => (bsG n pl f g c) 11 k = 7) n))) (xput h F' G') := by
  refine x_in (fun Q hQ => ?_)
  have hn : n ≤ 32 := by have := wOk_n (wOk_of hR); omega
  have h1629 := rw_at (a := 0) (b := 9999) hR (j := 162) (by decide) rfl rfl
  refine qy (fun _ _ k9 => z_iload_n d_X11_breaths_0 rfl rfl k9) ?_
  refine qy (fun _ _ k9 => z_iconst d_X11_breaths_1 (by decide) k9) ?_
  refine qy (fun _ _ k9 => z_bipush d_X11_breaths_2 (by decide) k9) ?_
  refine qy (fun _ _ k9 => z_cs (M1 := M_X11_isWithin) d_X11_breaths_4 ls_X11_62 k_X11_isWithin [qI (c : Int), qI 1, qI 60] rfl rfl (Nat.le_of_ble_eq_true rfl) (by decide) (by decide) (Nat.le_of_ble_eq_true rfl) (c_isWithin (c : Int) 1 60) k9) ?_
  refine qy2n (fun _ _ => z_ifeqB 28 d_X11_breaths_7 (by decide)) (fun hc1 => absurd hc1 (by omega)) (fun hc1 => ?_)
  refine qy (fun _ _ k9 => z_aload_n d_X11_breaths_10 rfl rfl k9) ?_
  refine qy (fun _ _ k9 => z_getf (v := qR 3) d_X11_breaths_11 fl_X11_12 (xput_ob (c := (F 2)) xi_2 rfl (xsh_11 xo_2)) rfl k9) ?_
  refine qy (fun _ _ k9 => z_getf (v := qR 56) d_X11_breaths_14 fl_X11_66 (xput_ob (c := (F 3)) xi_3 rfl (xsh_8 xo_3)) rfl k9) ?_
  refine qy (fun _ _ k9 => z_getf (v := qI ((F 56) 8)) d_X11_breaths_17 fl_X11_95 (xput_ob (c := (F 56)) xi_56 rfl (xsh_10 xo_56)) rfl k9) ?_
  refine qy (fun _ _ k9 => z_eq rfl (qc (qi hW.1.1.2.2.1) rfl) rfl k9) ?_
  refine qy (fun _ _ k9 => z_iload_n d_X11_breaths_20 rfl rfl k9) ?_
  refine qy (fun _ _ k9 => z_iadd d_X11_breaths_21 (by omega) k9) ?_
  refine qy (fun _ _ k9 => z_sipush d_X11_breaths_22 (by decide) k9) ?_
  refine qy2 (fun _ _ => z_icmp_le 30 d_X11_breaths_25 (by decide)) (fun hc2 => ?_) (fun hc2 => absurd hc2 (by omega))
  refine qy (fun _ _ k9 => z_iconst d_X11_breaths_30 (by decide) k9) ?_
  refine qy (fun _ _ k9 => z_istore_n (ls' := [qR 2, qI (c : Int), qI 0]) d_X11_breaths_31 rfl (by decide) rfl k9) ?_
  refine qy (fun _ _ k9 => z_eq (qc rfl (qc rfl (qc (qi (rfl)) rfl))) rfl rfl k9) (y_wh3 (fun (i : Nat) (Fa : Nat → Nat → Int) (Ga : Nat → Nat → Int) => c - i) (fun (i : Nat) (Fa : Nat → Nat → Int) (Ga : Nat → Nat → Int) => [qR 2, qI (c : Int), qI (i : Int)]) (fun (i : Nat) (Fa : Nat → Nat → Int) (Ga : Nat → Nat → Int) => (xput h Fa Ga)) (fun (i : Nat) (Fa : Nat → Nat → Int) (Ga : Nat → Nat → Int) => i ≤ c ∧ (∀ a, (a < 56 ∨ 62 < a) → (a < 127 ∨ 159 < a) → Fa a = F a ∧ Ga a = G a) ∧ wgR Fa Ga (bsG n pl f g i) ∧ psR Fa Ga (bsG n pl f g i) (((kbI f i) 25).toNat)) 0 F G (⟨by omega, fun _ _ _ => ⟨rfl, rfl⟩, hW, (by show psR F G g (f 25).toNat; rw [hf, Int.toNat_natCast]; exact hPs)⟩) (fun i Fa Ga hp kk => ?_))
  obtain ⟨hi, hfr, hWa, hPa⟩ := hp
  show qEy M_X11_breaths 32 [qR 2, qI (c : Int), qI (i : Int)] [] (xput h Fa Ga) Q
  have hv1 := bsG_inv (f := f) (c := c) hn hR hP hb hB i hi
  have h25 := kbI_25 (f := f) (by omega) i
  have e11 : (kbG (kbI f i) (bsG n pl f g i)) 11 = (bsG n pl f g i) 11 := kbG_ne (by decide)
  have e7 : (kbG (kbI f i) (bsG n pl f g i)) 7 = g 7 := (kbG_ne (by decide)).trans (hv1.2.2.2 7 (by decide) (by decide) (by decide) (by decide))
  have e25 : (kbG (kbI f i) (bsG n pl f g i)) 25 = g 25 := (kbG_ne (by decide)).trans (hv1.2.2.2 25 (by decide) (by decide) (by decide) (by decide))
  have e26 : (kbG (kbI f i) (bsG n pl f g i)) 26 = g 26 := (kbG_ne (by decide)).trans (hv1.2.2.2 26 (by decide) (by decide) (by decide) (by decide))
  have h162 := rw_at (a := 0) (b := 9999) hR (j := 162) (by decide) rfl rfl
  refine qy (fun _ _ k9 => z_iload_n d_X11_breaths_32 rfl rfl k9) ?_
  refine qy (fun _ _ k9 => z_iload_n d_X11_breaths_33 rfl rfl k9) ?_
  refine qy2 (fun _ _ => z_icmp_ge 61 d_X11_breaths_34 (by decide)) (fun hc3 => ?_) (fun hc3 => ?_)
  · refine qy (fun _ _ k9 => z_aload_n d_X11_breaths_61 rfl rfl k9) ?_
    refine qy (fun _ _ k9 => z_getf (v := qR 3) d_X11_breaths_62 fl_X11_12 (xput_ob (c := (Fa 2)) xi_2 rfl (xsh_11 xo_2)) rfl k9) ?_
    refine qy (fun _ _ k9 => z_getf (v := qR 56) d_X11_breaths_65 fl_X11_66 (xput_ob (c := (Fa 3)) xi_3 rfl (xsh_8 xo_3)) rfl k9) ?_
    refine qy (fun _ _ k9 => z_cv (M1 := M_X10_litCount) d_X11_breaths_68 lv_X11_102 k_X10_litCount [] rfl rfl (xput_ob (c := (Fa 56)) xi_56 rfl (xsh_10 xo_56)) ⟨_, _, rfl⟩ (Nat.le_of_ble_eq_true rfl) (by decide) (by decide) (Nat.le_of_ble_eq_true rfl) (c_wlLit (wl := 56) (n := n) (by decide) xo_56 hWa.1 (wOk_of hv1.1) (by rw [hv1.2.2.1 160 (by decide) (by decide)]; exact hN)) k9) ?_
    exact y_ret (hQ Fa Ga (⟨hfr, (by rw [show i = c by omega] at hWa; exact hWa), (by rw [show i = c by omega] at hPa; exact hPa)⟩)) (z_iret d_X11_breaths_71 rfl (qsi (by rw [show i = c by omega])) rfl)
  · refine qy (fun _ _ k9 => z_aload_n d_X11_breaths_37 rfl rfl k9) ?_
    refine qy (fun _ _ k9 => z_getf (v := qR 127) d_X11_breaths_38 fl_X11_26 (xput_ob (c := (Fa 2)) xi_2 rfl (xsh_11 xo_2)) rfl k9) ?_
    refine qy (fun _ _ k9 => z_aload_n d_X11_breaths_41 rfl rfl k9) ?_
    refine qy (fun _ _ k9 => z_getf (v := qR 3) d_X11_breaths_42 fl_X11_12 (xput_ob (c := (Fa 2)) xi_2 rfl (xsh_11 xo_2)) rfl k9) ?_
    obtain ⟨F1, G1, ⟨hk1, hw1⟩, hx1⟩ := c_keep (h := h) (F := Fa) (G := Ga) (f := (kbI f i)) hWa hPa (by omega) (by have := rw_at (a := 0) (b := 1) hv1.1 (j := 161) (by decide) rfl rfl; omega)
    refine qy (fun _ _ k9 => z_cv0 (M1 := M_X3_keep) d_X11_breaths_45 lv_X11_87 k_X3_keep [qR 3] rfl rfl (xput_ob (c := (Fa 127)) xi_127 rfl (xsh_3 xo_127)) ⟨_, _, rfl⟩ (Nat.le_of_ble_eq_true rfl) (by decide) (by decide) (Nat.le_of_ble_eq_true rfl) hx1 k9) ?_
    refine qy (fun _ _ k9 => z_aload_n d_X11_breaths_48 rfl rfl k9) ?_
    refine qy (fun _ _ k9 => z_getf (v := qR 3) d_X11_breaths_49 fl_X11_12 (xput_ob (c := (F1 2)) xi_2 rfl (xsh_11 xo_2)) rfl k9) ?_
    obtain ⟨F2, G2, ⟨hk2, hw2⟩, hx2⟩ := c_stBreathe (h := h) (F := F1) (G := G1) (n := n) (pl := pl) (g := (kbG (kbI f i) (bsG n pl f g i))) (by rw [e11, hv1.2.2.1 160 (by decide) (by decide)]; exact hN) (by rw [e11]; exact hv1.1) (by rw [e7]; exact hP) ⟨(by rw [xfr_F hk1 (by decide), (hfr 52 (by decide) (by decide)).1]; exact hpR.1), (fun j hj => by rw [xfr_G hk1 (by decide), (hfr 53 (by decide) (by decide)).2, e7]; exact hpR.2.1 j hj), (by rw [e7]; exact hpR.2.2)⟩ (wgR_g (wgR_cg hWa hk1 (by decide)) e11 (kbG_ne (by decide))) (by rw [e11, hv1.2.1]; omega) (by rw [e25]; exact hB) (fun q hq => by rw [xfr_G hk1 (by decide), (hfr 6 (by decide) (by decide)).2, e25]; exact hT q hq) (fun q hq => by rw [xfr_G hk1 (by decide), (hfr 7 (by decide) (by decide)).2, e26]; exact hD q hq)
    refine qy (fun _ _ k9 => z_cv0 (M1 := M_X8_breathe) d_X11_breaths_52 lv_X11_99 k_X8_breathe [] rfl rfl (xput_ob (c := (F1 3)) xi_3 rfl (xsh_8 xo_3)) ⟨_, _, rfl⟩ (Nat.le_of_ble_eq_true rfl) (by decide) (by decide) (Nat.le_of_ble_eq_true rfl) hx2 k9) ?_
    refine qy (fun _ _ k9 => z_iinc (ls' := [qR 2, qI (c : Int), qI ((i : Int) + 1)]) d_X11_breaths_55 rfl (by decide) (by omega) rfl k9) ?_
    refine qy (fun _ _ k9 => z_goto 32 d_X11_breaths_58 (by decide) k9) ?_
    exact qy (fun _ _ k9 => z_eq (qc rfl (qc rfl (qc (qi (by omega)) rfl))) rfl rfl k9) (kk (i + 1) F2 G2 (⟨by omega, fun a h1 h2 => ⟨(xfr_F hk2 h1).trans ((xfr_F hk1 h2).trans (hfr a h1 h2).1), (xfr_G hk2 h1).trans ((xfr_G hk1 h2).trans (hfr a h1 h2).2)⟩, hw2, (by rw [kbI_s (by omega)]; exact psR_cg hw1 (fun a h1 h2 => ⟨xfr_F hk2 (by omega), xfr_G hk2 (by omega)⟩) ((brG_ok (n := n) (pl := pl) (g := (kbG (kbI f i) (bsG n pl f g i))) hn (by rw [e11]; exact hv1.1) (by rw [e7]; exact hP) (by rw [e11, hv1.2.1]; omega) (by rw [e25]; exact hB)).2.2.2 14 (by decide) (by decide) (by decide)))⟩) (by omega))
