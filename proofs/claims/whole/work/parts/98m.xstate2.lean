/-! ===== CONTRACTS: the state: performPlan, breathe ===== -/
theorem wgR_g {F G g g' : Nat → Nat → Int} (h : wgR F G g) (e1 : g' 11 = g 11) (e2 : g' 13 = g 13) : wgR F G g' := by
  unfold wgR
  rw [e1, e2]
  exact h
/-- the plan of the state is the reference's -/
def plR (F G g : Nat → Nat → Int) (pl : Nat) : Prop := F 52 2 = (pl : Int) ∧ (∀ j, j < 4 * pl → G 53 j = g 7 j) ∧ ∀ i, i < pl → becV (g 7 (4 * i + 1)) (g 7 (4 * i + 3)) = g 7 (4 * i + 3)
theorem wlR_tk {F G : Nat → Nat → Int} {N : Nat → Int} {a : Int} (h : wlR F G 56 N) : wlR (gup F 56 (qup (F 56) 8 a)) G 56 (qup N 162 a) := by
  obtain ⟨⟨h1, h2, _, h4, h7, h8⟩, h5, h6⟩ := h
  have e : ∀ j, j ≠ 162 → qup N 162 a j = N j := fun j hj => qup_ne hj
  refine ⟨?_, fun k hk => ?_, fun k hk => ?_⟩
  · rw [gup_eq]
    exact ⟨h1, h2, rfl, h4, h7, h8⟩
  · rw [e k (by omega), e (32 + k) (by omega), e (128 + k) (by omega)]; exact h5 k hk
  · rw [gup_eq, e (64 + k) (by omega), e (96 + k) (by omega)]; exact h6 k hk
theorem wOk_go {n : Nat} {g : Nat → Nat → Int} (h : (∀ j, j < 167 → rwLo j ≤ goG n g 11 j ∧ goG n g 11 j ≤ rwHi j) ∧ goG n g 11 163 ≤ 32 * (g 11 162 + 1)) : wOk (goG n g 11) := by
  refine ⟨fun j hj => h.1 j (by omega), ?_⟩
  have h1 := h.1 163 (by decide)
  rw [show rwLo 163 = 0 from rfl, show rwHi 163 = 319968 from rfl] at h1
  omega
set_option maxRecDepth 20000 in
set_option maxHeartbeats 4000000 in
theorem c_perfPlan {h : qH} {F G : Nat → Nat → Int} {n pl : Nat} {g : Nat → Nat → Int} (hN : g 11 160 = (n : Int)) (hR : rwOk (g 11)) (hP : plOk (g 7) pl) (hpR : plR F G g pl) (hW : wgR F G g) : ∃ F' G', (xfr 56 62 F G F' G' ∧ wgR F' G' (plG g pl)) ∧ qEx M_X8_performPlan 0 [qR 3, qU, qU] [] (xput h F G) none (xput h F' G') := by
  refine x_in (fun Q hQ => ?_)
  have hx52 : xM 52 = 16 := by decide
  have hp16 := hP.1
  refine qy (fun _ _ k9 => z_iconst d_X8_performPlan_0 (by decide) k9) ?_
  refine qy (fun _ _ k9 => z_istore_n (ls' := [qR 3, qI 0, qU]) d_X8_performPlan_1 rfl (by decide) rfl k9) ?_
  refine qy (fun _ _ k9 => z_eq (qc rfl (qc (qi (rfl)) (qc rfl rfl))) rfl rfl k9) (y_wh3 (fun (i : Nat) (Fa : Nat → Nat → Int) (Ga : Nat → Nat → Int) => pl - i) (fun (i : Nat) (Fa : Nat → Nat → Int) (Ga : Nat → Nat → Int) => [qR 3, qI (i : Int), qU]) (fun (i : Nat) (Fa : Nat → Nat → Int) (Ga : Nat → Nat → Int) => (xput h Fa Ga)) (fun (i : Nat) (Fa : Nat → Nat → Int) (Ga : Nat → Nat → Int) => i ≤ pl ∧ xfr 56 62 F G Fa Ga ∧ wgR Fa Ga (plG g i)) 0 F G (⟨by omega, xfr_rf _ _ _ _, hW⟩) (fun i Fa Ga hp kk => ?_))
  obtain ⟨hi, hfr, hWa⟩ := hp
  show qEy M_X8_performPlan 2 [qR 3, qI (i : Int), qU] [] (xput h Fa Ga) Q
  have hinv := plG_inv hR hP i hi
  have e7 : plG g i 7 = g 7 := hinv.2.2 7 (by decide) (by decide)
  have h160 : plG g i 11 160 = g 11 160 := hinv.2.1 160 (by decide) (by decide)
  have h162 : plG g i 11 162 = g 11 162 := hinv.2.1 162 (by decide) (by decide)
  have hQ9 : plQ (plG g i) i ↔ (g 7 (4 * i) = g 11 162 ∧ g 7 (4 * i + 2) < (n : Int)) := by unfold plQ; rw [e7, h162, h160, hN]
  refine qy (fun _ _ k9 => z_iload_n d_X8_performPlan_2 rfl rfl k9) ?_
  refine qy (fun _ _ k9 => z_aload_n d_X8_performPlan_3 rfl rfl k9) ?_
  refine qy (fun _ _ k9 => z_getf (v := qR 52) d_X8_performPlan_4 fl_X8_26 (xput_ob (c := (Fa 3)) xi_3 rfl (xsh_8 xo_3)) rfl k9) ?_
  refine qy (fun _ _ k9 => z_getf (v := qI ((Fa 52) 2)) d_X8_performPlan_7 fl_X8_77 (xput_ob (c := (Fa 52)) xi_52 rfl (xsh_6 xo_52)) rfl k9) ?_
  refine qy (fun _ _ k9 => z_eq rfl (qc (qi ((congrFun (xfr_F hfr (by decide)) 2).trans hpR.1)) rfl) rfl k9) ?_
  refine qy2 (fun _ _ => z_icmp_ge 82 d_X8_performPlan_10 (by decide)) (fun hc1 => ?_) (fun hc1 => ?_)
  · exact y_ret (hQ Fa Ga (⟨hfr, (by rw [show i = pl by omega] at hWa; exact hWa)⟩)) (z_vret d_X8_performPlan_82 rfl rfl rfl)
  · have hPi := hP.2 i (by omega)
    refine qy (fun _ _ k9 => z_aload_n d_X8_performPlan_13 rfl rfl k9) ?_
    refine qy (fun _ _ k9 => z_getf (v := qR 52) d_X8_performPlan_14 fl_X8_26 (xput_ob (c := (Fa 3)) xi_3 rfl (xsh_8 xo_3)) rfl k9) ?_
    refine qy (fun _ _ k9 => z_iload_n d_X8_performPlan_17 rfl rfl k9) ?_
    refine qy (fun _ _ k9 => z_iconst d_X8_performPlan_18 (by decide) k9) ?_
    refine qy (fun _ _ k9 => z_cv (M1 := M_X6_cell) d_X8_performPlan_19 lv_X8_80 k_X6_cell [qI (i : Int), qI 2] rfl rfl (xput_ob (c := (Fa 52)) xi_52 rfl (xsh_6 xo_52)) ⟨_, _, rfl⟩ (Nat.le_of_ble_eq_true rfl) (by decide) (by decide) (Nat.le_of_ble_eq_true rfl) (c_rwC (q := 52) (L := pl) i 2 (by decide) xo_52 (by rw [xfr_F hfr (by decide)]; exact hpR.1) (by rw [hx52]; exact hP.1) (by omega) (by decide)) k9) ?_
    refine qy (fun _ _ k9 => z_eq rfl (qc (qi (show (Ga 53 (4 * i + 2)) = (((g 7 (4 * i + 2)).toNat : Nat) : Int) from by rw [xfr_G hfr (by decide), hpR.2.1 _ (by omega)]; omega)) rfl) rfl k9) ?_
    refine qy (fun _ _ k9 => z_istore_n (ls' := [qR 3, qI (i : Int), qI (((g 7 (4 * i + 2)).toNat : Nat) : Int)]) d_X8_performPlan_22 rfl (by decide) rfl k9) ?_
    refine qy (fun _ _ k9 => z_aload_n d_X8_performPlan_23 rfl rfl k9) ?_
    refine qy (fun _ _ k9 => z_getf (v := qR 52) d_X8_performPlan_24 fl_X8_26 (xput_ob (c := (Fa 3)) xi_3 rfl (xsh_8 xo_3)) rfl k9) ?_
    refine qy (fun _ _ k9 => z_iload_n d_X8_performPlan_27 rfl rfl k9) ?_
    refine qy (fun _ _ k9 => z_iconst d_X8_performPlan_28 (by decide) k9) ?_
    refine qy (fun _ _ k9 => z_cv (M1 := M_X6_cell) d_X8_performPlan_29 lv_X8_80 k_X6_cell [qI (i : Int), qI 0] rfl rfl (xput_ob (c := (Fa 52)) xi_52 rfl (xsh_6 xo_52)) ⟨_, _, rfl⟩ (Nat.le_of_ble_eq_true rfl) (by decide) (by decide) (Nat.le_of_ble_eq_true rfl) (c_rwC (q := 52) (L := pl) i 0 (by decide) xo_52 (by rw [xfr_F hfr (by decide)]; exact hpR.1) (by rw [hx52]; exact hP.1) (by omega) (by decide)) k9) ?_
    refine qy (fun _ _ k9 => z_eq rfl (qc (qi (show (Ga 53 (4 * i)) = (g 7 (4 * i)) from by rw [xfr_G hfr (by decide)]; exact hpR.2.1 _ (by omega))) rfl) rfl k9) ?_
    refine qy (fun _ _ k9 => z_aload_n d_X8_performPlan_32 rfl rfl k9) ?_
    refine qy (fun _ _ k9 => z_getf (v := qR 56) d_X8_performPlan_33 fl_X8_36 (xput_ob (c := (Fa 3)) xi_3 rfl (xsh_8 xo_3)) rfl k9) ?_
    refine qy (fun _ _ k9 => z_getf (v := qI ((Fa 56) 8)) d_X8_performPlan_36 fl_X8_60 (xput_ob (c := (Fa 56)) xi_56 rfl (xsh_10 xo_56)) rfl k9) ?_
    refine qy (fun _ _ k9 => z_eq rfl (qc (qi (hWa.1.1.2.2.1.trans h162)) rfl) rfl k9) ?_
    refine qy2 (fun _ _ => z_icmp_ne 76 d_X8_performPlan_39 (by decide)) (fun q39 => ?_) (fun q39 => ?_)
    · refine qy (fun _ _ k9 => z_iinc (ls' := [qR 3, qI ((i : Int) + 1), qI (((g 7 (4 * i + 2)).toNat : Nat) : Int)]) d_X8_performPlan_76 rfl (by decide) (by omega) rfl k9) ?_
      refine qy (fun _ _ k9 => z_goto 2 d_X8_performPlan_79 (by decide) k9) ?_
      exact qy (fun _ _ k9 => z_dr (qle_k rfl (qle_k (qi (by omega)) (qle_d qle_n))) rfl rfl k9) (kk (i + 1) Fa Ga (⟨by omega, hfr, (by rw [show plG g (i + 1) = plG g i from qif_f (fun z => (by have z2 := hQ9.mp z; exact q39 z2.1))]; exact hWa)⟩) (by omega))
    · refine qy (fun _ _ k9 => z_aload_n d_X8_performPlan_42 rfl rfl k9) ?_
      refine qy (fun _ _ k9 => z_getf (v := qR 56) d_X8_performPlan_43 fl_X8_36 (xput_ob (c := (Fa 3)) xi_3 rfl (xsh_8 xo_3)) rfl k9) ?_
      refine qy (fun _ _ k9 => z_iload_n d_X8_performPlan_46 rfl rfl k9) ?_
      refine qy (fun _ _ k9 => z_cv (M1 := M_X10_has) d_X8_performPlan_47 lv_X8_84 k_X10_has [qI (((g 7 (4 * i + 2)).toNat : Nat) : Int)] rfl rfl (xput_ob (c := (Fa 56)) xi_56 rfl (xsh_10 xo_56)) ⟨_, _, rfl⟩ (Nat.le_of_ble_eq_true rfl) (by decide) (by decide) (Nat.le_of_ble_eq_true rfl) (c_wlHas (wl := 56) (n := n) (((g 7 (4 * i + 2)).toNat : Nat) : Int) (by decide) xo_56 hWa.1 (wOk_of hinv.1) (h160.trans hN)) k9) ?_
      refine qy2n (fun _ _ => z_ifeqB 76 d_X8_performPlan_50 (by decide)) (fun q50 => ?_) (fun q50 => ?_)
      · refine qy (fun _ _ k9 => z_iinc (ls' := [qR 3, qI ((i : Int) + 1), qI (((g 7 (4 * i + 2)).toNat : Nat) : Int)]) d_X8_performPlan_76 rfl (by decide) (by omega) rfl k9) ?_
        refine qy (fun _ _ k9 => z_goto 2 d_X8_performPlan_79 (by decide) k9) ?_
        exact qy (fun _ _ k9 => z_dr (qle_k rfl (qle_k (qi (by omega)) (qle_d qle_n))) rfl rfl k9) (kk (i + 1) Fa Ga (⟨by omega, hfr, (by rw [show plG g (i + 1) = plG g i from qif_f (fun z => (by have z2 := hQ9.mp z; exact q50 (by omega)))]; exact hWa)⟩) (by omega))
      · refine qy (fun _ _ k9 => z_aload_n d_X8_performPlan_53 rfl rfl k9) ?_
        refine qy (fun _ _ k9 => z_aload_n d_X8_performPlan_54 rfl rfl k9) ?_
        refine qy (fun _ _ k9 => z_getf (v := qR 52) d_X8_performPlan_55 fl_X8_26 (xput_ob (c := (Fa 3)) xi_3 rfl (xsh_8 xo_3)) rfl k9) ?_
        refine qy (fun _ _ k9 => z_iload_n d_X8_performPlan_58 rfl rfl k9) ?_
        refine qy (fun _ _ k9 => z_iconst d_X8_performPlan_59 (by decide) k9) ?_
        refine qy (fun _ _ k9 => z_cv (M1 := M_X6_cell) d_X8_performPlan_60 lv_X8_80 k_X6_cell [qI (i : Int), qI 1] rfl rfl (xput_ob (c := (Fa 52)) xi_52 rfl (xsh_6 xo_52)) ⟨_, _, rfl⟩ (Nat.le_of_ble_eq_true rfl) (by decide) (by decide) (Nat.le_of_ble_eq_true rfl) (c_rwC (q := 52) (L := pl) i 1 (by decide) xo_52 (by rw [xfr_F hfr (by decide)]; exact hpR.1) (by rw [hx52]; exact hP.1) (by omega) (by decide)) k9) ?_
        refine qy (fun _ _ k9 => z_eq rfl (qc (qi (show (Ga 53 (4 * i + 1)) = (g 7 (4 * i + 1)) from by rw [xfr_G hfr (by decide)]; exact hpR.2.1 _ (by omega))) rfl) rfl k9) ?_
        refine qy (fun _ _ k9 => z_iload_n d_X8_performPlan_63 rfl rfl k9) ?_
        refine qy (fun _ _ k9 => z_aload_n d_X8_performPlan_64 rfl rfl k9) ?_
        refine qy (fun _ _ k9 => z_getf (v := qR 52) d_X8_performPlan_65 fl_X8_26 (xput_ob (c := (Fa 3)) xi_3 rfl (xsh_8 xo_3)) rfl k9) ?_
        refine qy (fun _ _ k9 => z_iload_n d_X8_performPlan_68 rfl rfl k9) ?_
        refine qy (fun _ _ k9 => z_iconst d_X8_performPlan_69 (by decide) k9) ?_
        refine qy (fun _ _ k9 => z_cv (M1 := M_X6_cell) d_X8_performPlan_70 lv_X8_80 k_X6_cell [qI (i : Int), qI 3] rfl rfl (xput_ob (c := (Fa 52)) xi_52 rfl (xsh_6 xo_52)) ⟨_, _, rfl⟩ (Nat.le_of_ble_eq_true rfl) (by decide) (by decide) (Nat.le_of_ble_eq_true rfl) (c_rwC (q := 52) (L := pl) i 3 (by decide) xo_52 (by rw [xfr_F hfr (by decide)]; exact hpR.1) (by rw [hx52]; exact hP.1) (by omega) (by decide)) k9) ?_
        refine qy (fun _ _ k9 => z_eq rfl (qc (qi (show (Ga 53 (4 * i + 3)) = (g 7 (4 * i + 3)) from by rw [xfr_G hfr (by decide)]; exact hpR.2.1 _ (by omega))) rfl) rfl k9) ?_
        obtain ⟨F1, G1, ⟨hv1, hw1⟩, hx1⟩ := c_perform (h := h) (F := Fa) (G := Ga) (g := plG g i) (g 7 (4 * i + 1)) (g 7 (4 * i + 2)).toNat (g 7 (4 * i + 3)) hWa (by omega) (rw_at (a := 0) (b := 150) hinv.1 (j := 166) (by decide) rfl rfl) hPi.1.1 (hpR.2.2 i (by omega))
        refine qy (fun _ _ k9 => z_cv0 (M1 := M_X8_perform) d_X8_performPlan_73 lv_X8_88 k_X8_perform [qI (g 7 (4 * i + 1)), qI (((g 7 (4 * i + 2)).toNat : Nat) : Int), qI (g 7 (4 * i + 3))] rfl rfl (xput_ob (c := (Fa 3)) xi_3 rfl (xsh_8 xo_3)) ⟨_, _, rfl⟩ (Nat.le_of_ble_eq_true rfl) (by decide) (by decide) (Nat.le_of_ble_eq_true rfl) hx1 k9) ?_
        refine qy (fun _ _ k9 => z_iinc (ls' := [qR 3, qI ((i : Int) + 1), qI (((g 7 (4 * i + 2)).toNat : Nat) : Int)]) d_X8_performPlan_76 rfl (by decide) (by omega) rfl k9) ?_
        refine qy (fun _ _ k9 => z_goto 2 d_X8_performPlan_79 (by decide) k9) ?_
        exact qy (fun _ _ k9 => z_dr (qle_k rfl (qle_k (qi (by omega)) (qle_d qle_n))) rfl rfl k9) (kk (i + 1) F1 G1 (⟨by omega, xfr_tr hfr hv1, (by rw [show plG g (i + 1) = becG (plG g i) (g 7 (4 * i + 1)) (g 7 (4 * i + 2)).toNat (g 7 (4 * i + 3)) from (qif_t (hQ9.mpr ⟨Classical.not_not.mp q39, by omega⟩)).trans (by rw [e7])]; exact hw1)⟩) (by omega))
set_option maxRecDepth 20000 in
set_option maxHeartbeats 4000000 in
theorem c_stBreathe {h : qH} {F G : Nat → Nat → Int} {n pl : Nat} {g : Nat → Nat → Int} (hN : g 11 160 = (n : Int)) (hR : rwOk (g 11)) (hP : plOk (g 7) pl) (hpR : plR F G g pl) (hW : wgR F G g) (hb : g 11 162 ≤ 9998) (hB : ∀ c, c < 648 → 0 ≤ g 25 c ∧ g 25 c ≤ 7) (hT : ∀ c, c < 648 → G 6 c = g 25 c) (hD : ∀ c, c < 648 → G 7 c = g 26 c) : ∃ F' G', (xfr 56 62 F G F' G' ∧ wgR F' G' (brG n pl g)) ∧ qEx M_X8_breathe 0 [qR 3] [] (xput h F G) none (xput h F' G') := by
  refine x_in (fun Q hQ => ?_)
  have hinv := plG_inv hR hP pl (Nat.le_refl _)
  have h160 : (plG g pl) 11 160 = g 11 160 := hinv.2.1 160 (by decide) (by decide)
  have h162 : (plG g pl) 11 162 = g 11 162 := hinv.2.1 162 (by decide) (by decide)
  have e25 : (plG g pl) 25 = g 25 := hinv.2.2 25 (by decide) (by decide)
  have e26 : (plG g pl) 26 = g 26 := hinv.2.2 26 (by decide) (by decide)
  have hn : n ≤ 32 := by have := wOk_n (wOk_of hR); omega
  have hgo := goG_ok hn hinv.1 (by rw [h162]; exact hb) (by rw [e25]; exact hB)
  have hgh : ∀ j, 64 ≤ j → j ≠ 163 → goG n (plG g pl) 11 j = (plG g pl) 11 j := fun j h1 h2 => by unfold goG; rw [gup_eq, qup_ne h2]; unfold rmv; rw [if_neg (by omega), if_neg (by omega)]
  have hN2 : goG n (plG g pl) 11 160 = (n : Int) := by rw [hgh 160 (by decide) (by decide), h160]; exact hN
  have hL2 : 0 ≤ goG n (plG g pl) 11 166 ∧ goG n (plG g pl) 11 166 ≤ 150 := by rw [hgh 166 (by decide) (by decide)]; exact rw_at (a := 0) (b := 150) hinv.1 (j := 166) (by decide) rfl rfl
  have hb3 : ffG n (goG n (plG g pl)) 11 162 = g 11 162 := by
    rw [← h162, ← hgh 162 (by decide) (by decide)]
    unfold ffG
    by_cases z : goG n (plG g pl) 11 164 = -1 ∧ cnt (fun k => goG n (plG g pl) 11 k = 7) n > 0
    · rw [qif_t z, logG_at (by decide), gup_eq, qup_ne (by decide), qup_ne (by decide)]
    · rw [qif_f z]
  refine qy (fun _ _ k9 => z_aload_n d_X8_breathe_0 rfl rfl k9) ?_
  obtain ⟨F1, G1, ⟨hv1, hw1⟩, hx1⟩ := c_perfPlan (h := h) (F := F) (G := G) hN hR hP hpR hW
  refine qy (fun _ _ k9 => z_cv0 (M1 := M_X8_performPlan) d_X8_breathe_1 lv_X8_68 k_X8_performPlan [] rfl rfl (xput_ob (c := (F 3)) xi_3 rfl (xsh_8 xo_3)) ⟨_, _, rfl⟩ (Nat.le_of_ble_eq_true rfl) (by decide) (by decide) (Nat.le_of_ble_eq_true rfl) hx1 k9) ?_
  refine qy (fun _ _ k9 => z_aload_n d_X8_breathe_4 rfl rfl k9) ?_
  refine qy (fun _ _ k9 => z_getf (v := qR 56) d_X8_breathe_5 fl_X8_36 (xput_ob (c := (F1 3)) xi_3 rfl (xsh_8 xo_3)) rfl k9) ?_
  refine qy (fun _ _ k9 => z_aload_n d_X8_breathe_8 rfl rfl k9) ?_
  refine qy (fun _ _ k9 => z_getf (v := qR 4) d_X8_breathe_9 fl_X8_12 (xput_ob (c := (F1 3)) xi_3 rfl (xsh_8 xo_3)) rfl k9) ?_
  obtain ⟨F2, G2, ⟨hv2, hw2⟩, hx2⟩ := c_wlGo (h := h) (F := F1) (G := G1) (wl := 56) (b := 4) (n := n) (N := (plG g pl) 11) (T := g 25) (D := g 26) (by decide) xo_56 (by decide) xo_4 (by decide) (fun c hc => by rw [xfr_G hv1 (by decide)]; exact hT c hc) (fun c hc => by rw [xfr_G hv1 (by decide)]; exact hD c hc) hw1.1 (wOk_of hinv.1) (h160.trans hN) (by have := rw_at (a := 0) (b := 319968) hinv.1 (j := 163) (by decide) rfl rfl; omega)
  refine qy (fun _ _ k9 => z_cv0 (M1 := M_X10_goOn) d_X8_breathe_12 lv_X8_71 k_X10_goOn [qR 4] rfl rfl (xput_ob (c := (F1 56)) xi_56 rfl (xsh_10 xo_56)) ⟨_, _, rfl⟩ (Nat.le_of_ble_eq_true rfl) (by decide) (by decide) (Nat.le_of_ble_eq_true rfl) hx2 k9) ?_
  have hW2 : wgR F2 G2 (goG n (plG g pl)) := wgR_g (g := gup (plG g pl) 11 (qup (rmv (g 25) ((plG g pl) 11) n n) 163 ((plG g pl) 11 163 + cnt (rdc (g 26) ((plG g pl) 11) n) n))) (wgR_w hw1 hv2 hw2 (by rw [qup_ne (by decide)]; unfold rmv; rw [if_neg (by omega), if_neg (by omega)])) (by unfold goG; rw [gup_eq, gup_eq, e25, e26]) (by unfold goG; rw [gup_ne (by decide), gup_ne (by decide), gup_ne (by decide)])
  refine qy (fun _ _ k9 => z_aload_n d_X8_breathe_15 rfl rfl k9) ?_
  obtain ⟨F3, G3, ⟨hv3, hw3⟩, hx3⟩ := c_noteFire (h := h) (F := F2) (G := G2) (n := n) (g := goG n (plG g pl)) hW2 (wOk_go hgo) hN2 hn hL2
  refine qy (fun _ _ k9 => z_cv0 (M1 := M_X8_noteFirstFire) d_X8_breathe_16 lv_X8_74 k_X8_noteFirstFire [] rfl rfl (xput_ob (c := (F2 3)) xi_3 rfl (xsh_8 xo_3)) ⟨_, _, rfl⟩ (Nat.le_of_ble_eq_true rfl) (by decide) (by decide) (Nat.le_of_ble_eq_true rfl) hx3 k9) ?_
  refine qy (fun _ _ k9 => z_aload_n d_X8_breathe_19 rfl rfl k9) ?_
  refine qy (fun _ _ k9 => z_getf (v := qR 56) d_X8_breathe_20 fl_X8_36 (xput_ob (c := (F3 3)) xi_3 rfl (xsh_8 xo_3)) rfl k9) ?_
  refine qy (fun _ _ k9 => z_dup d_X8_breathe_23 rfl k9) ?_
  refine qy (fun _ _ k9 => z_getf (v := qI ((F3 56) 8)) d_X8_breathe_24 fl_X8_60 (xput_ob (c := (F3 56)) xi_56 rfl (xsh_10 xo_56)) rfl k9) ?_
  refine qy (fun _ _ k9 => z_eq rfl (qc (qi (show ((F3 56) 8) = (ffG n (goG n (plG g pl)) 11 162) from hw3.1.1.2.2.1)) rfl) rfl k9) ?_
  have h0b := rw_at (a := 0) (b := 9999) hR (j := 162) (by decide) rfl rfl
  refine qy (fun _ _ k9 => z_iconst d_X8_breathe_27 (by decide) k9) ?_
  refine qy (fun _ _ k9 => z_iadd d_X8_breathe_28 (by omega) k9) ?_
  refine qy (fun _ _ k9 => z_putf (fs' := [qI ((F3 56) 0), qI ((F3 56) 1), qR 57, qR 58, qR 59, qR 60, qI ((F3 56) 6), qI ((F3 56) 7), qI ((ffG n (goG n (plG g pl)) 11 162) + 1), qI ((F3 56) 9), qI ((F3 56) 10), qI ((F3 56) 11)]) d_X8_breathe_29 fp_X8_60 (xput_ob (c := (F3 56)) xi_56 rfl (xsh_10 xo_56)) (fun _ => rfl) (fun _ => rfl) (Nat.le_of_ble_eq_true rfl) rfl k9) ?_
  refine qy (fun _ _ k9 => z_eq rfl rfl (xput_sf (c := (qup (F3 56) 8 ((ffG n (goG n (plG g pl)) 11 162) + 1))) xi_56 (xsh_10 xo_56)) k9) ?_
  exact y_ret (hQ (gup F3 56 (qup (F3 56) 8 ((ffG n (goG n (plG g pl)) 11 162) + 1))) G3 (⟨xfr_f (xfr_tr (xfr_tr hv1 (xfr_wd hv2 (by decide) (by decide))) hv3) (by decide) (by decide), (by unfold brG tkG; exact wgR_w hw3 (xfr_f (xfr_rf _ _ _ _) (by decide) (by decide)) (wlR_tk hw3.1) (qup_ne (by decide)))⟩)) (z_vret d_X8_breathe_32 rfl rfl rfl)
