/-! ===== CONTRACTS: heard: spreadFrom, knowersBehind ===== -/
theorem hrX_eq {N H : Nat → Int} {n i d : Nat} (h : hrX N n H i d i = H i) : hrX N n H i d = H := by
  by_cases e : hrT N n d i ≠ -1 ∧ N (64 + i) = 0
  · rw [hrX_t e.1 e.2] at h ⊢
    rw [qup_eq] at h
    exact qup_self h.symm
  · exact hrX_f e
theorem hrR_fin {N : Nat → Int} {n r m : Nat} {k : Int} (h1 : 1 ≤ r) (h : hrR N n k r = hrR N n k (r - 1)) (hr : r ≤ m) : hrR N n k r = hrR N n k m := by
  obtain ⟨q, rfl⟩ : ∃ q, r = q + 1 := ⟨r - 1, by omega⟩
  have e := hrR_st h (m - q)
  rw [show q + (m - q) = m by omega] at e
  rw [e]; exact h
theorem kbm_0 {N : Nat → Int} {n k j : Nat} : kbm (hrR N n (k : Int) 0) j = if j = k then 0 else -1 := by
  unfold kbm
  have e : hrR N n (k : Int) 0 j = qif ((j : Int) ≠ (k : Int)) 999 0 := rfl
  by_cases z : j = k
  · have e2 : hrR N n (k : Int) 0 j = 0 := e.trans (qif_f (fun y => y (by omega)))
    rw [e2, if_pos z, qif_t (by decide)]
  · have e2 : hrR N n (k : Int) 0 j = 999 := e.trans (qif_t (by omega))
    rw [e2, if_neg z, qif_f (by decide)]
theorem kbm_in {H : Nat → Int} {t : Int} {j : Nat} (h0 : 0 ≤ H j) (ht : t ≤ 200) : (0 ≤ kbm H j ∧ kbm H j ≤ t) ↔ H j ≤ t := by
  unfold kbm
  by_cases e : H j < 999
  · rw [qif_t e]; omega
  · rw [qif_f e]; omega
set_option maxRecDepth 20000 in
set_option maxHeartbeats 4000000 in
theorem c_spread {h : qH} {F G : Nat → Nat → Int} {n k : Nat} {N : Nat → Int} (hW : wlR F G 56 N) (hO : wOk N) (hN : N 160 = (n : Int)) (hn : n ≤ 32) (hD : ∀ j, j < 32 → 0 ≤ N (64 + j) ∧ N (64 + j) ≤ 1) (hL : ∀ j, j < 32 → 0 ≤ N (96 + j) ∧ N (96 + j) ≤ 1) (hk : k < n) : ∃ F' G', (F' = F ∧ (∀ a, a ≠ 219 → G' a = G a) ∧ ∀ j, j < n → G' 219 j = kbm (hrR N n (k : Int) n) j) ∧ qEx M_X11_spreadFrom 0 [qR 2, qI (k : Int), qU, qU, qU, qU, qU, qU] [] (xput h F G) none (xput h F' G') := by
  refine x_in (fun Q hQ => ?_)
  refine qy (fun _ _ k9 => z_aload_n d_X11_spreadFrom_0 rfl rfl k9) ?_
  refine qy (fun _ _ k9 => z_getf (v := qR 3) d_X11_spreadFrom_1 fl_X11_12 (xput_ob (c := (F 2)) xi_2 rfl (xsh_11 xo_2)) rfl k9) ?_
  refine qy (fun _ _ k9 => z_getf (v := qR 56) d_X11_spreadFrom_4 fl_X11_66 (xput_ob (c := (F 3)) xi_3 rfl (xsh_8 xo_3)) rfl k9) ?_
  refine qy (fun _ _ k9 => z_astore_n (ls' := [qR 2, qI (k : Int), qR 56, qU, qU, qU, qU, qU]) d_X11_spreadFrom_7 rfl (by decide) rfl k9) ?_
  refine qy (fun _ _ k9 => z_aload_n d_X11_spreadFrom_8 rfl rfl k9) ?_
  refine qy (fun _ _ k9 => z_getf (v := qR 219) d_X11_spreadFrom_9 fl_X11_58 (xput_ob (c := (F 2)) xi_2 rfl (xsh_11 xo_2)) rfl k9) ?_
  refine qy (fun _ _ k9 => z_iconst d_X11_spreadFrom_12 (by decide) k9) ?_
  refine qy (fun _ _ k9 => z_cs0 (M1 := M_J7_fill_53178) d_X11_spreadFrom_13 ls_X11_412 k_J7_fill_53178 [qR 219, qI (-1)] rfl rfl (Nat.le_of_ble_eq_true rfl) (by decide) (by decide) (Nat.le_of_ble_eq_true rfl) (c_fill (xput_ar (g := (G 219)) xa_219 rfl) (by decide) (by decide)) k9) ?_
  refine qy (fun _ _ k9 => z_eq rfl rfl (xput_sa xa_219) k9) ?_
  refine qy (fun _ _ k9 => z_aload_n d_X11_spreadFrom_16 rfl rfl k9) ?_
  refine qy (fun _ _ k9 => z_getf (v := qR 219) d_X11_spreadFrom_17 fl_X11_58 (xput_ob (c := (F 2)) xi_2 rfl (xsh_11 xo_2)) rfl k9) ?_
  refine qy (fun _ _ k9 => z_iload_n d_X11_spreadFrom_20 rfl rfl k9) ?_
  refine qy (fun _ _ k9 => z_iconst d_X11_spreadFrom_21 (by decide) k9) ?_
  refine qy (fun _ _ k9 => z_ist k d_X11_spreadFrom_22 (xput_ar (g := (qmx 32 (fun _ => (-1)) (G 219))) xa_219 rfl) (by omega) rfl (by omega) k9) ?_
  refine qy (fun _ _ k9 => z_eq rfl rfl ((xput_sa xa_219).trans (xput_cg rfl (gup_gup _ _ _))) k9) ?_
  refine qy (fun _ _ k9 => z_iconst d_X11_spreadFrom_23 (by decide) k9) ?_
  refine qy (fun _ _ k9 => z_istore_n (ls' := [qR 2, qI (k : Int), qR 56, qI 1, qU, qU, qU, qU]) d_X11_spreadFrom_24 rfl (by decide) rfl k9) ?_
  refine qy (fun _ _ k9 => z_iconst d_X11_spreadFrom_25 (by decide) k9) ?_
  refine qy (fun _ _ k9 => z_istore (ls' := [qR 2, qI (k : Int), qR 56, qI 1, qI 0, qU, qU, qU]) d_X11_spreadFrom_26 (by decide) rfl k9) ?_
  refine qy (fun _ _ k9 => z_eq (qc rfl (qc rfl (qc rfl (qc (qi (rfl)) (qc (qi (rfl)) (qc rfl (qc rfl (qc rfl rfl)))))))) rfl rfl k9) (y_wh3 (fun (r : Nat) (c : Int) (Ga : Nat → Nat → Int) => n - r) (fun (r : Nat) (c : Int) (Ga : Nat → Nat → Int) => [qR 2, qI (k : Int), qR 56, qI c, qI (r : Int), qU, qU, qU]) (fun (r : Nat) (c : Int) (Ga : Nat → Nat → Int) => (xput h F Ga)) (fun (r : Nat) (c : Int) (Ga : Nat → Nat → Int) => r ≤ n ∧ (c = 0 ∨ c = 1) ∧ (∀ a, a ≠ 219 → Ga a = G a) ∧ (∀ j, j < n → Ga 219 j = kbm (hrR N n (k : Int) r) j) ∧ (c = 0 → 1 ≤ r ∧ hrR N n (k : Int) r = hrR N n (k : Int) (r - 1))) 0 1 (gup G 219 (qup (qmx 32 (fun _ => -1) (G 219)) k 0)) (⟨by omega, Or.inr rfl, fun a ha => gup_ne ha, fun j hj => (by rw [gup_eq, kbm_0]; by_cases z : j = k; (rw [z, qup_eq, if_pos rfl]); (rw [qup_ne z, qmx_lt (by omega), if_neg z])), fun z => absurd z (by decide)⟩) (fun r c Ga hp kk => ?_))
  obtain ⟨hr, hc, hfr, hka, hz⟩ := hp
  show qEy M_X11_spreadFrom 28 [qR 2, qI (k : Int), qR 56, qI c, qI (r : Int), qU, qU, qU] [] (xput h F Ga) Q
  refine qy (fun _ _ k9 => z_iload d_X11_spreadFrom_28 rfl k9) ?_
  refine qy (fun _ _ k9 => z_aload_n d_X11_spreadFrom_30 rfl rfl k9) ?_
  refine qy (fun _ _ k9 => z_getf (v := qI ((F 56) 0)) d_X11_spreadFrom_31 fl_X11_159 (xput_ob (c := (F 56)) xi_56 rfl (xsh_10 xo_56)) rfl k9) ?_
  refine qy (fun _ _ k9 => z_eq rfl (qc (qi (hW.1.1.trans hN)) rfl) rfl k9) ?_
  refine qy2 (fun _ _ => z_icmp_ge 115 d_X11_spreadFrom_34 (by decide)) (fun q34 => ?_) (fun q34 => ?_)
  · exact y_ret (hQ F Ga (⟨rfl, hfr, fun j hj => (by rw [hka j hj, show r = n by omega])⟩)) (z_vret d_X11_spreadFrom_115 rfl rfl rfl)
  · refine qy (fun _ _ k9 => z_iload_n d_X11_spreadFrom_37 rfl rfl k9) ?_
    refine qy2 (fun _ _ => z_if_eq 115 d_X11_spreadFrom_38 (by decide)) (fun q38 => ?_) (fun q38 => ?_)
    · exact y_ret (hQ F Ga (⟨rfl, hfr, fun j hj => (by obtain ⟨z1, z2⟩ := hz (by omega); rw [hka j hj, hrR_fin z1 z2 hr])⟩)) (z_vret d_X11_spreadFrom_115 rfl rfl rfl)
    · refine qy (fun _ _ k9 => z_iconst d_X11_spreadFrom_41 (by decide) k9) ?_
      refine qy (fun _ _ k9 => z_istore_n (ls' := [qR 2, qI (k : Int), qR 56, qI 0, qI (r : Int), qU, qU, qU]) d_X11_spreadFrom_42 rfl (by decide) rfl k9) ?_
      refine qy (fun _ _ k9 => z_iconst d_X11_spreadFrom_43 (by decide) k9) ?_
      refine qy (fun _ _ k9 => z_istore (ls' := [qR 2, qI (k : Int), qR 56, qI 0, qI (r : Int), qI 0, qU, qU]) d_X11_spreadFrom_44 (by decide) rfl k9) ?_
      refine qy (fun _ _ k9 => z_eq (qc rfl (qc rfl (qc rfl (qc (qi (rfl)) (qc rfl (qc (qi (rfl)) (qc rfl (qc rfl rfl)))))))) rfl rfl k9) (y_wh3 (fun (i : Nat) (c2 : Int) (Gb : Nat → Nat → Int) => n - i) (fun (i : Nat) (c2 : Int) (Gb : Nat → Nat → Int) => [qR 2, qI (k : Int), qR 56, qI c2, qI (r : Int), qI (i : Int), qU, qU]) (fun (i : Nat) (c2 : Int) (Gb : Nat → Nat → Int) => (xput h F Gb)) (fun (i : Nat) (c2 : Int) (Gb : Nat → Nat → Int) => i ≤ n ∧ (c2 = 0 ∨ c2 = 1) ∧ (∀ a, a ≠ 219 → Gb a = G a) ∧ (∀ j, j < n → Gb 219 j = kbm (hrS N n (hrR N n (k : Int) r) i) j) ∧ (c2 = 0 → hrS N n (hrR N n (k : Int) r) i = (hrR N n (k : Int) r))) 0 0 Ga (⟨by omega, Or.inl rfl, hfr, hka, fun _ => rfl⟩) (fun i c2 Gb hpi kki => ?_))
      obtain ⟨hi, hc2, hfb, hkb, hz2⟩ := hpi
      show qEy M_X11_spreadFrom 46 [qR 2, qI (k : Int), qR 56, qI c2, qI (r : Int), qI (i : Int), qU, qU] [] (xput h F Gb) Q
      refine qy (fun _ _ k9 => z_iload d_X11_spreadFrom_46 rfl k9) ?_
      refine qy (fun _ _ k9 => z_aload_n d_X11_spreadFrom_48 rfl rfl k9) ?_
      refine qy (fun _ _ k9 => z_getf (v := qI ((F 56) 0)) d_X11_spreadFrom_49 fl_X11_159 (xput_ob (c := (F 56)) xi_56 rfl (xsh_10 xo_56)) rfl k9) ?_
      refine qy (fun _ _ k9 => z_eq rfl (qc (qi (hW.1.1.trans hN)) rfl) rfl k9) ?_
      refine qy2 (fun _ _ => z_icmp_ge 109 d_X11_spreadFrom_52 (by decide)) (fun hc1 => ?_) (fun hc1 => ?_)
      · refine qy (fun _ _ k9 => z_iinc (ls' := [qR 2, qI (k : Int), qR 56, qI c2, qI ((r : Int) + 1), qI (i : Int), qU, qU]) d_X11_spreadFrom_109 rfl (by decide) (by omega) rfl k9) ?_
        refine qy (fun _ _ k9 => z_goto 28 d_X11_spreadFrom_112 (by decide) k9) ?_
        exact qy (fun _ _ k9 => z_dr (qle_k rfl (qle_k rfl (qle_k rfl (qle_k rfl (qle_k (qi (by omega)) (qle_d (qle_k rfl (qle_k rfl qle_n)))))))) rfl rfl k9) (kk (r + 1) c2 Gb (⟨by omega, hc2, hfb, fun j hj => (by rw [hkb j hj, show i = n by omega]; rfl), fun z => ⟨by omega, (by have e := hz2 z; rw [show i = n by omega] at e; exact e)⟩⟩) (by omega))
      · refine qy (fun _ _ k9 => z_aload_n d_X11_spreadFrom_55 rfl rfl k9) ?_
        refine qy (fun _ _ k9 => z_iload d_X11_spreadFrom_56 rfl k9) ?_
        refine qy (fun _ _ k9 => z_aload_n d_X11_spreadFrom_58 rfl rfl k9) ?_
        refine qy (fun _ _ k9 => z_iload d_X11_spreadFrom_59 rfl k9) ?_
        refine qy (fun _ _ k9 => z_cv (M1 := M_X10_keeperSeenLeft) d_X11_spreadFrom_61 lv_X11_417 k_X10_keeperSeenLeft [qI (i : Int)] rfl rfl (xput_ob (c := (F 56)) xi_56 rfl (xsh_10 xo_56)) ⟨_, _, rfl⟩ (Nat.le_of_ble_eq_true rfl) (by decide) (by decide) (Nat.le_of_ble_eq_true rfl) (c_wlSeenL (wl := 56) i (by decide) xo_56 (wlR_cg hW rfl (hfb _ (by decide)) (hfb _ (by decide)) (hfb _ (by decide))) hO hN (by omega)) k9) ?_
        obtain ⟨F1, G1, ⟨he1, hv1, hw1⟩, hx1⟩ := c_hears (h := h) (F := F) (G := Gb) (i := i) (d := 0) (H := (hrS N n (hrR N n (k : Int) r) i)) (wlR_cg hW rfl (hfb _ (by decide)) (hfb _ (by decide)) (hfb _ (by decide))) hO hN hn hD hL (by omega) (hrI_S hn hL (hrI_R hn hL (by omega) r) i (by omega)) hkb
        refine qy (fun _ _ k9 => z_cv (M1 := M_X11_hearsFrom) d_X11_spreadFrom_64 lv_X11_420 k_X11_hearsFrom [qI (i : Int), qI (hrT N n 0 i)] rfl rfl (xput_ob (c := (F 2)) xi_2 rfl (xsh_11 xo_2)) ⟨_, _, rfl⟩ (Nat.le_of_ble_eq_true rfl) (by decide) (by decide) (Nat.le_of_ble_eq_true rfl) hx1 k9) ?_
        refine qy (fun _ _ k9 => z_istore (ls' := [qR 2, qI (k : Int), qR 56, qI c2, qI (r : Int), qI (i : Int), qI (qb (hrX N n (hrS N n (hrR N n (k : Int) r) i) i 0 i ≠ (hrS N n (hrR N n (k : Int) r) i) i)), qU]) d_X11_spreadFrom_67 (by decide) rfl k9) ?_
        refine qy (fun _ _ k9 => z_aload_n d_X11_spreadFrom_69 rfl rfl k9) ?_
        refine qy (fun _ _ k9 => z_iload d_X11_spreadFrom_70 rfl k9) ?_
        refine qy (fun _ _ k9 => z_aload_n d_X11_spreadFrom_72 rfl rfl k9) ?_
        refine qy (fun _ _ k9 => z_iload d_X11_spreadFrom_73 rfl k9) ?_
        refine qy (fun _ _ k9 => z_cv (M1 := M_X10_keeperSeenRight) d_X11_spreadFrom_75 lv_X11_423 k_X10_keeperSeenRight [qI (i : Int)] rfl rfl (xput_ob (c := (F1 56)) xi_56 rfl (xsh_10 xo_56)) ⟨_, _, rfl⟩ (Nat.le_of_ble_eq_true rfl) (by decide) (by decide) (Nat.le_of_ble_eq_true rfl) (c_wlSeenR (wl := 56) i (by decide) xo_56 (wlR_cg hW (by rw [he1]) ((hv1 _ (by decide)).trans (hfb _ (by decide))) ((hv1 _ (by decide)).trans (hfb _ (by decide))) ((hv1 _ (by decide)).trans (hfb _ (by decide)))) hO hN (by omega)) k9) ?_
        obtain ⟨F2, G2, ⟨he2, hv2, hw2⟩, hx2⟩ := c_hears (h := h) (F := F1) (G := G1) (i := i) (d := 1) (H := (hrX N n (hrS N n (hrR N n (k : Int) r) i) i 0)) (wlR_cg hW (by rw [he1]) ((hv1 _ (by decide)).trans (hfb _ (by decide))) ((hv1 _ (by decide)).trans (hfb _ (by decide))) ((hv1 _ (by decide)).trans (hfb _ (by decide)))) hO hN hn hD hL (by omega) (hrI_X (by omega) hn (hL i (by omega)) (hrI_S hn hL (hrI_R hn hL (by omega) r) i (by omega))) hw1
        refine qy (fun _ _ k9 => z_cv (M1 := M_X11_hearsFrom) d_X11_spreadFrom_78 lv_X11_420 k_X11_hearsFrom [qI (i : Int), qI (hrT N n 1 i)] rfl rfl (xput_ob (c := (F1 2)) xi_2 rfl (xsh_11 xo_2)) ⟨_, _, rfl⟩ (Nat.le_of_ble_eq_true rfl) (by decide) (by decide) (Nat.le_of_ble_eq_true rfl) hx2 k9) ?_
        refine qy (fun _ _ k9 => z_istore (ls' := [qR 2, qI (k : Int), qR 56, qI c2, qI (r : Int), qI (i : Int), qI (qb (hrX N n (hrS N n (hrR N n (k : Int) r) i) i 0 i ≠ (hrS N n (hrR N n (k : Int) r) i) i)), qI (qb (hrX N n (hrX N n (hrS N n (hrR N n (k : Int) r) i) i 0) i 1 i ≠ (hrX N n (hrS N n (hrR N n (k : Int) r) i) i 0) i))]) d_X11_spreadFrom_81 (by decide) rfl k9) ?_
        refine qy (fun _ _ k9 => z_iload_n d_X11_spreadFrom_83 rfl rfl k9) ?_
        refine qy2 (fun _ _ => z_if_ne 97 d_X11_spreadFrom_84 (by decide)) (fun q84 => ?_) (fun q84 => ?_)
        · refine qy (fun _ _ k9 => z_iconst d_X11_spreadFrom_97 (by decide) k9) ?_
          refine qy (fun _ _ k9 => z_goto 102 d_X11_spreadFrom_98 (by decide) k9) ?_
          refine qy (fun _ _ k9 => z_istore_n (ls' := [qR 2, qI (k : Int), qR 56, qI 1, qI (r : Int), qI (i : Int), qI (qb (hrX N n (hrS N n (hrR N n (k : Int) r) i) i 0 i ≠ (hrS N n (hrR N n (k : Int) r) i) i)), qI (qb (hrX N n (hrX N n (hrS N n (hrR N n (k : Int) r) i) i 0) i 1 i ≠ (hrX N n (hrS N n (hrR N n (k : Int) r) i) i 0) i))]) d_X11_spreadFrom_102 rfl (by decide) rfl k9) ?_
          refine qy (fun _ _ k9 => z_iinc (ls' := [qR 2, qI (k : Int), qR 56, qI 1, qI (r : Int), qI ((i : Int) + 1), qI (qb (hrX N n (hrS N n (hrR N n (k : Int) r) i) i 0 i ≠ (hrS N n (hrR N n (k : Int) r) i) i)), qI (qb (hrX N n (hrX N n (hrS N n (hrR N n (k : Int) r) i) i 0) i 1 i ≠ (hrX N n (hrS N n (hrR N n (k : Int) r) i) i 0) i))]) d_X11_spreadFrom_103 rfl (by decide) (by omega) rfl k9) ?_
          refine qy (fun _ _ k9 => z_goto 46 d_X11_spreadFrom_106 (by decide) k9) ?_
          exact qy (fun _ _ k9 => z_dr (qle_k rfl (qle_k rfl (qle_k rfl (qle_k rfl (qle_k rfl (qle_k (qi (by omega)) (qle_d (qle_d qle_n)))))))) rfl (xput_cg (he2.trans he1) rfl) k9) (kki (i + 1) 1 G2 (⟨by omega, Or.inr rfl, fun a ha => (hv2 a ha).trans ((hv1 a ha).trans (hfb a ha)), hw2, fun z => absurd z (by decide)⟩) (by omega))
        · refine qy (fun _ _ k9 => z_iload d_X11_spreadFrom_87 rfl k9) ?_
          refine qy2 (fun _ _ => z_ifneB 97 d_X11_spreadFrom_89 (by decide)) (fun q89 => ?_) (fun q89 => ?_)
          · refine qy (fun _ _ k9 => z_iconst d_X11_spreadFrom_97 (by decide) k9) ?_
            refine qy (fun _ _ k9 => z_goto 102 d_X11_spreadFrom_98 (by decide) k9) ?_
            refine qy (fun _ _ k9 => z_istore_n (ls' := [qR 2, qI (k : Int), qR 56, qI 1, qI (r : Int), qI (i : Int), qI (qb (hrX N n (hrS N n (hrR N n (k : Int) r) i) i 0 i ≠ (hrS N n (hrR N n (k : Int) r) i) i)), qI (qb (hrX N n (hrX N n (hrS N n (hrR N n (k : Int) r) i) i 0) i 1 i ≠ (hrX N n (hrS N n (hrR N n (k : Int) r) i) i 0) i))]) d_X11_spreadFrom_102 rfl (by decide) rfl k9) ?_
            refine qy (fun _ _ k9 => z_iinc (ls' := [qR 2, qI (k : Int), qR 56, qI 1, qI (r : Int), qI ((i : Int) + 1), qI (qb (hrX N n (hrS N n (hrR N n (k : Int) r) i) i 0 i ≠ (hrS N n (hrR N n (k : Int) r) i) i)), qI (qb (hrX N n (hrX N n (hrS N n (hrR N n (k : Int) r) i) i 0) i 1 i ≠ (hrX N n (hrS N n (hrR N n (k : Int) r) i) i 0) i))]) d_X11_spreadFrom_103 rfl (by decide) (by omega) rfl k9) ?_
            refine qy (fun _ _ k9 => z_goto 46 d_X11_spreadFrom_106 (by decide) k9) ?_
            exact qy (fun _ _ k9 => z_dr (qle_k rfl (qle_k rfl (qle_k rfl (qle_k rfl (qle_k rfl (qle_k (qi (by omega)) (qle_d (qle_d qle_n)))))))) rfl (xput_cg (he2.trans he1) rfl) k9) (kki (i + 1) 1 G2 (⟨by omega, Or.inr rfl, fun a ha => (hv2 a ha).trans ((hv1 a ha).trans (hfb a ha)), hw2, fun z => absurd z (by decide)⟩) (by omega))
          · refine qy (fun _ _ k9 => z_iload d_X11_spreadFrom_92 rfl k9) ?_
            refine qy2n (fun _ _ => z_ifeqB 101 d_X11_spreadFrom_94 (by decide)) (fun q94 => ?_) (fun q94 => ?_)
            · refine qy (fun _ _ k9 => z_iconst d_X11_spreadFrom_101 (by decide) k9) ?_
              refine qy (fun _ _ k9 => z_istore_n (ls' := [qR 2, qI (k : Int), qR 56, qI 0, qI (r : Int), qI (i : Int), qI (qb (hrX N n (hrS N n (hrR N n (k : Int) r) i) i 0 i ≠ (hrS N n (hrR N n (k : Int) r) i) i)), qI (qb (hrX N n (hrX N n (hrS N n (hrR N n (k : Int) r) i) i 0) i 1 i ≠ (hrX N n (hrS N n (hrR N n (k : Int) r) i) i 0) i))]) d_X11_spreadFrom_102 rfl (by decide) rfl k9) ?_
              refine qy (fun _ _ k9 => z_iinc (ls' := [qR 2, qI (k : Int), qR 56, qI 0, qI (r : Int), qI ((i : Int) + 1), qI (qb (hrX N n (hrS N n (hrR N n (k : Int) r) i) i 0 i ≠ (hrS N n (hrR N n (k : Int) r) i) i)), qI (qb (hrX N n (hrX N n (hrS N n (hrR N n (k : Int) r) i) i 0) i 1 i ≠ (hrX N n (hrS N n (hrR N n (k : Int) r) i) i 0) i))]) d_X11_spreadFrom_103 rfl (by decide) (by omega) rfl k9) ?_
              refine qy (fun _ _ k9 => z_goto 46 d_X11_spreadFrom_106 (by decide) k9) ?_
              exact qy (fun _ _ k9 => z_dr (qle_k rfl (qle_k rfl (qle_k rfl (qle_k rfl (qle_k rfl (qle_k (qi (by omega)) (qle_d (qle_d qle_n)))))))) rfl (xput_cg (he2.trans he1) rfl) k9) (kki (i + 1) 0 G2 (⟨by omega, Or.inl rfl, fun a ha => (hv2 a ha).trans ((hv1 a ha).trans (hfb a ha)), hw2, fun _ => (by show hrX N n (hrX N n (hrS N n (hrR N n (k : Int) r) i) i 0) i 1 = _; rw [hrX_eq (Classical.not_not.mp q94), hrX_eq (Classical.not_not.mp q89)]; exact hz2 (by omega))⟩) (by omega))
            · refine qy (fun _ _ k9 => z_iconst d_X11_spreadFrom_97 (by decide) k9) ?_
              refine qy (fun _ _ k9 => z_goto 102 d_X11_spreadFrom_98 (by decide) k9) ?_
              refine qy (fun _ _ k9 => z_istore_n (ls' := [qR 2, qI (k : Int), qR 56, qI 1, qI (r : Int), qI (i : Int), qI (qb (hrX N n (hrS N n (hrR N n (k : Int) r) i) i 0 i ≠ (hrS N n (hrR N n (k : Int) r) i) i)), qI (qb (hrX N n (hrX N n (hrS N n (hrR N n (k : Int) r) i) i 0) i 1 i ≠ (hrX N n (hrS N n (hrR N n (k : Int) r) i) i 0) i))]) d_X11_spreadFrom_102 rfl (by decide) rfl k9) ?_
              refine qy (fun _ _ k9 => z_iinc (ls' := [qR 2, qI (k : Int), qR 56, qI 1, qI (r : Int), qI ((i : Int) + 1), qI (qb (hrX N n (hrS N n (hrR N n (k : Int) r) i) i 0 i ≠ (hrS N n (hrR N n (k : Int) r) i) i)), qI (qb (hrX N n (hrX N n (hrS N n (hrR N n (k : Int) r) i) i 0) i 1 i ≠ (hrX N n (hrS N n (hrR N n (k : Int) r) i) i 0) i))]) d_X11_spreadFrom_103 rfl (by decide) (by omega) rfl k9) ?_
              refine qy (fun _ _ k9 => z_goto 46 d_X11_spreadFrom_106 (by decide) k9) ?_
              exact qy (fun _ _ k9 => z_dr (qle_k rfl (qle_k rfl (qle_k rfl (qle_k rfl (qle_k rfl (qle_k (qi (by omega)) (qle_d (qle_d qle_n)))))))) rfl (xput_cg (he2.trans he1) rfl) k9) (kki (i + 1) 1 G2 (⟨by omega, Or.inr rfl, fun a ha => (hv2 a ha).trans ((hv1 a ha).trans (hfb a ha)), hw2, fun z => absurd z (by decide)⟩) (by omega))
set_option maxRecDepth 20000 in
set_option maxHeartbeats 4000000 in
theorem c_knowers {h : qH} {F G : Nat → Nat → Int} {n : Nat} (t : Int) {N H : Nat → Int} (hW : wlR F G 56 N) (hN : N 160 = (n : Int)) (hn : n ≤ 32) (ht : t ≤ 200) (hH : ∀ j, j < n → 0 ≤ H j) (hK : ∀ j, j < n → G 219 j = kbm H j) : qEx M_X11_knowersBehind 0 [qR 2, qI t, qU, qU] [] (xput h F G) (some (qI (cnt (fun j => H j ≤ t) n))) (xput h F G) := by
  refine q_gen (fun r hr er eh => ?_)
  refine z_iconst d_X11_knowersBehind_0 (by decide) ?_
  refine z_istore_n (ls' := [qR 2, qI t, qI 0, qU]) d_X11_knowersBehind_1 rfl (by decide) rfl ?_
  refine z_iconst d_X11_knowersBehind_2 (by decide) ?_
  refine z_istore_n (ls' := [qR 2, qI t, qI 0, qI 0]) d_X11_knowersBehind_3 rfl (by decide) rfl ?_
  refine z_eq (qc rfl (qc rfl (qc (qi (rfl)) (qc (qi (rfl)) rfl)))) rfl rfl (z_for n (fun i => [qR 2, qI t, qI (cnt (fun j => H j ≤ t) i), qI (i : Int)]) (fun i => (xput h F G)) (fun i => True) trivial (fun i hii hp kki => ?_) (fun hp => ?_))
  · show qEx M_X11_knowersBehind 4 [qR 2, qI t, qI (cnt (fun j => H j ≤ t) i), qI (i : Int)] [] (xput h F G) r hr
    have hc5 := cnt_bd (fun j => H j ≤ t) i
    refine z_iload_n d_X11_knowersBehind_4 rfl rfl ?_
    refine z_aload_n d_X11_knowersBehind_5 rfl rfl ?_
    refine z_getf (v := qR 3) d_X11_knowersBehind_6 fl_X11_12 (xput_ob (c := (F 2)) xi_2 rfl (xsh_11 xo_2)) rfl ?_
    refine z_getf (v := qR 56) d_X11_knowersBehind_9 fl_X11_66 (xput_ob (c := (F 3)) xi_3 rfl (xsh_8 xo_3)) rfl ?_
    refine z_getf (v := qI ((F 56) 0)) d_X11_knowersBehind_12 fl_X11_159 (xput_ob (c := (F 56)) xi_56 rfl (xsh_10 xo_56)) rfl ?_
    refine z_eq rfl (qc (qi (hW.1.1.trans hN)) rfl) rfl ?_
    refine z_icmp_ge 41 d_X11_knowersBehind_15 (by decide) (fun hc1 => absurd hc1 (by omega)) (fun hc1 => ?_)
    refine z_aload_n d_X11_knowersBehind_18 rfl rfl ?_
    refine z_getf (v := qR 219) d_X11_knowersBehind_19 fl_X11_58 (xput_ob (c := (F 2)) xi_2 rfl (xsh_11 xo_2)) rfl ?_
    refine z_iload_n d_X11_knowersBehind_22 rfl rfl ?_
    refine z_ild i d_X11_knowersBehind_23 (xput_ar (g := (G 219)) xa_219 rfl) rfl (by omega) ?_
    refine z_eq rfl (qc (qi (show ((G 219) i) = (kbm H i) from hK i (by omega))) rfl) rfl ?_
    refine z_iconst d_X11_knowersBehind_24 (by decide) ?_
    refine z_iload_n d_X11_knowersBehind_25 rfl rfl ?_
    refine z_cs (M1 := M_X11_isWithin) d_X11_knowersBehind_26 ls_X11_62 k_X11_isWithin [qI (kbm H i), qI 0, qI t] rfl rfl (Nat.le_of_ble_eq_true rfl) (by decide) (by decide) (Nat.le_of_ble_eq_true rfl) (c_isWithin (kbm H i) 0 t) ?_
    refine z_ifeqB 35 d_X11_knowersBehind_29 (by decide) (fun q29 => ?_) (fun q29 => ?_)
    · refine z_iinc (ls' := [qR 2, qI t, qI (cnt (fun j => H j ≤ t) i), qI ((i : Int) + 1)]) d_X11_knowersBehind_35 rfl (by decide) (by omega) rfl ?_
      refine z_goto 4 d_X11_knowersBehind_38 (by decide) ?_
      exact z_eq (qc rfl (qc rfl (qc (qi (by rw [cnt_f (fun z => q29 ((kbm_in (hH i hii) ht).mpr z))])) (qc (qi (by omega)) rfl)))) rfl rfl (kki trivial)
    · refine z_iinc (ls' := [qR 2, qI t, qI ((cnt (fun j => H j ≤ t) i) + 1), qI (i : Int)]) d_X11_knowersBehind_32 rfl (by decide) (by omega) rfl ?_
      refine z_iinc (ls' := [qR 2, qI t, qI ((cnt (fun j => H j ≤ t) i) + 1), qI ((i : Int) + 1)]) d_X11_knowersBehind_35 rfl (by decide) (by omega) rfl ?_
      refine z_goto 4 d_X11_knowersBehind_38 (by decide) ?_
      exact z_eq (qc rfl (qc rfl (qc (qi (by rw [cnt_t ((kbm_in (hH i hii) ht).mp q29)])) (qc (qi (by omega)) rfl)))) rfl rfl (kki trivial)
  · show qEx M_X11_knowersBehind 4 [qR 2, qI t, qI (cnt (fun j => H j ≤ t) n), qI (n : Int)] [] (xput h F G) r hr
    refine z_iload_n d_X11_knowersBehind_4 rfl rfl ?_
    refine z_aload_n d_X11_knowersBehind_5 rfl rfl ?_
    refine z_getf (v := qR 3) d_X11_knowersBehind_6 fl_X11_12 (xput_ob (c := (F 2)) xi_2 rfl (xsh_11 xo_2)) rfl ?_
    refine z_getf (v := qR 56) d_X11_knowersBehind_9 fl_X11_66 (xput_ob (c := (F 3)) xi_3 rfl (xsh_8 xo_3)) rfl ?_
    refine z_getf (v := qI ((F 56) 0)) d_X11_knowersBehind_12 fl_X11_159 (xput_ob (c := (F 56)) xi_56 rfl (xsh_10 xo_56)) rfl ?_
    refine z_eq rfl (qc (qi (hW.1.1.trans hN)) rfl) rfl ?_
    refine z_icmp_ge 41 d_X11_knowersBehind_15 (by decide) (fun hc2 => ?_) (fun hc2 => absurd hc2 (by omega))
    refine z_iload_n d_X11_knowersBehind_41 rfl rfl ?_
    exact z_iret d_X11_knowersBehind_42 rfl er eh
