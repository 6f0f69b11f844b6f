/-! ===== CONTRACTS: BeaconWall: picture, mark, stir, deafened ===== -/
theorem ps_l0 {T : Nat → Int} {n rg : Nat} {df b : Int} : (0 : Int) = cnt (fun k => ps T n rg df b 0 k = 7) n := (cnt_0.mpr (fun _ _ => ps_0)).symm
theorem mk_end {T : Nat → Int} {n : Nat} {b md : Int} {k t : Nat} (ht : t ≤ 3 * n + 20) (hp : ∀ j, j < t → ¬ (ps T n 0 (-1) b j k = md ∨ litAt T n 0 (-1) b j)) (hx : t = 3 * n + 20 ∨ litAt T n 0 (-1) b t ∨ ps T n 0 (-1) b t k = md) : mkR T n b md k = qif (ps T n 0 (-1) b t k = md) (t : Int) (-1) := by
  by_cases hc : ps T n 0 (-1) b t k = md ∨ litAt T n 0 (-1) b t
  · have hj := mk_j (k := k) (md := md) (show t < 3 * n + 21 by omega) hp hc
    unfold mkR
    rw [hj, qif_f (by omega), Int.toNat_natCast]
  · have ht2 : t = 3 * n + 20 := by
      rcases hx with h | h | h
      · exact h
      · exact absurd (Or.inr h) hc
      · exact absurd (Or.inl h) hc
    have hj : mkJ T n b md k = -1 := mk_n (fun j hj => by
      by_cases z : j < t
      · exact hp j z
      · rw [show j = t by omega]; exact hc)
    unfold mkR
    rw [hj, qif_t rfl, qif_f (fun z => hc (Or.inl z))]
theorem sgS_s {T : Nat → Int} {n i : Nat} {b : Int} : qif (sgC T n b i ≠ 0) (sgS T n b i) (sgS T n b i + 1) = sgS T n b (i + 1) := by
  show _ = sgS T n b i + qb (sgC T n b i = 0)
  by_cases z : sgC T n b i = 0
  · rw [qif_f (fun y => y z), qb_t z]
  · rw [qif_t z, qb_f z]; omega
theorem sgM_s {T : Nat → Int} {n i : Nat} {b : Int} : qif (sgC T n b i ≤ sgM T n b i) (sgM T n b i) (sgC T n b i) = sgM T n b (i + 1) := by
  show _ = if sgC T n b i > sgM T n b i then sgC T n b i else sgM T n b i
  by_cases z : sgC T n b i ≤ sgM T n b i
  · rw [qif_t z, if_neg (by omega)]
  · rw [qif_f z, if_pos (by omega)]
theorem sgW_s {T : Nat → Int} {n i : Nat} {b : Int} : qif (sgC T n b i ≤ sgM T n b i) (sgW T n b i) (((i + 1 : Nat)) : Int) = sgW T n b (i + 1) := by
  show _ = qif (sgC T n b i ≤ sgM T n b i) (sgW T n b i) ((i : Int) + 1)
  rw [show (((i + 1 : Nat)) : Int) = (i : Int) + 1 by omega]
theorem dfW_s {T : Nat → Int} {n k i : Nat} : qif (dfD T n k i ≤ dfA T n k i) (dfW T n k i) (((i + 1 : Nat)) : Int) = dfW T n k (i + 1) := by
  show _ = qif (dfD T n k i ≤ dfA T n k i) (dfW T n k i) ((i : Int) + 1)
  rw [show (((i + 1 : Nat)) : Int) = (i : Int) + 1 by omega]
theorem dfA_s {T : Nat → Int} {n k i : Nat} : qif (dfD T n k i ≤ dfA T n k i) (dfA T n k i) (dfD T n k i) = dfA T n k (i + 1) := by
  show _ = if dfD T n k i > dfA T n k i then dfD T n k i else dfA T n k i
  by_cases z : dfD T n k i ≤ dfA T n k i
  · rw [qif_t z, if_neg (by omega)]
  · rw [qif_f z, if_pos (by omega)]
theorem rnS_df {F G : Nat → Nat → Int} {u n rg t : Nat} {tr df lt ch d : Int} {M : Nat → Int} (h : rnS F G u n rg tr df t lt ch M) : rnS (gup F u (qup (F u) 6 d)) G u n rg tr d t lt ch M := by
  obtain ⟨⟨h1, h2, h3, h4⟩, ⟨h5, h6, h7, h8⟩, h9⟩ := h
  refine ⟨⟨?_, ?_, ?_, ?_⟩, ⟨?_, ?_, ?_, ?_⟩, h9⟩
  all_goals rw [gup_eq]
  · rw [qup_ne (by decide)]; exact h1
  · rw [qup_ne (by decide)]; exact h2
  · rw [qup_ne (by decide)]; exact h3
  · rw [qup_eq]
  · rw [qup_ne (by decide)]; exact h5
  · rw [qup_ne (by decide)]; exact h6
  · rw [qup_ne (by decide)]; exact h7
  · rw [qup_ne (by decide)]; exact h8
set_option maxRecDepth 20000 in
set_option maxHeartbeats 4000000 in
theorem xc_picture {h : qH} {F G : Nat → Nat → Int} {n b : Nat} (t : Int) (k : Nat) {T : Nat → Int} (hn : 1 ≤ n ∧ n ≤ 32) (hb : b < n) (ht : 0 ≤ t ∧ t ≤ 116) (hk : k < n) (hT : ∀ c, c < 648 → G 6 c = T c) (hB : ∀ c, c < 648 → 0 ≤ T c ∧ T c ≤ 7) : ∃ F' G', (xfr 173 176 F G F' G') ∧ qEx M_X11_picture 0 [qR 2, qI (n : Int), qI (b : Int), qI t, qI (k : Int), qU, qU] [] (xput h F G) (some (qI (ps T n 0 (-1) (b : Int) (utl (fun i : Nat => (i : Int) ≥ t ∨ i ≥ 3 * n + 20 ∨ litAt T n 0 (-1) (b : Int) i) (3 * n + 20)) k))) (xput h F' G') := by
  refine x_in (fun Q hQ => ?_)
  refine qy (fun _ _ k9 => z_iload_n d_X11_picture_0 rfl rfl k9) ?_
  refine qy (fun _ _ k9 => z_iload_n d_X11_picture_1 rfl rfl k9) ?_
  refine qy (fun _ _ k9 => z_cs (M1 := M_X11_isRun) d_X11_picture_2 ls_X11_280 k_X11_isRun [qI (n : Int), qI (b : Int)] rfl rfl (Nat.le_of_ble_eq_true rfl) (by decide) (by decide) (Nat.le_of_ble_eq_true rfl) (c_isRun (n : Int) (b : Int) (by omega)) k9) ?_
  refine qy2n (fun _ _ => z_ifeqB 30 d_X11_picture_5 (by decide)) (fun hc1 => absurd hc1 (by omega)) (fun hc1 => ?_)
  refine qy (fun _ _ k9 => z_iload_n d_X11_picture_8 rfl rfl k9) ?_
  refine qy (fun _ _ k9 => z_iconst d_X11_picture_9 (by decide) k9) ?_
  refine qy (fun _ _ k9 => z_bipush d_X11_picture_10 (by decide) k9) ?_
  refine qy (fun _ _ k9 => z_cs (M1 := M_X11_isWithin) d_X11_picture_12 ls_X11_62 k_X11_isWithin [qI t, qI 0, qI 116] rfl rfl (Nat.le_of_ble_eq_true rfl) (by decide) (by decide) (Nat.le_of_ble_eq_true rfl) (c_isWithin t 0 116) k9) ?_
  refine qy2n (fun _ _ => z_ifeqB 30 d_X11_picture_15 (by decide)) (fun hc2 => absurd hc2 (by omega)) (fun hc2 => ?_)
  refine qy (fun _ _ k9 => z_iload d_X11_picture_18 rfl k9) ?_
  refine qy (fun _ _ k9 => z_iconst d_X11_picture_20 (by decide) k9) ?_
  refine qy (fun _ _ k9 => z_iload_n d_X11_picture_21 rfl rfl k9) ?_
  refine qy (fun _ _ k9 => z_iconst d_X11_picture_22 (by decide) k9) ?_
  refine qy (fun _ _ k9 => z_isub d_X11_picture_23 (by omega) k9) ?_
  refine qy (fun _ _ k9 => z_cs (M1 := M_X11_isWithin) d_X11_picture_24 ls_X11_62 k_X11_isWithin [qI (k : Int), qI 0, qI ((n : Int) - 1)] rfl rfl (Nat.le_of_ble_eq_true rfl) (by decide) (by decide) (Nat.le_of_ble_eq_true rfl) (c_isWithin (k : Int) 0 ((n : Int) - 1)) k9) ?_
  refine qy2 (fun _ _ => z_ifneB 32 d_X11_picture_27 (by decide)) (fun hc3 => ?_) (fun hc3 => absurd hc3 (by omega))
  refine qy (fun _ _ k9 => z_aload_n d_X11_picture_32 rfl rfl k9) ?_
  refine qy (fun _ _ k9 => z_getf (v := qR 172) d_X11_picture_33 fl_X11_40 (xput_ob (c := (F 2)) xi_2 rfl (xsh_11 xo_2)) rfl k9) ?_
  refine qy (fun _ _ k9 => z_getf (v := qR 173) d_X11_picture_36 fl_X11_293 (xput_ob (c := (F 172)) xi_172 rfl (xsh_9 xo_172)) rfl k9) ?_
  refine qy (fun _ _ k9 => z_astore (ls' := [qR 2, qI (n : Int), qI (b : Int), qI t, qI (k : Int), qR 173, qU]) d_X11_picture_39 (by decide) rfl k9) ?_
  refine qy (fun _ _ k9 => z_aload d_X11_picture_41 rfl k9) ?_
  refine qy (fun _ _ k9 => z_iload_n d_X11_picture_43 rfl rfl k9) ?_
  refine qy (fun _ _ k9 => z_iload_n d_X11_picture_44 rfl rfl k9) ?_
  refine qy (fun _ _ k9 => z_iconst d_X11_picture_45 (by decide) k9) ?_
  obtain ⟨F1, G1, ⟨hv1, hw1, hu1, hg1⟩, hx1⟩ := c_rnStart (h := h) (F := F) (G := G) (u := 173) n b 0 (by decide) xo_173 (by omega) (by omega) (by decide)
  refine qy (fun _ _ k9 => z_cv0 (M1 := M_X7_start) d_X11_picture_46 lv_X11_297 k_X7_start [qI (n : Int), qI (b : Int), qI 0] rfl rfl (xput_ob (c := (F 173)) xi_173 rfl (xsh_7 xo_173)) ⟨_, _, rfl⟩ (Nat.le_of_ble_eq_true rfl) (by decide) (by decide) (Nat.le_of_ble_eq_true rfl) hx1 k9) ?_
  refine qy (fun _ _ k9 => z_iconst d_X11_picture_49 (by decide) k9) ?_
  refine qy (fun _ _ k9 => z_istore (ls' := [qR 2, qI (n : Int), qI (b : Int), qI t, qI (k : Int), qR 173, qI 0]) d_X11_picture_50 (by decide) rfl k9) ?_
  refine qy (fun _ _ k9 => z_eq (qc rfl (qc rfl (qc rfl (qc rfl (qc rfl (qc rfl (qc (qi (rfl)) rfl))))))) rfl rfl k9) (y_wh4 (fun (i : Nat) (c : Int) (Fa : Nat → Nat → Int) (Ga : Nat → Nat → Int) => 3 * n + 20 - i) (fun (i : Nat) (c : Int) (Fa : Nat → Nat → Int) (Ga : Nat → Nat → Int) => [qR 2, qI (n : Int), qI (b : Int), qI t, qI (k : Int), qR 173, qI (i : Int)]) (fun (i : Nat) (c : Int) (Fa : Nat → Nat → Int) (Ga : Nat → Nat → Int) => (xput h Fa Ga)) (fun (i : Nat) (c : Int) (Fa : Nat → Nat → Int) (Ga : Nat → Nat → Int) => i ≤ 3 * n + 20 ∧ xfr 173 176 F G Fa Ga ∧ rnS Fa Ga 173 n 0 0 (-1) i (cnt (fun k9 => ps T n 0 (-1) (b : Int) i k9 = 7) n) c (ps T n 0 (-1) (b : Int) i) ∧ ∀ j, j < i → ¬ ((j : Int) ≥ t ∨ j ≥ 3 * n + 20 ∨ litAt T n 0 (-1) (b : Int) j)) 0 0 F1 G1 (⟨by omega, hv1, rnS_M hw1 (fun _ _ => rfl) ps_l0 rfl, fun k hk => absurd hk (by omega)⟩) (fun i c Fa Ga hp kk => ?_))
  obtain ⟨hi, hfr, hS1, hp⟩ := hp
  show qEy M_X11_picture 52 [qR 2, qI (n : Int), qI (b : Int), qI t, qI (k : Int), qR 173, qI (i : Int)] [] (xput h Fa Ga) Q
  have hT1 : ∀ c, c < 648 → Ga 6 c = T c := fun c hc => by rw [xfr_G hfr (by decide)]; exact hT c hc
  have c0 := cnt_bd (fun k9 => ps T n 0 (-1) (b : Int) i k9 = 7) n
  refine qy (fun _ _ k9 => z_iload d_X11_picture_52 rfl k9) ?_
  refine qy (fun _ _ k9 => z_iload_n d_X11_picture_54 rfl rfl k9) ?_
  refine qy2 (fun _ _ => z_icmp_ge 87 d_X11_picture_55 (by decide)) (fun q55 => ?_) (fun q55 => ?_)
  · refine qy (fun _ _ k9 => z_aload d_X11_picture_87 rfl k9) ?_
    refine qy (fun _ _ k9 => z_getf (v := qR 174) d_X11_picture_89 fl_X11_339 (xput_ob (c := (Fa 173)) xi_173 rfl (xsh_7 xo_173)) rfl k9) ?_
    refine qy (fun _ _ k9 => z_iload d_X11_picture_92 rfl k9) ?_
    refine qy (fun _ _ k9 => z_ild k d_X11_picture_94 (xput_ar (g := (Ga 174)) xa_174 rfl) rfl (by omega) k9) ?_
    refine qy (fun _ _ k9 => z_eq rfl (qc (qi (hS1.2.2 k hk)) rfl) rfl k9) ?_
    exact y_ret (hQ Fa Ga hfr) (z_iret d_X11_picture_95 rfl (qsi (by rw [utl_at (p := (fun i : Nat => (i : Int) ≥ t ∨ i ≥ 3 * n + 20 ∨ litAt T n 0 (-1) (b : Int) i)) hi hp (Or.inl q55)])) rfl)
  · refine qy (fun _ _ k9 => z_aload d_X11_picture_58 rfl k9) ?_
    refine qy (fun _ _ k9 => z_cv (M1 := M_X7_goesOn) d_X11_picture_60 lv_X11_348 k_X7_goesOn [] rfl rfl (xput_ob (c := (Fa 173)) xi_173 rfl (xsh_7 xo_173)) ⟨_, _, rfl⟩ (Nat.le_of_ble_eq_true rfl) (by decide) (by decide) (Nat.le_of_ble_eq_true rfl) (c_rnGoes (by decide) xo_173 hS1) k9) ?_
    refine qy2n (fun _ _ => z_ifeqB 87 d_X11_picture_63 (by decide)) (fun q63 => ?_) (fun q63 => ?_)
    · refine qy (fun _ _ k9 => z_aload d_X11_picture_87 rfl k9) ?_
      refine qy (fun _ _ k9 => z_getf (v := qR 174) d_X11_picture_89 fl_X11_339 (xput_ob (c := (Fa 173)) xi_173 rfl (xsh_7 xo_173)) rfl k9) ?_
      refine qy (fun _ _ k9 => z_iload d_X11_picture_92 rfl k9) ?_
      refine qy (fun _ _ k9 => z_ild k d_X11_picture_94 (xput_ar (g := (Ga 174)) xa_174 rfl) rfl (by omega) k9) ?_
      refine qy (fun _ _ k9 => z_eq rfl (qc (qi (hS1.2.2 k hk)) rfl) rfl k9) ?_
      exact y_ret (hQ Fa Ga hfr) (z_iret d_X11_picture_95 rfl (qsi (by rw [utl_at (p := (fun i : Nat => (i : Int) ≥ t ∨ i ≥ 3 * n + 20 ∨ litAt T n 0 (-1) (b : Int) i)) hi hp ((by by_cases z : i ≥ 3 * n + 20; exact Or.inr (Or.inl z); exact Or.inr (Or.inr (show cnt _ n > 0 by omega))))])) rfl)
    · refine qy (fun _ _ k9 => z_aload d_X11_picture_66 rfl k9) ?_
      refine qy (fun _ _ k9 => z_aload_n d_X11_picture_68 rfl rfl k9) ?_
      refine qy (fun _ _ k9 => z_getf (v := qR 3) d_X11_picture_69 fl_X11_12 (xput_ob (c := (Fa 2)) xi_2 rfl (xsh_11 xo_2)) rfl k9) ?_
      refine qy (fun _ _ k9 => z_getf (v := qR 4) d_X11_picture_72 fl_X11_144 (xput_ob (c := (Fa 3)) xi_3 rfl (xsh_8 xo_3)) rfl k9) ?_
      refine qy (fun _ _ k9 => z_getf (v := qR 6) d_X11_picture_75 fl_X11_243 (xput_ob (c := (Fa 4)) xi_4 rfl (xsh_0 xo_4)) rfl k9) ?_
      obtain ⟨F2, G2, ⟨hv2, hw2⟩, hx2⟩ := c_rnBr (h := h) (F := Fa) (G := Ga) (u := 173) (d := 6) (n := n) (rg := 0) (t := i) (df := (-1)) (M := (ps T n 0 (-1) (b : Int) i)) (T := T) (by decide) xo_173 xa_6 (by decide) hn (by decide) (by omega) hT1 hS1 (ps_bd hB i)
      refine qy (fun _ _ k9 => z_cv0 (M1 := M_X7_breathe) d_X11_picture_78 lv_X11_340 k_X7_breathe [qR 6] rfl rfl (xput_ob (c := (Fa 173)) xi_173 rfl (xsh_7 xo_173)) ⟨_, _, rfl⟩ (Nat.le_of_ble_eq_true rfl) (by decide) (by decide) (Nat.le_of_ble_eq_true rfl) hx2 k9) ?_
      refine qy (fun _ _ k9 => z_iinc (ls' := [qR 2, qI (n : Int), qI (b : Int), qI t, qI (k : Int), qR 173, qI ((i : Int) + 1)]) d_X11_picture_81 rfl (by decide) (by omega) rfl k9) ?_
      refine qy (fun _ _ k9 => z_goto 52 d_X11_picture_84 (by decide) k9) ?_
      exact qy (fun _ _ k9 => z_eq (qc rfl (qc rfl (qc rfl (qc rfl (qc rfl (qc rfl (qc (qi (by omega)) rfl))))))) rfl rfl k9) (kk (i + 1) (cnt (fun k9 => ps T n 0 (-1) (b : Int) (i + 1) k9 ≠ ps T n 0 (-1) (b : Int) i k9) n) F2 G2 (⟨by omega, xfr_tr hfr hv2, hw2, q_lts hp (by rintro (z | z | z); omega; omega; (have z2 : cnt (fun k9 => ps T n 0 (-1) (b : Int) i k9 = 7) n > 0 := z; omega))⟩) (by omega))
set_option maxRecDepth 20000 in
set_option maxHeartbeats 4000000 in
theorem xc_mark {h : qH} {F G : Nat → Nat → Int} {n b : Nat} (md : Int) (k : Nat) {T : Nat → Int} (hn : 1 ≤ n ∧ n ≤ 32) (hb : b < n) (hmd : 0 ≤ md ∧ md ≤ 7) (hk : k < n) (hT : ∀ c, c < 648 → G 6 c = T c) (hB : ∀ c, c < 648 → 0 ≤ T c ∧ T c ≤ 7) : ∃ F' G', (xfr 173 176 F G F' G') ∧ qEx M_X11_mark 0 [qR 2, qI (n : Int), qI (b : Int), qI md, qI (k : Int), qU, qU] [] (xput h F G) (some (qI (mkR T n (b : Int) md k))) (xput h F' G') := by
  refine x_in (fun Q hQ => ?_)
  refine qy (fun _ _ k9 => z_iload_n d_X11_mark_0 rfl rfl k9) ?_
  refine qy (fun _ _ k9 => z_iload_n d_X11_mark_1 rfl rfl k9) ?_
  refine qy (fun _ _ k9 => z_cs (M1 := M_X11_isRun) d_X11_mark_2 ls_X11_280 k_X11_isRun [qI (n : Int), qI (b : Int)] rfl rfl (Nat.le_of_ble_eq_true rfl) (by decide) (by decide) (Nat.le_of_ble_eq_true rfl) (c_isRun (n : Int) (b : Int) (by omega)) k9) ?_
  refine qy2n (fun _ _ => z_ifeqB 30 d_X11_mark_5 (by decide)) (fun hc1 => absurd hc1 (by omega)) (fun hc1 => ?_)
  refine qy (fun _ _ k9 => z_iload_n d_X11_mark_8 rfl rfl k9) ?_
  refine qy (fun _ _ k9 => z_iconst d_X11_mark_9 (by decide) k9) ?_
  refine qy (fun _ _ k9 => z_bipush d_X11_mark_10 (by decide) k9) ?_
  refine qy (fun _ _ k9 => z_cs (M1 := M_X11_isWithin) d_X11_mark_12 ls_X11_62 k_X11_isWithin [qI md, qI 0, qI 7] rfl rfl (Nat.le_of_ble_eq_true rfl) (by decide) (by decide) (Nat.le_of_ble_eq_true rfl) (c_isWithin md 0 7) k9) ?_
  refine qy2n (fun _ _ => z_ifeqB 30 d_X11_mark_15 (by decide)) (fun hc2 => absurd hc2 (by omega)) (fun hc2 => ?_)
  refine qy (fun _ _ k9 => z_iload d_X11_mark_18 rfl k9) ?_
  refine qy (fun _ _ k9 => z_iconst d_X11_mark_20 (by decide) k9) ?_
  refine qy (fun _ _ k9 => z_iload_n d_X11_mark_21 rfl rfl k9) ?_
  refine qy (fun _ _ k9 => z_iconst d_X11_mark_22 (by decide) k9) ?_
  refine qy (fun _ _ k9 => z_isub d_X11_mark_23 (by omega) k9) ?_
  refine qy (fun _ _ k9 => z_cs (M1 := M_X11_isWithin) d_X11_mark_24 ls_X11_62 k_X11_isWithin [qI (k : Int), qI 0, qI ((n : Int) - 1)] rfl rfl (Nat.le_of_ble_eq_true rfl) (by decide) (by decide) (Nat.le_of_ble_eq_true rfl) (c_isWithin (k : Int) 0 ((n : Int) - 1)) k9) ?_
  refine qy2 (fun _ _ => z_ifneB 32 d_X11_mark_27 (by decide)) (fun hc3 => ?_) (fun hc3 => absurd hc3 (by omega))
  refine qy (fun _ _ k9 => z_aload_n d_X11_mark_32 rfl rfl k9) ?_
  refine qy (fun _ _ k9 => z_getf (v := qR 172) d_X11_mark_33 fl_X11_40 (xput_ob (c := (F 2)) xi_2 rfl (xsh_11 xo_2)) rfl k9) ?_
  refine qy (fun _ _ k9 => z_getf (v := qR 173) d_X11_mark_36 fl_X11_293 (xput_ob (c := (F 172)) xi_172 rfl (xsh_9 xo_172)) rfl k9) ?_
  refine qy (fun _ _ k9 => z_astore (ls' := [qR 2, qI (n : Int), qI (b : Int), qI md, qI (k : Int), qR 173, qU]) d_X11_mark_39 (by decide) rfl k9) ?_
  refine qy (fun _ _ k9 => z_aload d_X11_mark_41 rfl k9) ?_
  refine qy (fun _ _ k9 => z_iload_n d_X11_mark_43 rfl rfl k9) ?_
  refine qy (fun _ _ k9 => z_iload_n d_X11_mark_44 rfl rfl k9) ?_
  refine qy (fun _ _ k9 => z_iconst d_X11_mark_45 (by decide) k9) ?_
  obtain ⟨F1, G1, ⟨hv1, hw1, hu1, hg1⟩, hx1⟩ := c_rnStart (h := h) (F := F) (G := G) (u := 173) n b 0 (by decide) xo_173 (by omega) (by omega) (by decide)
  refine qy (fun _ _ k9 => z_cv0 (M1 := M_X7_start) d_X11_mark_46 lv_X11_297 k_X7_start [qI (n : Int), qI (b : Int), qI 0] rfl rfl (xput_ob (c := (F 173)) xi_173 rfl (xsh_7 xo_173)) ⟨_, _, rfl⟩ (Nat.le_of_ble_eq_true rfl) (by decide) (by decide) (Nat.le_of_ble_eq_true rfl) hx1 k9) ?_
  refine qy (fun _ _ k9 => z_iconst d_X11_mark_49 (by decide) k9) ?_
  refine qy (fun _ _ k9 => z_istore (ls' := [qR 2, qI (n : Int), qI (b : Int), qI md, qI (k : Int), qR 173, qI 0]) d_X11_mark_50 (by decide) rfl k9) ?_
  refine qy (fun _ _ k9 => z_eq (qc rfl (qc rfl (qc rfl (qc rfl (qc rfl (qc rfl (qc (qi (rfl)) rfl))))))) rfl rfl k9) (y_wh4 (fun (i : Nat) (c : Int) (Fa : Nat → Nat → Int) (Ga : Nat → Nat → Int) => 3 * n + 20 - i) (fun (i : Nat) (c : Int) (Fa : Nat → Nat → Int) (Ga : Nat → Nat → Int) => [qR 2, qI (n : Int), qI (b : Int), qI md, qI (k : Int), qR 173, qI (i : Int)]) (fun (i : Nat) (c : Int) (Fa : Nat → Nat → Int) (Ga : Nat → Nat → Int) => (xput h Fa Ga)) (fun (i : Nat) (c : Int) (Fa : Nat → Nat → Int) (Ga : Nat → Nat → Int) => i ≤ 3 * n + 20 ∧ xfr 173 176 F G Fa Ga ∧ rnS Fa Ga 173 n 0 0 (-1) i (cnt (fun k9 => ps T n 0 (-1) (b : Int) i k9 = 7) n) c (ps T n 0 (-1) (b : Int) i) ∧ ∀ j, j < i → ¬ (ps T n 0 (-1) (b : Int) j k = md ∨ litAt T n 0 (-1) (b : Int) j)) 0 0 F1 G1 (⟨by omega, hv1, rnS_M hw1 (fun _ _ => rfl) ps_l0 rfl, fun k hk => absurd hk (by omega)⟩) (fun i c Fa Ga hp kk => ?_))
  obtain ⟨hi, hfr, hS1, hp⟩ := hp
  show qEy M_X11_mark 52 [qR 2, qI (n : Int), qI (b : Int), qI md, qI (k : Int), qR 173, qI (i : Int)] [] (xput h Fa Ga) Q
  have hT1 : ∀ c, c < 648 → Ga 6 c = T c := fun c hc => by rw [xfr_G hfr (by decide)]; exact hT c hc
  have c0 := cnt_bd (fun k9 => ps T n 0 (-1) (b : Int) i k9 = 7) n
  refine qy (fun _ _ k9 => z_iload d_X11_mark_52 rfl k9) ?_
  refine qy (fun _ _ k9 => z_aload d_X11_mark_54 rfl k9) ?_
  refine qy (fun _ _ k9 => z_getf (v := qI ((Fa 173) 7)) d_X11_mark_56 fl_X11_336 (xput_ob (c := (Fa 173)) xi_173 rfl (xsh_7 xo_173)) rfl k9) ?_
  refine qy (fun _ _ k9 => z_eq rfl (qc (qi hS1.2.1.1) rfl) rfl k9) ?_
  refine qy2 (fun _ _ => z_icmp_ge 103 d_X11_mark_59 (by decide)) (fun q59 => ?_) (fun q59 => ?_)
  · refine qy (fun _ _ k9 => z_aload d_X11_mark_103 rfl k9) ?_
    refine qy (fun _ _ k9 => z_getf (v := qR 174) d_X11_mark_105 fl_X11_339 (xput_ob (c := (Fa 173)) xi_173 rfl (xsh_7 xo_173)) rfl k9) ?_
    refine qy (fun _ _ k9 => z_iload d_X11_mark_108 rfl k9) ?_
    refine qy (fun _ _ k9 => z_ild k d_X11_mark_110 (xput_ar (g := (Ga 174)) xa_174 rfl) rfl (by omega) k9) ?_
    refine qy (fun _ _ k9 => z_eq rfl (qc (qi (hS1.2.2 k hk)) rfl) rfl k9) ?_
    refine qy (fun _ _ k9 => z_iload_n d_X11_mark_111 rfl rfl k9) ?_
    suffices kJ112 : qEy M_X11_mark 124 [qR 2, qI (n : Int), qI (b : Int), qI md, qI (k : Int), qR 173, qI (i : Int)] [qI (qif ((ps T n 0 (-1) (b : Int) i k) ≠ md) (-1) (i : Int))] (xput h Fa Ga) Q by
      refine qy2 (fun _ _ => z_icmp_ne 123 d_X11_mark_112 (by decide)) (fun hc4 => ?_) (fun hc4 => ?_)
      · refine qy (fun _ _ k9 => z_iconst d_X11_mark_123 (by decide) k9) ?_
        exact qy (fun _ _ k9 => z_eq rfl (qc (qi (qif_t hc4).symm) rfl) rfl k9) kJ112
      · refine qy (fun _ _ k9 => z_aload d_X11_mark_115 rfl k9) ?_
        refine qy (fun _ _ k9 => z_getf (v := qI ((Fa 173) 8)) d_X11_mark_117 fl_X11_323 (xput_ob (c := (Fa 173)) xi_173 rfl (xsh_7 xo_173)) rfl k9) ?_
        refine qy (fun _ _ k9 => z_eq rfl (qc (qi hS1.2.1.2.1) rfl) rfl k9) ?_
        refine qy (fun _ _ k9 => z_goto 124 d_X11_mark_120 (by decide) k9) ?_
        exact qy (fun _ _ k9 => z_eq rfl (qc (qi (qif_f hc4).symm) rfl) rfl k9) kJ112
    exact y_ret (hQ Fa Ga hfr) (z_iret d_X11_mark_124 rfl (qsi ((mk_end hi hp (Or.inl (by omega))).trans (qif_not (P := ps T n 0 (-1) (b : Int) i k = md)).symm)) rfl)
  · refine qy (fun _ _ k9 => z_aload d_X11_mark_62 rfl k9) ?_
    refine qy (fun _ _ k9 => z_getf (v := qI ((Fa 173) 9)) d_X11_mark_64 fl_X11_320 (xput_ob (c := (Fa 173)) xi_173 rfl (xsh_7 xo_173)) rfl k9) ?_
    refine qy (fun _ _ k9 => z_eq rfl (qc (qi hS1.2.1.2.2.1) rfl) rfl k9) ?_
    refine qy2 (fun _ _ => z_if_ne 103 d_X11_mark_67 (by decide)) (fun q67 => ?_) (fun q67 => ?_)
    · refine qy (fun _ _ k9 => z_aload d_X11_mark_103 rfl k9) ?_
      refine qy (fun _ _ k9 => z_getf (v := qR 174) d_X11_mark_105 fl_X11_339 (xput_ob (c := (Fa 173)) xi_173 rfl (xsh_7 xo_173)) rfl k9) ?_
      refine qy (fun _ _ k9 => z_iload d_X11_mark_108 rfl k9) ?_
      refine qy (fun _ _ k9 => z_ild k d_X11_mark_110 (xput_ar (g := (Ga 174)) xa_174 rfl) rfl (by omega) k9) ?_
      refine qy (fun _ _ k9 => z_eq rfl (qc (qi (hS1.2.2 k hk)) rfl) rfl k9) ?_
      refine qy (fun _ _ k9 => z_iload_n d_X11_mark_111 rfl rfl k9) ?_
      suffices kJ112 : qEy M_X11_mark 124 [qR 2, qI (n : Int), qI (b : Int), qI md, qI (k : Int), qR 173, qI (i : Int)] [qI (qif ((ps T n 0 (-1) (b : Int) i k) ≠ md) (-1) (i : Int))] (xput h Fa Ga) Q by
        refine qy2 (fun _ _ => z_icmp_ne 123 d_X11_mark_112 (by decide)) (fun hc5 => ?_) (fun hc5 => ?_)
        · refine qy (fun _ _ k9 => z_iconst d_X11_mark_123 (by decide) k9) ?_
          exact qy (fun _ _ k9 => z_eq rfl (qc (qi (qif_t hc5).symm) rfl) rfl k9) kJ112
        · refine qy (fun _ _ k9 => z_aload d_X11_mark_115 rfl k9) ?_
          refine qy (fun _ _ k9 => z_getf (v := qI ((Fa 173) 8)) d_X11_mark_117 fl_X11_323 (xput_ob (c := (Fa 173)) xi_173 rfl (xsh_7 xo_173)) rfl k9) ?_
          refine qy (fun _ _ k9 => z_eq rfl (qc (qi hS1.2.1.2.1) rfl) rfl k9) ?_
          refine qy (fun _ _ k9 => z_goto 124 d_X11_mark_120 (by decide) k9) ?_
          exact qy (fun _ _ k9 => z_eq rfl (qc (qi (qif_f hc5).symm) rfl) rfl k9) kJ112
      exact y_ret (hQ Fa Ga hfr) (z_iret d_X11_mark_124 rfl (qsi ((mk_end hi hp (Or.inr (Or.inl (show cnt _ n > 0 by omega)))).trans (qif_not (P := ps T n 0 (-1) (b : Int) i k = md)).symm)) rfl)
    · refine qy (fun _ _ k9 => z_aload d_X11_mark_70 rfl k9) ?_
      refine qy (fun _ _ k9 => z_getf (v := qR 174) d_X11_mark_72 fl_X11_339 (xput_ob (c := (Fa 173)) xi_173 rfl (xsh_7 xo_173)) rfl k9) ?_
      refine qy (fun _ _ k9 => z_iload d_X11_mark_75 rfl k9) ?_
      refine qy (fun _ _ k9 => z_ild k d_X11_mark_77 (xput_ar (g := (Ga 174)) xa_174 rfl) rfl (by omega) k9) ?_
      refine qy (fun _ _ k9 => z_eq rfl (qc (qi (hS1.2.2 k hk)) rfl) rfl k9) ?_
      refine qy (fun _ _ k9 => z_iload_n d_X11_mark_78 rfl rfl k9) ?_
      refine qy2 (fun _ _ => z_icmp_eq 103 d_X11_mark_79 (by decide)) (fun q79 => ?_) (fun q79 => ?_)
      · refine qy (fun _ _ k9 => z_aload d_X11_mark_103 rfl k9) ?_
        refine qy (fun _ _ k9 => z_getf (v := qR 174) d_X11_mark_105 fl_X11_339 (xput_ob (c := (Fa 173)) xi_173 rfl (xsh_7 xo_173)) rfl k9) ?_
        refine qy (fun _ _ k9 => z_iload d_X11_mark_108 rfl k9) ?_
        refine qy (fun _ _ k9 => z_ild k d_X11_mark_110 (xput_ar (g := (Ga 174)) xa_174 rfl) rfl (by omega) k9) ?_
        refine qy (fun _ _ k9 => z_eq rfl (qc (qi (hS1.2.2 k hk)) rfl) rfl k9) ?_
        refine qy (fun _ _ k9 => z_iload_n d_X11_mark_111 rfl rfl k9) ?_
        suffices kJ112 : qEy M_X11_mark 124 [qR 2, qI (n : Int), qI (b : Int), qI md, qI (k : Int), qR 173, qI (i : Int)] [qI (qif ((ps T n 0 (-1) (b : Int) i k) ≠ md) (-1) (i : Int))] (xput h Fa Ga) Q by
          refine qy2 (fun _ _ => z_icmp_ne 123 d_X11_mark_112 (by decide)) (fun hc6 => ?_) (fun hc6 => ?_)
          · refine qy (fun _ _ k9 => z_iconst d_X11_mark_123 (by decide) k9) ?_
            exact qy (fun _ _ k9 => z_eq rfl (qc (qi (qif_t hc6).symm) rfl) rfl k9) kJ112
          · refine qy (fun _ _ k9 => z_aload d_X11_mark_115 rfl k9) ?_
            refine qy (fun _ _ k9 => z_getf (v := qI ((Fa 173) 8)) d_X11_mark_117 fl_X11_323 (xput_ob (c := (Fa 173)) xi_173 rfl (xsh_7 xo_173)) rfl k9) ?_
            refine qy (fun _ _ k9 => z_eq rfl (qc (qi hS1.2.1.2.1) rfl) rfl k9) ?_
            refine qy (fun _ _ k9 => z_goto 124 d_X11_mark_120 (by decide) k9) ?_
            exact qy (fun _ _ k9 => z_eq rfl (qc (qi (qif_f hc6).symm) rfl) rfl k9) kJ112
        exact y_ret (hQ Fa Ga hfr) (z_iret d_X11_mark_124 rfl (qsi ((mk_end hi hp (Or.inr (Or.inr q79))).trans (qif_not (P := ps T n 0 (-1) (b : Int) i k = md)).symm)) rfl)
      · refine qy (fun _ _ k9 => z_aload d_X11_mark_82 rfl k9) ?_
        refine qy (fun _ _ k9 => z_aload_n d_X11_mark_84 rfl rfl k9) ?_
        refine qy (fun _ _ k9 => z_getf (v := qR 3) d_X11_mark_85 fl_X11_12 (xput_ob (c := (Fa 2)) xi_2 rfl (xsh_11 xo_2)) rfl k9) ?_
        refine qy (fun _ _ k9 => z_getf (v := qR 4) d_X11_mark_88 fl_X11_144 (xput_ob (c := (Fa 3)) xi_3 rfl (xsh_8 xo_3)) rfl k9) ?_
        refine qy (fun _ _ k9 => z_getf (v := qR 6) d_X11_mark_91 fl_X11_243 (xput_ob (c := (Fa 4)) xi_4 rfl (xsh_0 xo_4)) rfl k9) ?_
        obtain ⟨F2, G2, ⟨hv2, hw2⟩, hx2⟩ := c_rnBr (h := h) (F := Fa) (G := Ga) (u := 173) (d := 6) (n := n) (rg := 0) (t := i) (df := (-1)) (M := (ps T n 0 (-1) (b : Int) i)) (T := T) (by decide) xo_173 xa_6 (by decide) hn (by decide) (by omega) hT1 hS1 (ps_bd hB i)
        refine qy (fun _ _ k9 => z_cv0 (M1 := M_X7_breathe) d_X11_mark_94 lv_X11_340 k_X7_breathe [qR 6] rfl rfl (xput_ob (c := (Fa 173)) xi_173 rfl (xsh_7 xo_173)) ⟨_, _, rfl⟩ (Nat.le_of_ble_eq_true rfl) (by decide) (by decide) (Nat.le_of_ble_eq_true rfl) hx2 k9) ?_
        refine qy (fun _ _ k9 => z_iinc (ls' := [qR 2, qI (n : Int), qI (b : Int), qI md, qI (k : Int), qR 173, qI ((i : Int) + 1)]) d_X11_mark_97 rfl (by decide) (by omega) rfl k9) ?_
        refine qy (fun _ _ k9 => z_goto 52 d_X11_mark_100 (by decide) k9) ?_
        exact qy (fun _ _ k9 => z_eq (qc rfl (qc rfl (qc rfl (qc rfl (qc rfl (qc rfl (qc (qi (by omega)) rfl))))))) rfl rfl k9) (kk (i + 1) (cnt (fun k9 => ps T n 0 (-1) (b : Int) (i + 1) k9 ≠ ps T n 0 (-1) (b : Int) i k9) n) F2 G2 (⟨by omega, xfr_tr hfr hv2, hw2, q_lts hp (by rintro (z | z); exact q79 z; (have z2 : cnt (fun k9 => ps T n 0 (-1) (b : Int) i k9 = 7) n > 0 := z; omega))⟩) (by omega))
set_option maxRecDepth 20000 in
set_option maxHeartbeats 4000000 in
theorem xc_stir0 {h : qH} {F G : Nat → Nat → Int} {n b : Nat} {T : Nat → Int} (hn : 1 ≤ n ∧ n ≤ 32) (hb : b < n) (hT : ∀ c, c < 648 → G 6 c = T c) (hB : ∀ c, c < 648 → 0 ≤ T c ∧ T c ≤ 7) : ∃ F' G', (xfr 173 176 F G F' G') ∧ qEx M_X11_stir 0 [qR 2, qI (n : Int), qI (b : Int), qI 0, qU, qU, qU, qU, qU] [] (xput h F G) (some (qI (sgS T n (b : Int) (rnJ T n 0 (b : Int))))) (xput h F' G') := by
  refine x_in (fun Q hQ => ?_)
  refine qy (fun _ _ k9 => z_iload_n d_X11_stir_0 rfl rfl k9) ?_
  refine qy (fun _ _ k9 => z_iload_n d_X11_stir_1 rfl rfl k9) ?_
  refine qy (fun _ _ k9 => z_cs (M1 := M_X11_isRun) d_X11_stir_2 ls_X11_280 k_X11_isRun [qI (n : Int), qI (b : Int)] rfl rfl (Nat.le_of_ble_eq_true rfl) (by decide) (by decide) (Nat.le_of_ble_eq_true rfl) (c_isRun (n : Int) (b : Int) (by omega)) k9) ?_
  refine qy2n (fun _ _ => z_ifeqB 17 d_X11_stir_5 (by decide)) (fun hc1 => absurd hc1 (by omega)) (fun hc1 => ?_)
  refine qy (fun _ _ k9 => z_iload_n d_X11_stir_8 rfl rfl k9) ?_
  refine qy (fun _ _ k9 => z_iconst d_X11_stir_9 (by decide) k9) ?_
  refine qy (fun _ _ k9 => z_iconst d_X11_stir_10 (by decide) k9) ?_
  refine qy (fun _ _ k9 => z_cs (M1 := M_X11_isWithin) d_X11_stir_11 ls_X11_62 k_X11_isWithin [qI 0, qI 0, qI 2] rfl rfl (Nat.le_of_ble_eq_true rfl) (by decide) (by decide) (Nat.le_of_ble_eq_true rfl) (c_isWithin 0 0 2) k9) ?_
  refine qy2 (fun _ _ => z_ifneB 19 d_X11_stir_14 (by decide)) (fun hc2 => ?_) (fun hc2 => absurd hc2 (by omega))
  refine qy (fun _ _ k9 => z_aload_n d_X11_stir_19 rfl rfl k9) ?_
  refine qy (fun _ _ k9 => z_getf (v := qR 172) d_X11_stir_20 fl_X11_40 (xput_ob (c := (F 2)) xi_2 rfl (xsh_11 xo_2)) rfl k9) ?_
  refine qy (fun _ _ k9 => z_getf (v := qR 173) d_X11_stir_23 fl_X11_293 (xput_ob (c := (F 172)) xi_172 rfl (xsh_9 xo_172)) rfl k9) ?_
  refine qy (fun _ _ k9 => z_astore (ls' := [qR 2, qI (n : Int), qI (b : Int), qI 0, qR 173, qU, qU, qU, qU]) d_X11_stir_26 (by decide) rfl k9) ?_
  refine qy (fun _ _ k9 => z_aload d_X11_stir_28 rfl k9) ?_
  refine qy (fun _ _ k9 => z_iload_n d_X11_stir_30 rfl rfl k9) ?_
  refine qy (fun _ _ k9 => z_iload_n d_X11_stir_31 rfl rfl k9) ?_
  refine qy (fun _ _ k9 => z_iconst d_X11_stir_32 (by decide) k9) ?_
  obtain ⟨F1, G1, ⟨hv1, hw1, hu1, hg1⟩, hx1⟩ := c_rnStart (h := h) (F := F) (G := G) (u := 173) n b 0 (by decide) xo_173 (by omega) (by omega) (by decide)
  refine qy (fun _ _ k9 => z_cv0 (M1 := M_X7_start) d_X11_stir_33 lv_X11_297 k_X7_start [qI (n : Int), qI (b : Int), qI 0] rfl rfl (xput_ob (c := (F 173)) xi_173 rfl (xsh_7 xo_173)) ⟨_, _, rfl⟩ (Nat.le_of_ble_eq_true rfl) (by decide) (by decide) (Nat.le_of_ble_eq_true rfl) hx1 k9) ?_
  refine qy (fun _ _ k9 => z_iconst d_X11_stir_36 (by decide) k9) ?_
  refine qy (fun _ _ k9 => z_istore (ls' := [qR 2, qI (n : Int), qI (b : Int), qI 0, qR 173, qI 0, qU, qU, qU]) d_X11_stir_37 (by decide) rfl k9) ?_
  refine qy (fun _ _ k9 => z_iconst d_X11_stir_39 (by decide) k9) ?_
  refine qy (fun _ _ k9 => z_istore (ls' := [qR 2, qI (n : Int), qI (b : Int), qI 0, qR 173, qI 0, qI 0, qU, qU]) d_X11_stir_40 (by decide) rfl k9) ?_
  refine qy (fun _ _ k9 => z_iconst d_X11_stir_42 (by decide) k9) ?_
  refine qy (fun _ _ k9 => z_istore (ls' := [qR 2, qI (n : Int), qI (b : Int), qI 0, qR 173, qI 0, qI 0, qI (-1), qU]) d_X11_stir_43 (by decide) rfl k9) ?_
  refine qy (fun _ _ k9 => z_iconst d_X11_stir_45 (by decide) k9) ?_
  refine qy (fun _ _ k9 => z_istore (ls' := [qR 2, qI (n : Int), qI (b : Int), qI 0, qR 173, qI 0, qI 0, qI (-1), qI 1]) d_X11_stir_46 (by decide) rfl k9) ?_
  refine qy (fun _ _ k9 => z_eq (qc rfl (qc rfl (qc rfl (qc rfl (qc rfl (qc (qi (rfl)) (qc (qi (rfl)) (qc (qi (rfl)) (qc (qi (rfl)) rfl))))))))) rfl rfl k9) (y_wh4 (fun (i : Nat) (c : Int) (Fa : Nat → Nat → Int) (Ga : Nat → Nat → Int) => 3 * n + 20 - i) (fun (i : Nat) (c : Int) (Fa : Nat → Nat → Int) (Ga : Nat → Nat → Int) => [qR 2, qI (n : Int), qI (b : Int), qI 0, qR 173, qI (sgS T n (b : Int) i), qI (sgM T n (b : Int) i), qI (sgW T n (b : Int) i), qI ((i + 1 : Nat) : Int)]) (fun (i : Nat) (c : Int) (Fa : Nat → Nat → Int) (Ga : Nat → Nat → Int) => (xput h Fa Ga)) (fun (i : Nat) (c : Int) (Fa : Nat → Nat → Int) (Ga : Nat → Nat → Int) => i ≤ 3 * n + 20 ∧ xfr 173 176 F G Fa Ga ∧ rnS Fa Ga 173 n 0 0 (-1) i (cnt (fun k9 => ps T n 0 (-1) (b : Int) i k9 = 7) n) c (ps T n 0 (-1) (b : Int) i) ∧ ∀ j, j < i → ¬ litAt T n 0 (-1) (b : Int) j) 0 0 F1 G1 (⟨by omega, hv1, rnS_M hw1 (fun _ _ => rfl) ps_l0 rfl, fun k hk => absurd hk (by omega)⟩) (fun i c Fa Ga hp kk => ?_))
  obtain ⟨hi, hfr, hS1, hp⟩ := hp
  show qEy M_X11_stir 48 [qR 2, qI (n : Int), qI (b : Int), qI 0, qR 173, qI (sgS T n (b : Int) i), qI (sgM T n (b : Int) i), qI (sgW T n (b : Int) i), qI ((i + 1 : Nat) : Int)] [] (xput h Fa Ga) Q
  have hT1 : ∀ c, c < 648 → Ga 6 c = T c := fun c hc => by rw [xfr_G hfr (by decide)]; exact hT c hc
  have c0 := cnt_bd (fun k9 => ps T n 0 (-1) (b : Int) i k9 = 7) n
  have b1 := sgS_bd (T := T) (n := n) (b := (b : Int)) i
  refine qy (fun _ _ k9 => z_iload d_X11_stir_48 rfl k9) ?_
  refine qy (fun _ _ k9 => z_aload d_X11_stir_50 rfl k9) ?_
  refine qy (fun _ _ k9 => z_getf (v := qI ((Fa 173) 7)) d_X11_stir_52 fl_X11_336 (xput_ob (c := (Fa 173)) xi_173 rfl (xsh_7 xo_173)) rfl k9) ?_
  refine qy (fun _ _ k9 => z_eq rfl (qc (qi hS1.2.1.1) rfl) rfl k9) ?_
  refine qy2 (fun _ _ => z_icmp_gt 119 d_X11_stir_55 (by decide)) (fun q55 => ?_) (fun q55 => ?_)
  · refine qy (fun _ _ k9 => z_iload_n d_X11_stir_119 rfl rfl k9) ?_
    refine qy2 (fun _ _ => z_if_ne 126 d_X11_stir_120 (by decide)) (fun hc3 => absurd hc3 (by decide)) (fun hc3 => ?_)
    refine qy (fun _ _ k9 => z_iload d_X11_stir_123 rfl k9) ?_
    exact y_ret (hQ Fa Ga hfr) (z_iret d_X11_stir_125 rfl (qsi (by rw [rnJ_at hi hp (Or.inl (by omega))])) rfl)
  · refine qy (fun _ _ k9 => z_aload d_X11_stir_58 rfl k9) ?_
    refine qy (fun _ _ k9 => z_getf (v := qI ((Fa 173) 9)) d_X11_stir_60 fl_X11_320 (xput_ob (c := (Fa 173)) xi_173 rfl (xsh_7 xo_173)) rfl k9) ?_
    refine qy (fun _ _ k9 => z_eq rfl (qc (qi hS1.2.1.2.2.1) rfl) rfl k9) ?_
    refine qy2 (fun _ _ => z_if_ne 119 d_X11_stir_63 (by decide)) (fun q63 => ?_) (fun q63 => ?_)
    · refine qy (fun _ _ k9 => z_iload_n d_X11_stir_119 rfl rfl k9) ?_
      refine qy2 (fun _ _ => z_if_ne 126 d_X11_stir_120 (by decide)) (fun hc4 => absurd hc4 (by decide)) (fun hc4 => ?_)
      refine qy (fun _ _ k9 => z_iload d_X11_stir_123 rfl k9) ?_
      exact y_ret (hQ Fa Ga hfr) (z_iret d_X11_stir_125 rfl (qsi (by rw [rnJ_at hi hp (Or.inr (show cnt _ n > 0 by omega))])) rfl)
    · refine qy (fun _ _ k9 => z_aload d_X11_stir_66 rfl k9) ?_
      refine qy (fun _ _ k9 => z_aload_n d_X11_stir_68 rfl rfl k9) ?_
      refine qy (fun _ _ k9 => z_getf (v := qR 3) d_X11_stir_69 fl_X11_12 (xput_ob (c := (Fa 2)) xi_2 rfl (xsh_11 xo_2)) rfl k9) ?_
      refine qy (fun _ _ k9 => z_getf (v := qR 4) d_X11_stir_72 fl_X11_144 (xput_ob (c := (Fa 3)) xi_3 rfl (xsh_8 xo_3)) rfl k9) ?_
      refine qy (fun _ _ k9 => z_getf (v := qR 6) d_X11_stir_75 fl_X11_243 (xput_ob (c := (Fa 4)) xi_4 rfl (xsh_0 xo_4)) rfl k9) ?_
      obtain ⟨F2, G2, ⟨hv2, hw2⟩, hx2⟩ := c_rnBr (h := h) (F := Fa) (G := Ga) (u := 173) (d := 6) (n := n) (rg := 0) (t := i) (df := (-1)) (M := (ps T n 0 (-1) (b : Int) i)) (T := T) (by decide) xo_173 xa_6 (by decide) hn (by decide) (by omega) hT1 hS1 (ps_bd hB i)
      refine qy (fun _ _ k9 => z_cv0 (M1 := M_X7_breathe) d_X11_stir_78 lv_X11_340 k_X7_breathe [qR 6] rfl rfl (xput_ob (c := (Fa 173)) xi_173 rfl (xsh_7 xo_173)) ⟨_, _, rfl⟩ (Nat.le_of_ble_eq_true rfl) (by decide) (by decide) (Nat.le_of_ble_eq_true rfl) hx2 k9) ?_
      refine qy (fun _ _ k9 => z_aload d_X11_stir_81 rfl k9) ?_
      refine qy (fun _ _ k9 => z_getf (v := qI ((F2 173) 10)) d_X11_stir_83 fl_X11_351 (xput_ob (c := (F2 173)) xi_173 rfl (xsh_7 xo_173)) rfl k9) ?_
      refine qy (fun _ _ k9 => z_eq rfl (qc (qi hw2.2.1.2.2.2) rfl) rfl k9) ?_
      suffices kJ86 : qEy M_X11_stir 92 [qR 2, qI (n : Int), qI (b : Int), qI 0, qR 173, qI (qif ((sgC T n (b : Int) i) ≠ 0) (sgS T n (b : Int) i) ((sgS T n (b : Int) i) + 1)), qI (sgM T n (b : Int) i), qI (sgW T n (b : Int) i), qI ((i + 1 : Nat) : Int)] [] (xput h F2 G2) Q by
        refine qy2 (fun _ _ => z_if_ne 92 d_X11_stir_86 (by decide)) (fun hc5 => ?_) (fun hc5 => ?_)
        · exact qy (fun _ _ k9 => z_eq (qc rfl (qc rfl (qc rfl (qc rfl (qc rfl (qc (qi (qif_t hc5).symm) (qc rfl (qc rfl (qc rfl rfl))))))))) rfl rfl k9) kJ86
        · refine qy (fun _ _ k9 => z_iinc (ls' := [qR 2, qI (n : Int), qI (b : Int), qI 0, qR 173, qI ((sgS T n (b : Int) i) + 1), qI (sgM T n (b : Int) i), qI (sgW T n (b : Int) i), qI ((i + 1 : Nat) : Int)]) d_X11_stir_89 rfl (by decide) (by omega) rfl k9) ?_
          exact qy (fun _ _ k9 => z_eq (qc rfl (qc rfl (qc rfl (qc rfl (qc rfl (qc (qi (qif_f hc5).symm) (qc rfl (qc rfl (qc rfl rfl))))))))) rfl rfl k9) kJ86
      refine qy (fun _ _ k9 => z_aload d_X11_stir_92 rfl k9) ?_
      refine qy (fun _ _ k9 => z_getf (v := qI ((F2 173) 10)) d_X11_stir_94 fl_X11_351 (xput_ob (c := (F2 173)) xi_173 rfl (xsh_7 xo_173)) rfl k9) ?_
      refine qy (fun _ _ k9 => z_eq rfl (qc (qi hw2.2.1.2.2.2) rfl) rfl k9) ?_
      refine qy (fun _ _ k9 => z_iload d_X11_stir_97 rfl k9) ?_
      suffices kJ99 : qEy M_X11_stir 113 [qR 2, qI (n : Int), qI (b : Int), qI 0, qR 173, qI (qif ((sgC T n (b : Int) i) ≠ 0) (sgS T n (b : Int) i) ((sgS T n (b : Int) i) + 1)), qI (qif ((sgC T n (b : Int) i) ≤ (sgM T n (b : Int) i)) (sgM T n (b : Int) i) (sgC T n (b : Int) i)), qI (qif ((sgC T n (b : Int) i) ≤ (sgM T n (b : Int) i)) (sgW T n (b : Int) i) ((i + 1 : Nat) : Int)), qI ((i + 1 : Nat) : Int)] [] (xput h F2 G2) Q by
        refine qy2 (fun _ _ => z_icmp_le 113 d_X11_stir_99 (by decide)) (fun hc6 => ?_) (fun hc6 => ?_)
        · exact qy (fun _ _ k9 => z_eq (qc rfl (qc rfl (qc rfl (qc rfl (qc rfl (qc rfl (qc (qi (qif_t hc6).symm) (qc (qi (qif_t hc6).symm) (qc rfl rfl))))))))) rfl rfl k9) kJ99
        · refine qy (fun _ _ k9 => z_aload d_X11_stir_102 rfl k9) ?_
          refine qy (fun _ _ k9 => z_getf (v := qI ((F2 173) 10)) d_X11_stir_104 fl_X11_351 (xput_ob (c := (F2 173)) xi_173 rfl (xsh_7 xo_173)) rfl k9) ?_
          refine qy (fun _ _ k9 => z_eq rfl (qc (qi hw2.2.1.2.2.2) rfl) rfl k9) ?_
          refine qy (fun _ _ k9 => z_istore (ls' := [qR 2, qI (n : Int), qI (b : Int), qI 0, qR 173, qI (qif ((sgC T n (b : Int) i) ≠ 0) (sgS T n (b : Int) i) ((sgS T n (b : Int) i) + 1)), qI (sgC T n (b : Int) i), qI (sgW T n (b : Int) i), qI ((i + 1 : Nat) : Int)]) d_X11_stir_107 (by decide) rfl k9) ?_
          refine qy (fun _ _ k9 => z_iload d_X11_stir_109 rfl k9) ?_
          refine qy (fun _ _ k9 => z_istore (ls' := [qR 2, qI (n : Int), qI (b : Int), qI 0, qR 173, qI (qif ((sgC T n (b : Int) i) ≠ 0) (sgS T n (b : Int) i) ((sgS T n (b : Int) i) + 1)), qI (sgC T n (b : Int) i), qI ((i + 1 : Nat) : Int), qI ((i + 1 : Nat) : Int)]) d_X11_stir_111 (by decide) rfl k9) ?_
          exact qy (fun _ _ k9 => z_eq (qc rfl (qc rfl (qc rfl (qc rfl (qc rfl (qc rfl (qc (qi (qif_f hc6).symm) (qc (qi (qif_f hc6).symm) (qc rfl rfl))))))))) rfl rfl k9) kJ99
      refine qy (fun _ _ k9 => z_iinc (ls' := [qR 2, qI (n : Int), qI (b : Int), qI 0, qR 173, qI (qif ((sgC T n (b : Int) i) ≠ 0) (sgS T n (b : Int) i) ((sgS T n (b : Int) i) + 1)), qI (qif ((sgC T n (b : Int) i) ≤ (sgM T n (b : Int) i)) (sgM T n (b : Int) i) (sgC T n (b : Int) i)), qI (qif ((sgC T n (b : Int) i) ≤ (sgM T n (b : Int) i)) (sgW T n (b : Int) i) ((i + 1 : Nat) : Int)), qI (((i + 1 : Nat) : Int) + 1)]) d_X11_stir_113 rfl (by decide) (by omega) rfl k9) ?_
      refine qy (fun _ _ k9 => z_goto 48 d_X11_stir_116 (by decide) k9) ?_
      exact qy (fun _ _ k9 => z_eq (qc rfl (qc rfl (qc rfl (qc rfl (qc rfl (qc (qi (sgS_s (T := T) (n := n) (b := (b : Int)) (i := i))) (qc (qi (sgM_s (T := T) (n := n) (b := (b : Int)) (i := i))) (qc (qi (sgW_s (T := T) (n := n) (b := (b : Int)) (i := i))) (qc (qi (by omega)) rfl))))))))) rfl rfl k9) (kk (i + 1) (sgC T n (b : Int) i) F2 G2 (⟨by omega, xfr_tr hfr hv2, hw2, q_lts hp (fun z => by have z2 : cnt (fun k9 => ps T n 0 (-1) (b : Int) i k9 = 7) n > 0 := z; omega)⟩) (by omega))
set_option maxRecDepth 20000 in
set_option maxHeartbeats 4000000 in
theorem xc_stir1 {h : qH} {F G : Nat → Nat → Int} {n b : Nat} {T : Nat → Int} (hn : 1 ≤ n ∧ n ≤ 32) (hb : b < n) (hT : ∀ c, c < 648 → G 6 c = T c) (hB : ∀ c, c < 648 → 0 ≤ T c ∧ T c ≤ 7) : ∃ F' G', (xfr 173 176 F G F' G') ∧ qEx M_X11_stir 0 [qR 2, qI (n : Int), qI (b : Int), qI 1, qU, qU, qU, qU, qU] [] (xput h F G) (some (qI (sgM T n (b : Int) (rnJ T n 0 (b : Int))))) (xput h F' G') := by
  refine x_in (fun Q hQ => ?_)
  refine qy (fun _ _ k9 => z_iload_n d_X11_stir_0 rfl rfl k9) ?_
  refine qy (fun _ _ k9 => z_iload_n d_X11_stir_1 rfl rfl k9) ?_
  refine qy (fun _ _ k9 => z_cs (M1 := M_X11_isRun) d_X11_stir_2 ls_X11_280 k_X11_isRun [qI (n : Int), qI (b : Int)] rfl rfl (Nat.le_of_ble_eq_true rfl) (by decide) (by decide) (Nat.le_of_ble_eq_true rfl) (c_isRun (n : Int) (b : Int) (by omega)) k9) ?_
  refine qy2n (fun _ _ => z_ifeqB 17 d_X11_stir_5 (by decide)) (fun hc1 => absurd hc1 (by omega)) (fun hc1 => ?_)
  refine qy (fun _ _ k9 => z_iload_n d_X11_stir_8 rfl rfl k9) ?_
  refine qy (fun _ _ k9 => z_iconst d_X11_stir_9 (by decide) k9) ?_
  refine qy (fun _ _ k9 => z_iconst d_X11_stir_10 (by decide) k9) ?_
  refine qy (fun _ _ k9 => z_cs (M1 := M_X11_isWithin) d_X11_stir_11 ls_X11_62 k_X11_isWithin [qI 1, qI 0, qI 2] rfl rfl (Nat.le_of_ble_eq_true rfl) (by decide) (by decide) (Nat.le_of_ble_eq_true rfl) (c_isWithin 1 0 2) k9) ?_
  refine qy2 (fun _ _ => z_ifneB 19 d_X11_stir_14 (by decide)) (fun hc2 => ?_) (fun hc2 => absurd hc2 (by omega))
  refine qy (fun _ _ k9 => z_aload_n d_X11_stir_19 rfl rfl k9) ?_
  refine qy (fun _ _ k9 => z_getf (v := qR 172) d_X11_stir_20 fl_X11_40 (xput_ob (c := (F 2)) xi_2 rfl (xsh_11 xo_2)) rfl k9) ?_
  refine qy (fun _ _ k9 => z_getf (v := qR 173) d_X11_stir_23 fl_X11_293 (xput_ob (c := (F 172)) xi_172 rfl (xsh_9 xo_172)) rfl k9) ?_
  refine qy (fun _ _ k9 => z_astore (ls' := [qR 2, qI (n : Int), qI (b : Int), qI 1, qR 173, qU, qU, qU, qU]) d_X11_stir_26 (by decide) rfl k9) ?_
  refine qy (fun _ _ k9 => z_aload d_X11_stir_28 rfl k9) ?_
  refine qy (fun _ _ k9 => z_iload_n d_X11_stir_30 rfl rfl k9) ?_
  refine qy (fun _ _ k9 => z_iload_n d_X11_stir_31 rfl rfl k9) ?_
  refine qy (fun _ _ k9 => z_iconst d_X11_stir_32 (by decide) k9) ?_
  obtain ⟨F1, G1, ⟨hv1, hw1, hu1, hg1⟩, hx1⟩ := c_rnStart (h := h) (F := F) (G := G) (u := 173) n b 0 (by decide) xo_173 (by omega) (by omega) (by decide)
  refine qy (fun _ _ k9 => z_cv0 (M1 := M_X7_start) d_X11_stir_33 lv_X11_297 k_X7_start [qI (n : Int), qI (b : Int), qI 0] rfl rfl (xput_ob (c := (F 173)) xi_173 rfl (xsh_7 xo_173)) ⟨_, _, rfl⟩ (Nat.le_of_ble_eq_true rfl) (by decide) (by decide) (Nat.le_of_ble_eq_true rfl) hx1 k9) ?_
  refine qy (fun _ _ k9 => z_iconst d_X11_stir_36 (by decide) k9) ?_
  refine qy (fun _ _ k9 => z_istore (ls' := [qR 2, qI (n : Int), qI (b : Int), qI 1, qR 173, qI 0, qU, qU, qU]) d_X11_stir_37 (by decide) rfl k9) ?_
  refine qy (fun _ _ k9 => z_iconst d_X11_stir_39 (by decide) k9) ?_
  refine qy (fun _ _ k9 => z_istore (ls' := [qR 2, qI (n : Int), qI (b : Int), qI 1, qR 173, qI 0, qI 0, qU, qU]) d_X11_stir_40 (by decide) rfl k9) ?_
  refine qy (fun _ _ k9 => z_iconst d_X11_stir_42 (by decide) k9) ?_
  refine qy (fun _ _ k9 => z_istore (ls' := [qR 2, qI (n : Int), qI (b : Int), qI 1, qR 173, qI 0, qI 0, qI (-1), qU]) d_X11_stir_43 (by decide) rfl k9) ?_
  refine qy (fun _ _ k9 => z_iconst d_X11_stir_45 (by decide) k9) ?_
  refine qy (fun _ _ k9 => z_istore (ls' := [qR 2, qI (n : Int), qI (b : Int), qI 1, qR 173, qI 0, qI 0, qI (-1), qI 1]) d_X11_stir_46 (by decide) rfl k9) ?_
  refine qy (fun _ _ k9 => z_eq (qc rfl (qc rfl (qc rfl (qc rfl (qc rfl (qc (qi (rfl)) (qc (qi (rfl)) (qc (qi (rfl)) (qc (qi (rfl)) rfl))))))))) rfl rfl k9) (y_wh4 (fun (i : Nat) (c : Int) (Fa : Nat → Nat → Int) (Ga : Nat → Nat → Int) => 3 * n + 20 - i) (fun (i : Nat) (c : Int) (Fa : Nat → Nat → Int) (Ga : Nat → Nat → Int) => [qR 2, qI (n : Int), qI (b : Int), qI 1, qR 173, qI (sgS T n (b : Int) i), qI (sgM T n (b : Int) i), qI (sgW T n (b : Int) i), qI ((i + 1 : Nat) : Int)]) (fun (i : Nat) (c : Int) (Fa : Nat → Nat → Int) (Ga : Nat → Nat → Int) => (xput h Fa Ga)) (fun (i : Nat) (c : Int) (Fa : Nat → Nat → Int) (Ga : Nat → Nat → Int) => i ≤ 3 * n + 20 ∧ xfr 173 176 F G Fa Ga ∧ rnS Fa Ga 173 n 0 0 (-1) i (cnt (fun k9 => ps T n 0 (-1) (b : Int) i k9 = 7) n) c (ps T n 0 (-1) (b : Int) i) ∧ ∀ j, j < i → ¬ litAt T n 0 (-1) (b : Int) j) 0 0 F1 G1 (⟨by omega, hv1, rnS_M hw1 (fun _ _ => rfl) ps_l0 rfl, fun k hk => absurd hk (by omega)⟩) (fun i c Fa Ga hp kk => ?_))
  obtain ⟨hi, hfr, hS1, hp⟩ := hp
  show qEy M_X11_stir 48 [qR 2, qI (n : Int), qI (b : Int), qI 1, qR 173, qI (sgS T n (b : Int) i), qI (sgM T n (b : Int) i), qI (sgW T n (b : Int) i), qI ((i + 1 : Nat) : Int)] [] (xput h Fa Ga) Q
  have hT1 : ∀ c, c < 648 → Ga 6 c = T c := fun c hc => by rw [xfr_G hfr (by decide)]; exact hT c hc
  have c0 := cnt_bd (fun k9 => ps T n 0 (-1) (b : Int) i k9 = 7) n
  have b1 := sgS_bd (T := T) (n := n) (b := (b : Int)) i
  refine qy (fun _ _ k9 => z_iload d_X11_stir_48 rfl k9) ?_
  refine qy (fun _ _ k9 => z_aload d_X11_stir_50 rfl k9) ?_
  refine qy (fun _ _ k9 => z_getf (v := qI ((Fa 173) 7)) d_X11_stir_52 fl_X11_336 (xput_ob (c := (Fa 173)) xi_173 rfl (xsh_7 xo_173)) rfl k9) ?_
  refine qy (fun _ _ k9 => z_eq rfl (qc (qi hS1.2.1.1) rfl) rfl k9) ?_
  refine qy2 (fun _ _ => z_icmp_gt 119 d_X11_stir_55 (by decide)) (fun q55 => ?_) (fun q55 => ?_)
  · refine qy (fun _ _ k9 => z_iload_n d_X11_stir_119 rfl rfl k9) ?_
    refine qy2 (fun _ _ => z_if_ne 126 d_X11_stir_120 (by decide)) (fun hc3 => ?_) (fun hc3 => absurd (by decide) hc3)
    refine qy (fun _ _ k9 => z_iload_n d_X11_stir_126 rfl rfl k9) ?_
    refine qy (fun _ _ k9 => z_iconst d_X11_stir_127 (by decide) k9) ?_
    refine qy2 (fun _ _ => z_icmp_ne 136 d_X11_stir_128 (by decide)) (fun hc4 => absurd hc4 (by decide)) (fun hc4 => ?_)
    refine qy (fun _ _ k9 => z_iload d_X11_stir_131 rfl k9) ?_
    refine qy (fun _ _ k9 => z_goto 138 d_X11_stir_133 (by decide) k9) ?_
    exact y_ret (hQ Fa Ga hfr) (z_iret d_X11_stir_138 rfl (qsi (by rw [rnJ_at hi hp (Or.inl (by omega))])) rfl)
  · refine qy (fun _ _ k9 => z_aload d_X11_stir_58 rfl k9) ?_
    refine qy (fun _ _ k9 => z_getf (v := qI ((Fa 173) 9)) d_X11_stir_60 fl_X11_320 (xput_ob (c := (Fa 173)) xi_173 rfl (xsh_7 xo_173)) rfl k9) ?_
    refine qy (fun _ _ k9 => z_eq rfl (qc (qi hS1.2.1.2.2.1) rfl) rfl k9) ?_
    refine qy2 (fun _ _ => z_if_ne 119 d_X11_stir_63 (by decide)) (fun q63 => ?_) (fun q63 => ?_)
    · refine qy (fun _ _ k9 => z_iload_n d_X11_stir_119 rfl rfl k9) ?_
      refine qy2 (fun _ _ => z_if_ne 126 d_X11_stir_120 (by decide)) (fun hc5 => ?_) (fun hc5 => absurd (by decide) hc5)
      refine qy (fun _ _ k9 => z_iload_n d_X11_stir_126 rfl rfl k9) ?_
      refine qy (fun _ _ k9 => z_iconst d_X11_stir_127 (by decide) k9) ?_
      refine qy2 (fun _ _ => z_icmp_ne 136 d_X11_stir_128 (by decide)) (fun hc6 => absurd hc6 (by decide)) (fun hc6 => ?_)
      refine qy (fun _ _ k9 => z_iload d_X11_stir_131 rfl k9) ?_
      refine qy (fun _ _ k9 => z_goto 138 d_X11_stir_133 (by decide) k9) ?_
      exact y_ret (hQ Fa Ga hfr) (z_iret d_X11_stir_138 rfl (qsi (by rw [rnJ_at hi hp (Or.inr (show cnt _ n > 0 by omega))])) rfl)
    · refine qy (fun _ _ k9 => z_aload d_X11_stir_66 rfl k9) ?_
      refine qy (fun _ _ k9 => z_aload_n d_X11_stir_68 rfl rfl k9) ?_
      refine qy (fun _ _ k9 => z_getf (v := qR 3) d_X11_stir_69 fl_X11_12 (xput_ob (c := (Fa 2)) xi_2 rfl (xsh_11 xo_2)) rfl k9) ?_
      refine qy (fun _ _ k9 => z_getf (v := qR 4) d_X11_stir_72 fl_X11_144 (xput_ob (c := (Fa 3)) xi_3 rfl (xsh_8 xo_3)) rfl k9) ?_
      refine qy (fun _ _ k9 => z_getf (v := qR 6) d_X11_stir_75 fl_X11_243 (xput_ob (c := (Fa 4)) xi_4 rfl (xsh_0 xo_4)) rfl k9) ?_
      obtain ⟨F2, G2, ⟨hv2, hw2⟩, hx2⟩ := c_rnBr (h := h) (F := Fa) (G := Ga) (u := 173) (d := 6) (n := n) (rg := 0) (t := i) (df := (-1)) (M := (ps T n 0 (-1) (b : Int) i)) (T := T) (by decide) xo_173 xa_6 (by decide) hn (by decide) (by omega) hT1 hS1 (ps_bd hB i)
      refine qy (fun _ _ k9 => z_cv0 (M1 := M_X7_breathe) d_X11_stir_78 lv_X11_340 k_X7_breathe [qR 6] rfl rfl (xput_ob (c := (Fa 173)) xi_173 rfl (xsh_7 xo_173)) ⟨_, _, rfl⟩ (Nat.le_of_ble_eq_true rfl) (by decide) (by decide) (Nat.le_of_ble_eq_true rfl) hx2 k9) ?_
      refine qy (fun _ _ k9 => z_aload d_X11_stir_81 rfl k9) ?_
      refine qy (fun _ _ k9 => z_getf (v := qI ((F2 173) 10)) d_X11_stir_83 fl_X11_351 (xput_ob (c := (F2 173)) xi_173 rfl (xsh_7 xo_173)) rfl k9) ?_
      refine qy (fun _ _ k9 => z_eq rfl (qc (qi hw2.2.1.2.2.2) rfl) rfl k9) ?_
      suffices kJ86 : qEy M_X11_stir 92 [qR 2, qI (n : Int), qI (b : Int), qI 1, qR 173, qI (qif ((sgC T n (b : Int) i) ≠ 0) (sgS T n (b : Int) i) ((sgS T n (b : Int) i) + 1)), qI (sgM T n (b : Int) i), qI (sgW T n (b : Int) i), qI ((i + 1 : Nat) : Int)] [] (xput h F2 G2) Q by
        refine qy2 (fun _ _ => z_if_ne 92 d_X11_stir_86 (by decide)) (fun hc7 => ?_) (fun hc7 => ?_)
        · exact qy (fun _ _ k9 => z_eq (qc rfl (qc rfl (qc rfl (qc rfl (qc rfl (qc (qi (qif_t hc7).symm) (qc rfl (qc rfl (qc rfl rfl))))))))) rfl rfl k9) kJ86
        · refine qy (fun _ _ k9 => z_iinc (ls' := [qR 2, qI (n : Int), qI (b : Int), qI 1, qR 173, qI ((sgS T n (b : Int) i) + 1), qI (sgM T n (b : Int) i), qI (sgW T n (b : Int) i), qI ((i + 1 : Nat) : Int)]) d_X11_stir_89 rfl (by decide) (by omega) rfl k9) ?_
          exact qy (fun _ _ k9 => z_eq (qc rfl (qc rfl (qc rfl (qc rfl (qc rfl (qc (qi (qif_f hc7).symm) (qc rfl (qc rfl (qc rfl rfl))))))))) rfl rfl k9) kJ86
      refine qy (fun _ _ k9 => z_aload d_X11_stir_92 rfl k9) ?_
      refine qy (fun _ _ k9 => z_getf (v := qI ((F2 173) 10)) d_X11_stir_94 fl_X11_351 (xput_ob (c := (F2 173)) xi_173 rfl (xsh_7 xo_173)) rfl k9) ?_
      refine qy (fun _ _ k9 => z_eq rfl (qc (qi hw2.2.1.2.2.2) rfl) rfl k9) ?_
      refine qy (fun _ _ k9 => z_iload d_X11_stir_97 rfl k9) ?_
      suffices kJ99 : qEy M_X11_stir 113 [qR 2, qI (n : Int), qI (b : Int), qI 1, qR 173, qI (qif ((sgC T n (b : Int) i) ≠ 0) (sgS T n (b : Int) i) ((sgS T n (b : Int) i) + 1)), qI (qif ((sgC T n (b : Int) i) ≤ (sgM T n (b : Int) i)) (sgM T n (b : Int) i) (sgC T n (b : Int) i)), qI (qif ((sgC T n (b : Int) i) ≤ (sgM T n (b : Int) i)) (sgW T n (b : Int) i) ((i + 1 : Nat) : Int)), qI ((i + 1 : Nat) : Int)] [] (xput h F2 G2) Q by
        refine qy2 (fun _ _ => z_icmp_le 113 d_X11_stir_99 (by decide)) (fun hc8 => ?_) (fun hc8 => ?_)
        · exact qy (fun _ _ k9 => z_eq (qc rfl (qc rfl (qc rfl (qc rfl (qc rfl (qc rfl (qc (qi (qif_t hc8).symm) (qc (qi (qif_t hc8).symm) (qc rfl rfl))))))))) rfl rfl k9) kJ99
        · refine qy (fun _ _ k9 => z_aload d_X11_stir_102 rfl k9) ?_
          refine qy (fun _ _ k9 => z_getf (v := qI ((F2 173) 10)) d_X11_stir_104 fl_X11_351 (xput_ob (c := (F2 173)) xi_173 rfl (xsh_7 xo_173)) rfl k9) ?_
          refine qy (fun _ _ k9 => z_eq rfl (qc (qi hw2.2.1.2.2.2) rfl) rfl k9) ?_
          refine qy (fun _ _ k9 => z_istore (ls' := [qR 2, qI (n : Int), qI (b : Int), qI 1, qR 173, qI (qif ((sgC T n (b : Int) i) ≠ 0) (sgS T n (b : Int) i) ((sgS T n (b : Int) i) + 1)), qI (sgC T n (b : Int) i), qI (sgW T n (b : Int) i), qI ((i + 1 : Nat) : Int)]) d_X11_stir_107 (by decide) rfl k9) ?_
          refine qy (fun _ _ k9 => z_iload d_X11_stir_109 rfl k9) ?_
          refine qy (fun _ _ k9 => z_istore (ls' := [qR 2, qI (n : Int), qI (b : Int), qI 1, qR 173, qI (qif ((sgC T n (b : Int) i) ≠ 0) (sgS T n (b : Int) i) ((sgS T n (b : Int) i) + 1)), qI (sgC T n (b : Int) i), qI ((i + 1 : Nat) : Int), qI ((i + 1 : Nat) : Int)]) d_X11_stir_111 (by decide) rfl k9) ?_
          exact qy (fun _ _ k9 => z_eq (qc rfl (qc rfl (qc rfl (qc rfl (qc rfl (qc rfl (qc (qi (qif_f hc8).symm) (qc (qi (qif_f hc8).symm) (qc rfl rfl))))))))) rfl rfl k9) kJ99
      refine qy (fun _ _ k9 => z_iinc (ls' := [qR 2, qI (n : Int), qI (b : Int), qI 1, qR 173, qI (qif ((sgC T n (b : Int) i) ≠ 0) (sgS T n (b : Int) i) ((sgS T n (b : Int) i) + 1)), qI (qif ((sgC T n (b : Int) i) ≤ (sgM T n (b : Int) i)) (sgM T n (b : Int) i) (sgC T n (b : Int) i)), qI (qif ((sgC T n (b : Int) i) ≤ (sgM T n (b : Int) i)) (sgW T n (b : Int) i) ((i + 1 : Nat) : Int)), qI (((i + 1 : Nat) : Int) + 1)]) d_X11_stir_113 rfl (by decide) (by omega) rfl k9) ?_
      refine qy (fun _ _ k9 => z_goto 48 d_X11_stir_116 (by decide) k9) ?_
      exact qy (fun _ _ k9 => z_eq (qc rfl (qc rfl (qc rfl (qc rfl (qc rfl (qc (qi (sgS_s (T := T) (n := n) (b := (b : Int)) (i := i))) (qc (qi (sgM_s (T := T) (n := n) (b := (b : Int)) (i := i))) (qc (qi (sgW_s (T := T) (n := n) (b := (b : Int)) (i := i))) (qc (qi (by omega)) rfl))))))))) rfl rfl k9) (kk (i + 1) (sgC T n (b : Int) i) F2 G2 (⟨by omega, xfr_tr hfr hv2, hw2, q_lts hp (fun z => by have z2 : cnt (fun k9 => ps T n 0 (-1) (b : Int) i k9 = 7) n > 0 := z; omega)⟩) (by omega))
set_option maxRecDepth 20000 in
set_option maxHeartbeats 4000000 in
theorem xc_stir2 {h : qH} {F G : Nat → Nat → Int} {n b : Nat} {T : Nat → Int} (hn : 1 ≤ n ∧ n ≤ 32) (hb : b < n) (hT : ∀ c, c < 648 → G 6 c = T c) (hB : ∀ c, c < 648 → 0 ≤ T c ∧ T c ≤ 7) : ∃ F' G', (xfr 173 176 F G F' G') ∧ qEx M_X11_stir 0 [qR 2, qI (n : Int), qI (b : Int), qI 2, qU, qU, qU, qU, qU] [] (xput h F G) (some (qI (sgW T n (b : Int) (rnJ T n 0 (b : Int))))) (xput h F' G') := by
  refine x_in (fun Q hQ => ?_)
  refine qy (fun _ _ k9 => z_iload_n d_X11_stir_0 rfl rfl k9) ?_
  refine qy (fun _ _ k9 => z_iload_n d_X11_stir_1 rfl rfl k9) ?_
  refine qy (fun _ _ k9 => z_cs (M1 := M_X11_isRun) d_X11_stir_2 ls_X11_280 k_X11_isRun [qI (n : Int), qI (b : Int)] rfl rfl (Nat.le_of_ble_eq_true rfl) (by decide) (by decide) (Nat.le_of_ble_eq_true rfl) (c_isRun (n : Int) (b : Int) (by omega)) k9) ?_
  refine qy2n (fun _ _ => z_ifeqB 17 d_X11_stir_5 (by decide)) (fun hc1 => absurd hc1 (by omega)) (fun hc1 => ?_)
  refine qy (fun _ _ k9 => z_iload_n d_X11_stir_8 rfl rfl k9) ?_
  refine qy (fun _ _ k9 => z_iconst d_X11_stir_9 (by decide) k9) ?_
  refine qy (fun _ _ k9 => z_iconst d_X11_stir_10 (by decide) k9) ?_
  refine qy (fun _ _ k9 => z_cs (M1 := M_X11_isWithin) d_X11_stir_11 ls_X11_62 k_X11_isWithin [qI 2, qI 0, qI 2] rfl rfl (Nat.le_of_ble_eq_true rfl) (by decide) (by decide) (Nat.le_of_ble_eq_true rfl) (c_isWithin 2 0 2) k9) ?_
  refine qy2 (fun _ _ => z_ifneB 19 d_X11_stir_14 (by decide)) (fun hc2 => ?_) (fun hc2 => absurd hc2 (by omega))
  refine qy (fun _ _ k9 => z_aload_n d_X11_stir_19 rfl rfl k9) ?_
  refine qy (fun _ _ k9 => z_getf (v := qR 172) d_X11_stir_20 fl_X11_40 (xput_ob (c := (F 2)) xi_2 rfl (xsh_11 xo_2)) rfl k9) ?_
  refine qy (fun _ _ k9 => z_getf (v := qR 173) d_X11_stir_23 fl_X11_293 (xput_ob (c := (F 172)) xi_172 rfl (xsh_9 xo_172)) rfl k9) ?_
  refine qy (fun _ _ k9 => z_astore (ls' := [qR 2, qI (n : Int), qI (b : Int), qI 2, qR 173, qU, qU, qU, qU]) d_X11_stir_26 (by decide) rfl k9) ?_
  refine qy (fun _ _ k9 => z_aload d_X11_stir_28 rfl k9) ?_
  refine qy (fun _ _ k9 => z_iload_n d_X11_stir_30 rfl rfl k9) ?_
  refine qy (fun _ _ k9 => z_iload_n d_X11_stir_31 rfl rfl k9) ?_
  refine qy (fun _ _ k9 => z_iconst d_X11_stir_32 (by decide) k9) ?_
  obtain ⟨F1, G1, ⟨hv1, hw1, hu1, hg1⟩, hx1⟩ := c_rnStart (h := h) (F := F) (G := G) (u := 173) n b 0 (by decide) xo_173 (by omega) (by omega) (by decide)
  refine qy (fun _ _ k9 => z_cv0 (M1 := M_X7_start) d_X11_stir_33 lv_X11_297 k_X7_start [qI (n : Int), qI (b : Int), qI 0] rfl rfl (xput_ob (c := (F 173)) xi_173 rfl (xsh_7 xo_173)) ⟨_, _, rfl⟩ (Nat.le_of_ble_eq_true rfl) (by decide) (by decide) (Nat.le_of_ble_eq_true rfl) hx1 k9) ?_
  refine qy (fun _ _ k9 => z_iconst d_X11_stir_36 (by decide) k9) ?_
  refine qy (fun _ _ k9 => z_istore (ls' := [qR 2, qI (n : Int), qI (b : Int), qI 2, qR 173, qI 0, qU, qU, qU]) d_X11_stir_37 (by decide) rfl k9) ?_
  refine qy (fun _ _ k9 => z_iconst d_X11_stir_39 (by decide) k9) ?_
  refine qy (fun _ _ k9 => z_istore (ls' := [qR 2, qI (n : Int), qI (b : Int), qI 2, qR 173, qI 0, qI 0, qU, qU]) d_X11_stir_40 (by decide) rfl k9) ?_
  refine qy (fun _ _ k9 => z_iconst d_X11_stir_42 (by decide) k9) ?_
  refine qy (fun _ _ k9 => z_istore (ls' := [qR 2, qI (n : Int), qI (b : Int), qI 2, qR 173, qI 0, qI 0, qI (-1), qU]) d_X11_stir_43 (by decide) rfl k9) ?_
  refine qy (fun _ _ k9 => z_iconst d_X11_stir_45 (by decide) k9) ?_
  refine qy (fun _ _ k9 => z_istore (ls' := [qR 2, qI (n : Int), qI (b : Int), qI 2, qR 173, qI 0, qI 0, qI (-1), qI 1]) d_X11_stir_46 (by decide) rfl k9) ?_
  refine qy (fun _ _ k9 => z_eq (qc rfl (qc rfl (qc rfl (qc rfl (qc rfl (qc (qi (rfl)) (qc (qi (rfl)) (qc (qi (rfl)) (qc (qi (rfl)) rfl))))))))) rfl rfl k9) (y_wh4 (fun (i : Nat) (c : Int) (Fa : Nat → Nat → Int) (Ga : Nat → Nat → Int) => 3 * n + 20 - i) (fun (i : Nat) (c : Int) (Fa : Nat → Nat → Int) (Ga : Nat → Nat → Int) => [qR 2, qI (n : Int), qI (b : Int), qI 2, qR 173, qI (sgS T n (b : Int) i), qI (sgM T n (b : Int) i), qI (sgW T n (b : Int) i), qI ((i + 1 : Nat) : Int)]) (fun (i : Nat) (c : Int) (Fa : Nat → Nat → Int) (Ga : Nat → Nat → Int) => (xput h Fa Ga)) (fun (i : Nat) (c : Int) (Fa : Nat → Nat → Int) (Ga : Nat → Nat → Int) => i ≤ 3 * n + 20 ∧ xfr 173 176 F G Fa Ga ∧ rnS Fa Ga 173 n 0 0 (-1) i (cnt (fun k9 => ps T n 0 (-1) (b : Int) i k9 = 7) n) c (ps T n 0 (-1) (b : Int) i) ∧ ∀ j, j < i → ¬ litAt T n 0 (-1) (b : Int) j) 0 0 F1 G1 (⟨by omega, hv1, rnS_M hw1 (fun _ _ => rfl) ps_l0 rfl, fun k hk => absurd hk (by omega)⟩) (fun i c Fa Ga hp kk => ?_))
  obtain ⟨hi, hfr, hS1, hp⟩ := hp
  show qEy M_X11_stir 48 [qR 2, qI (n : Int), qI (b : Int), qI 2, qR 173, qI (sgS T n (b : Int) i), qI (sgM T n (b : Int) i), qI (sgW T n (b : Int) i), qI ((i + 1 : Nat) : Int)] [] (xput h Fa Ga) Q
  have hT1 : ∀ c, c < 648 → Ga 6 c = T c := fun c hc => by rw [xfr_G hfr (by decide)]; exact hT c hc
  have c0 := cnt_bd (fun k9 => ps T n 0 (-1) (b : Int) i k9 = 7) n
  have b1 := sgS_bd (T := T) (n := n) (b := (b : Int)) i
  refine qy (fun _ _ k9 => z_iload d_X11_stir_48 rfl k9) ?_
  refine qy (fun _ _ k9 => z_aload d_X11_stir_50 rfl k9) ?_
  refine qy (fun _ _ k9 => z_getf (v := qI ((Fa 173) 7)) d_X11_stir_52 fl_X11_336 (xput_ob (c := (Fa 173)) xi_173 rfl (xsh_7 xo_173)) rfl k9) ?_
  refine qy (fun _ _ k9 => z_eq rfl (qc (qi hS1.2.1.1) rfl) rfl k9) ?_
  refine qy2 (fun _ _ => z_icmp_gt 119 d_X11_stir_55 (by decide)) (fun q55 => ?_) (fun q55 => ?_)
  · refine qy (fun _ _ k9 => z_iload_n d_X11_stir_119 rfl rfl k9) ?_
    refine qy2 (fun _ _ => z_if_ne 126 d_X11_stir_120 (by decide)) (fun hc3 => ?_) (fun hc3 => absurd (by decide) hc3)
    refine qy (fun _ _ k9 => z_iload_n d_X11_stir_126 rfl rfl k9) ?_
    refine qy (fun _ _ k9 => z_iconst d_X11_stir_127 (by decide) k9) ?_
    refine qy2 (fun _ _ => z_icmp_ne 136 d_X11_stir_128 (by decide)) (fun hc4 => ?_) (fun hc4 => absurd (by decide) hc4)
    refine qy (fun _ _ k9 => z_iload d_X11_stir_136 rfl k9) ?_
    exact y_ret (hQ Fa Ga hfr) (z_iret d_X11_stir_138 rfl (qsi (by rw [rnJ_at hi hp (Or.inl (by omega))])) rfl)
  · refine qy (fun _ _ k9 => z_aload d_X11_stir_58 rfl k9) ?_
    refine qy (fun _ _ k9 => z_getf (v := qI ((Fa 173) 9)) d_X11_stir_60 fl_X11_320 (xput_ob (c := (Fa 173)) xi_173 rfl (xsh_7 xo_173)) rfl k9) ?_
    refine qy (fun _ _ k9 => z_eq rfl (qc (qi hS1.2.1.2.2.1) rfl) rfl k9) ?_
    refine qy2 (fun _ _ => z_if_ne 119 d_X11_stir_63 (by decide)) (fun q63 => ?_) (fun q63 => ?_)
    · refine qy (fun _ _ k9 => z_iload_n d_X11_stir_119 rfl rfl k9) ?_
      refine qy2 (fun _ _ => z_if_ne 126 d_X11_stir_120 (by decide)) (fun hc5 => ?_) (fun hc5 => absurd (by decide) hc5)
      refine qy (fun _ _ k9 => z_iload_n d_X11_stir_126 rfl rfl k9) ?_
      refine qy (fun _ _ k9 => z_iconst d_X11_stir_127 (by decide) k9) ?_
      refine qy2 (fun _ _ => z_icmp_ne 136 d_X11_stir_128 (by decide)) (fun hc6 => ?_) (fun hc6 => absurd (by decide) hc6)
      refine qy (fun _ _ k9 => z_iload d_X11_stir_136 rfl k9) ?_
      exact y_ret (hQ Fa Ga hfr) (z_iret d_X11_stir_138 rfl (qsi (by rw [rnJ_at hi hp (Or.inr (show cnt _ n > 0 by omega))])) rfl)
    · refine qy (fun _ _ k9 => z_aload d_X11_stir_66 rfl k9) ?_
      refine qy (fun _ _ k9 => z_aload_n d_X11_stir_68 rfl rfl k9) ?_
      refine qy (fun _ _ k9 => z_getf (v := qR 3) d_X11_stir_69 fl_X11_12 (xput_ob (c := (Fa 2)) xi_2 rfl (xsh_11 xo_2)) rfl k9) ?_
      refine qy (fun _ _ k9 => z_getf (v := qR 4) d_X11_stir_72 fl_X11_144 (xput_ob (c := (Fa 3)) xi_3 rfl (xsh_8 xo_3)) rfl k9) ?_
      refine qy (fun _ _ k9 => z_getf (v := qR 6) d_X11_stir_75 fl_X11_243 (xput_ob (c := (Fa 4)) xi_4 rfl (xsh_0 xo_4)) rfl k9) ?_
      obtain ⟨F2, G2, ⟨hv2, hw2⟩, hx2⟩ := c_rnBr (h := h) (F := Fa) (G := Ga) (u := 173) (d := 6) (n := n) (rg := 0) (t := i) (df := (-1)) (M := (ps T n 0 (-1) (b : Int) i)) (T := T) (by decide) xo_173 xa_6 (by decide) hn (by decide) (by omega) hT1 hS1 (ps_bd hB i)
      refine qy (fun _ _ k9 => z_cv0 (M1 := M_X7_breathe) d_X11_stir_78 lv_X11_340 k_X7_breathe [qR 6] rfl rfl (xput_ob (c := (Fa 173)) xi_173 rfl (xsh_7 xo_173)) ⟨_, _, rfl⟩ (Nat.le_of_ble_eq_true rfl) (by decide) (by decide) (Nat.le_of_ble_eq_true rfl) hx2 k9) ?_
      refine qy (fun _ _ k9 => z_aload d_X11_stir_81 rfl k9) ?_
      refine qy (fun _ _ k9 => z_getf (v := qI ((F2 173) 10)) d_X11_stir_83 fl_X11_351 (xput_ob (c := (F2 173)) xi_173 rfl (xsh_7 xo_173)) rfl k9) ?_
      refine qy (fun _ _ k9 => z_eq rfl (qc (qi hw2.2.1.2.2.2) rfl) rfl k9) ?_
      suffices kJ86 : qEy M_X11_stir 92 [qR 2, qI (n : Int), qI (b : Int), qI 2, qR 173, qI (qif ((sgC T n (b : Int) i) ≠ 0) (sgS T n (b : Int) i) ((sgS T n (b : Int) i) + 1)), qI (sgM T n (b : Int) i), qI (sgW T n (b : Int) i), qI ((i + 1 : Nat) : Int)] [] (xput h F2 G2) Q by
        refine qy2 (fun _ _ => z_if_ne 92 d_X11_stir_86 (by decide)) (fun hc7 => ?_) (fun hc7 => ?_)
        · exact qy (fun _ _ k9 => z_eq (qc rfl (qc rfl (qc rfl (qc rfl (qc rfl (qc (qi (qif_t hc7).symm) (qc rfl (qc rfl (qc rfl rfl))))))))) rfl rfl k9) kJ86
        · refine qy (fun _ _ k9 => z_iinc (ls' := [qR 2, qI (n : Int), qI (b : Int), qI 2, qR 173, qI ((sgS T n (b : Int) i) + 1), qI (sgM T n (b : Int) i), qI (sgW T n (b : Int) i), qI ((i + 1 : Nat) : Int)]) d_X11_stir_89 rfl (by decide) (by omega) rfl k9) ?_
          exact qy (fun _ _ k9 => z_eq (qc rfl (qc rfl (qc rfl (qc rfl (qc rfl (qc (qi (qif_f hc7).symm) (qc rfl (qc rfl (qc rfl rfl))))))))) rfl rfl k9) kJ86
      refine qy (fun _ _ k9 => z_aload d_X11_stir_92 rfl k9) ?_
      refine qy (fun _ _ k9 => z_getf (v := qI ((F2 173) 10)) d_X11_stir_94 fl_X11_351 (xput_ob (c := (F2 173)) xi_173 rfl (xsh_7 xo_173)) rfl k9) ?_
      refine qy (fun _ _ k9 => z_eq rfl (qc (qi hw2.2.1.2.2.2) rfl) rfl k9) ?_
      refine qy (fun _ _ k9 => z_iload d_X11_stir_97 rfl k9) ?_
      suffices kJ99 : qEy M_X11_stir 113 [qR 2, qI (n : Int), qI (b : Int), qI 2, qR 173, qI (qif ((sgC T n (b : Int) i) ≠ 0) (sgS T n (b : Int) i) ((sgS T n (b : Int) i) + 1)), qI (qif ((sgC T n (b : Int) i) ≤ (sgM T n (b : Int) i)) (sgM T n (b : Int) i) (sgC T n (b : Int) i)), qI (qif ((sgC T n (b : Int) i) ≤ (sgM T n (b : Int) i)) (sgW T n (b : Int) i) ((i + 1 : Nat) : Int)), qI ((i + 1 : Nat) : Int)] [] (xput h F2 G2) Q by
        refine qy2 (fun _ _ => z_icmp_le 113 d_X11_stir_99 (by decide)) (fun hc8 => ?_) (fun hc8 => ?_)
        · exact qy (fun _ _ k9 => z_eq (qc rfl (qc rfl (qc rfl (qc rfl (qc rfl (qc rfl (qc (qi (qif_t hc8).symm) (qc (qi (qif_t hc8).symm) (qc rfl rfl))))))))) rfl rfl k9) kJ99
        · refine qy (fun _ _ k9 => z_aload d_X11_stir_102 rfl k9) ?_
          refine qy (fun _ _ k9 => z_getf (v := qI ((F2 173) 10)) d_X11_stir_104 fl_X11_351 (xput_ob (c := (F2 173)) xi_173 rfl (xsh_7 xo_173)) rfl k9) ?_
          refine qy (fun _ _ k9 => z_eq rfl (qc (qi hw2.2.1.2.2.2) rfl) rfl k9) ?_
          refine qy (fun _ _ k9 => z_istore (ls' := [qR 2, qI (n : Int), qI (b : Int), qI 2, qR 173, qI (qif ((sgC T n (b : Int) i) ≠ 0) (sgS T n (b : Int) i) ((sgS T n (b : Int) i) + 1)), qI (sgC T n (b : Int) i), qI (sgW T n (b : Int) i), qI ((i + 1 : Nat) : Int)]) d_X11_stir_107 (by decide) rfl k9) ?_
          refine qy (fun _ _ k9 => z_iload d_X11_stir_109 rfl k9) ?_
          refine qy (fun _ _ k9 => z_istore (ls' := [qR 2, qI (n : Int), qI (b : Int), qI 2, qR 173, qI (qif ((sgC T n (b : Int) i) ≠ 0) (sgS T n (b : Int) i) ((sgS T n (b : Int) i) + 1)), qI (sgC T n (b : Int) i), qI ((i + 1 : Nat) : Int), qI ((i + 1 : Nat) : Int)]) d_X11_stir_111 (by decide) rfl k9) ?_
          exact qy (fun _ _ k9 => z_eq (qc rfl (qc rfl (qc rfl (qc rfl (qc rfl (qc rfl (qc (qi (qif_f hc8).symm) (qc (qi (qif_f hc8).symm) (qc rfl rfl))))))))) rfl rfl k9) kJ99
      refine qy (fun _ _ k9 => z_iinc (ls' := [qR 2, qI (n : Int), qI (b : Int), qI 2, qR 173, qI (qif ((sgC T n (b : Int) i) ≠ 0) (sgS T n (b : Int) i) ((sgS T n (b : Int) i) + 1)), qI (qif ((sgC T n (b : Int) i) ≤ (sgM T n (b : Int) i)) (sgM T n (b : Int) i) (sgC T n (b : Int) i)), qI (qif ((sgC T n (b : Int) i) ≤ (sgM T n (b : Int) i)) (sgW T n (b : Int) i) ((i + 1 : Nat) : Int)), qI (((i + 1 : Nat) : Int) + 1)]) d_X11_stir_113 rfl (by decide) (by omega) rfl k9) ?_
      refine qy (fun _ _ k9 => z_goto 48 d_X11_stir_116 (by decide) k9) ?_
      exact qy (fun _ _ k9 => z_eq (qc rfl (qc rfl (qc rfl (qc rfl (qc rfl (qc (qi (sgS_s (T := T) (n := n) (b := (b : Int)) (i := i))) (qc (qi (sgM_s (T := T) (n := n) (b := (b : Int)) (i := i))) (qc (qi (sgW_s (T := T) (n := n) (b := (b : Int)) (i := i))) (qc (qi (by omega)) rfl))))))))) rfl rfl k9) (kk (i + 1) (sgC T n (b : Int) i) F2 G2 (⟨by omega, xfr_tr hfr hv2, hw2, q_lts hp (fun z => by have z2 : cnt (fun k9 => ps T n 0 (-1) (b : Int) i k9 = 7) n > 0 := z; omega)⟩) (by omega))
set_option maxRecDepth 20000 in
set_option maxHeartbeats 4000000 in
theorem xc_deafened0 {h : qH} {F G : Nat → Nat → Int} {n k : Nat} {T : Nat → Int} (hn : 1 ≤ n ∧ n ≤ 32) (hk : k < n) (hT : ∀ c, c < 648 → G 6 c = T c) (hB : ∀ c, c < 648 → 0 ≤ T c ∧ T c ≤ 7) : ∃ F' G', (xfr 173 176 F G F' G') ∧ qEx M_X11_deafened 0 [qR 2, qI (n : Int), qI (k : Int), qI 0, qU, qU, qU, qU, qU] [] (xput h F G) (some (qI (dfA T n k (3 * n + 20)))) (xput h F' G') := by
  refine x_in (fun Q hQ => ?_)
  refine qy (fun _ _ k9 => z_iload_n d_X11_deafened_0 rfl rfl k9) ?_
  refine qy (fun _ _ k9 => z_iload_n d_X11_deafened_1 rfl rfl k9) ?_
  refine qy (fun _ _ k9 => z_cs (M1 := M_X11_isRun) d_X11_deafened_2 ls_X11_280 k_X11_isRun [qI (n : Int), qI (k : Int)] rfl rfl (Nat.le_of_ble_eq_true rfl) (by decide) (by decide) (Nat.le_of_ble_eq_true rfl) (c_isRun (n : Int) (k : Int) (by omega)) k9) ?_
  refine qy2n (fun _ _ => z_ifeqB 17 d_X11_deafened_5 (by decide)) (fun hc1 => absurd hc1 (by omega)) (fun hc1 => ?_)
  refine qy (fun _ _ k9 => z_iload_n d_X11_deafened_8 rfl rfl k9) ?_
  refine qy (fun _ _ k9 => z_iconst d_X11_deafened_9 (by decide) k9) ?_
  refine qy (fun _ _ k9 => z_iconst d_X11_deafened_10 (by decide) k9) ?_
  refine qy (fun _ _ k9 => z_cs (M1 := M_X11_isWithin) d_X11_deafened_11 ls_X11_62 k_X11_isWithin [qI 0, qI 0, qI 1] rfl rfl (Nat.le_of_ble_eq_true rfl) (by decide) (by decide) (Nat.le_of_ble_eq_true rfl) (c_isWithin 0 0 1) k9) ?_
  refine qy2 (fun _ _ => z_ifneB 19 d_X11_deafened_14 (by decide)) (fun hc2 => ?_) (fun hc2 => absurd hc2 (by omega))
  refine qy (fun _ _ k9 => z_aload_n d_X11_deafened_19 rfl rfl k9) ?_
  refine qy (fun _ _ k9 => z_getf (v := qR 172) d_X11_deafened_20 fl_X11_40 (xput_ob (c := (F 2)) xi_2 rfl (xsh_11 xo_2)) rfl k9) ?_
  refine qy (fun _ _ k9 => z_getf (v := qR 173) d_X11_deafened_23 fl_X11_293 (xput_ob (c := (F 172)) xi_172 rfl (xsh_9 xo_172)) rfl k9) ?_
  refine qy (fun _ _ k9 => z_astore (ls' := [qR 2, qI (n : Int), qI (k : Int), qI 0, qR 173, qU, qU, qU, qU]) d_X11_deafened_26 (by decide) rfl k9) ?_
  refine qy (fun _ _ k9 => z_aload d_X11_deafened_28 rfl k9) ?_
  refine qy (fun _ _ k9 => z_iload_n d_X11_deafened_30 rfl rfl k9) ?_
  refine qy (fun _ _ k9 => z_iconst d_X11_deafened_31 (by decide) k9) ?_
  refine qy (fun _ _ k9 => z_iconst d_X11_deafened_32 (by decide) k9) ?_
  obtain ⟨F1, G1, ⟨hv1, hw1, hu1, hg1⟩, hx1⟩ := c_rnStart (h := h) (F := F) (G := G) (u := 173) n 0 0 (by decide) xo_173 (by omega) (by decide) (by decide)
  refine qy (fun _ _ k9 => z_cv0 (M1 := M_X7_start) d_X11_deafened_33 lv_X11_297 k_X7_start [qI (n : Int), qI 0, qI 0] rfl rfl (xput_ob (c := (F 173)) xi_173 rfl (xsh_7 xo_173)) ⟨_, _, rfl⟩ (Nat.le_of_ble_eq_true rfl) (by decide) (by decide) (Nat.le_of_ble_eq_true rfl) hx1 k9) ?_
  refine qy (fun _ _ k9 => z_aload d_X11_deafened_36 rfl k9) ?_
  refine qy (fun _ _ k9 => z_iload_n d_X11_deafened_38 rfl rfl k9) ?_
  refine qy (fun _ _ k9 => z_putf (fs' := [qR 174, qR 175, qR 176, qI ((F1 173) 3), qI ((F1 173) 4), qI ((F1 173) 5), qI (k : Int), qI ((F1 173) 7), qI ((F1 173) 8), qI ((F1 173) 9), qI ((F1 173) 10)]) d_X11_deafened_39 fp_X11_345 (xput_ob (c := (F1 173)) xi_173 rfl (xsh_7 xo_173)) (fun _ => rfl) (fun _ => rfl) (Nat.le_of_ble_eq_true rfl) rfl k9) ?_
  refine qy (fun _ _ k9 => z_eq rfl rfl (xput_sf (c := (qup (F1 173) 6 (k : Int))) xi_173 (xsh_7 xo_173)) k9) ?_
  refine qy (fun _ _ k9 => z_iconst d_X11_deafened_42 (by decide) k9) ?_
  refine qy (fun _ _ k9 => z_istore (ls' := [qR 2, qI (n : Int), qI (k : Int), qI 0, qR 173, qI 0, qU, qU, qU]) d_X11_deafened_43 (by decide) rfl k9) ?_
  refine qy (fun _ _ k9 => z_iconst d_X11_deafened_45 (by decide) k9) ?_
  refine qy (fun _ _ k9 => z_istore (ls' := [qR 2, qI (n : Int), qI (k : Int), qI 0, qR 173, qI 0, qI (-1), qU, qU]) d_X11_deafened_46 (by decide) rfl k9) ?_
  refine qy (fun _ _ k9 => z_iconst d_X11_deafened_48 (by decide) k9) ?_
  refine qy (fun _ _ k9 => z_istore (ls' := [qR 2, qI (n : Int), qI (k : Int), qI 0, qR 173, qI 0, qI (-1), qI 1, qU]) d_X11_deafened_49 (by decide) rfl k9) ?_
  refine qy (fun _ _ k9 => z_eq (qc rfl (qc rfl (qc rfl (qc rfl (qc rfl (qc (qi (rfl)) (qc (qi (rfl)) (qc (qi (rfl)) (qc rfl rfl))))))))) rfl rfl k9) (y_wh4 (fun (i : Nat) (c : Int) (Fa : Nat → Nat → Int) (Ga : Nat → Nat → Int) => 3 * n + 20 - i) (fun (i : Nat) (c : Int) (Fa : Nat → Nat → Int) (Ga : Nat → Nat → Int) => [qR 2, qI (n : Int), qI (k : Int), qI 0, qR 173, qI (dfA T n k i), qI (dfW T n k i), qI ((i + 1 : Nat) : Int), qU]) (fun (i : Nat) (c : Int) (Fa : Nat → Nat → Int) (Ga : Nat → Nat → Int) => (xput h Fa Ga)) (fun (i : Nat) (c : Int) (Fa : Nat → Nat → Int) (Ga : Nat → Nat → Int) => i ≤ 3 * n + 20 ∧ xfr 173 176 F G Fa Ga ∧ rnS Fa Ga 173 n 0 0 (k : Int) i (cnt (fun k9 => ps T n 0 (k : Int) 0 i k9 = 7) n) c (ps T n 0 (k : Int) 0 i)) 0 0 (gup F1 173 (qup (F1 173) 6 (k : Int))) G1 (⟨by omega, xfr_f hv1 (by decide) (by decide), rnS_M (rnS_df hw1) (fun _ _ => rfl) ps_l0 rfl⟩) (fun i c Fa Ga hp kk => ?_))
  obtain ⟨hi, hfr, hS1⟩ := hp
  show qEy M_X11_deafened 51 [qR 2, qI (n : Int), qI (k : Int), qI 0, qR 173, qI (dfA T n k i), qI (dfW T n k i), qI ((i + 1 : Nat) : Int), qU] [] (xput h Fa Ga) Q
  have hT1 : ∀ c, c < 648 → Ga 6 c = T c := fun c hc => by rw [xfr_G hfr (by decide)]; exact hT c hc
  have c0 := cnt_bd (fun k9 => ps T n 0 (k : Int) 0 i k9 = 7) n
  have c1 := cnt_bd (fun k9 => ps T n 0 (k : Int) 0 (i + 1) k9 = 7) n
  have c2 := cnt_bd (fun k9 => stp T n 0 (k : Int) (ps T n 0 (k : Int) 0 i) k9 = 7) n
  have b1 := dfA_bd (T := T) (n := n) (k := k) i
  refine qy (fun _ _ k9 => z_iload d_X11_deafened_51 rfl k9) ?_
  refine qy (fun _ _ k9 => z_aload d_X11_deafened_53 rfl k9) ?_
  refine qy (fun _ _ k9 => z_getf (v := qI ((Fa 173) 7)) d_X11_deafened_55 fl_X11_336 (xput_ob (c := (Fa 173)) xi_173 rfl (xsh_7 xo_173)) rfl k9) ?_
  refine qy (fun _ _ k9 => z_eq rfl (qc (qi hS1.2.1.1) rfl) rfl k9) ?_
  refine qy2 (fun _ _ => z_icmp_gt 116 d_X11_deafened_58 (by decide)) (fun q58 => ?_) (fun q58 => ?_)
  · refine qy (fun _ _ k9 => z_iload_n d_X11_deafened_116 rfl rfl k9) ?_
    refine qy2 (fun _ _ => z_if_ne 125 d_X11_deafened_117 (by decide)) (fun hc3 => absurd hc3 (by decide)) (fun hc3 => ?_)
    refine qy (fun _ _ k9 => z_iload d_X11_deafened_120 rfl k9) ?_
    refine qy (fun _ _ k9 => z_goto 127 d_X11_deafened_122 (by decide) k9) ?_
    exact y_ret (hQ Fa Ga hfr) (z_iret d_X11_deafened_127 rfl (qsi (by rw [show i = 3 * n + 20 by omega])) rfl)
  · refine qy (fun _ _ k9 => z_aload d_X11_deafened_61 rfl k9) ?_
    refine qy (fun _ _ k9 => z_getf (v := qI ((Fa 173) 9)) d_X11_deafened_63 fl_X11_320 (xput_ob (c := (Fa 173)) xi_173 rfl (xsh_7 xo_173)) rfl k9) ?_
    refine qy (fun _ _ k9 => z_eq rfl (qc (qi hS1.2.1.2.2.1) rfl) rfl k9) ?_
    refine qy (fun _ _ k9 => z_istore (ls' := [qR 2, qI (n : Int), qI (k : Int), qI 0, qR 173, qI (dfA T n k i), qI (dfW T n k i), qI ((i + 1 : Nat) : Int), qI (cnt (fun k9 => ps T n 0 (k : Int) 0 i k9 = 7) n)]) d_X11_deafened_66 (by decide) rfl k9) ?_
    refine qy (fun _ _ k9 => z_aload d_X11_deafened_68 rfl k9) ?_
    refine qy (fun _ _ k9 => z_aload_n d_X11_deafened_70 rfl rfl k9) ?_
    refine qy (fun _ _ k9 => z_getf (v := qR 3) d_X11_deafened_71 fl_X11_12 (xput_ob (c := (Fa 2)) xi_2 rfl (xsh_11 xo_2)) rfl k9) ?_
    refine qy (fun _ _ k9 => z_getf (v := qR 4) d_X11_deafened_74 fl_X11_144 (xput_ob (c := (Fa 3)) xi_3 rfl (xsh_8 xo_3)) rfl k9) ?_
    refine qy (fun _ _ k9 => z_getf (v := qR 6) d_X11_deafened_77 fl_X11_243 (xput_ob (c := (Fa 4)) xi_4 rfl (xsh_0 xo_4)) rfl k9) ?_
    obtain ⟨F2, G2, ⟨hv2, hw2⟩, hx2⟩ := c_rnBr (h := h) (F := Fa) (G := Ga) (u := 173) (d := 6) (n := n) (rg := 0) (t := i) (df := (k : Int)) (M := (ps T n 0 (k : Int) 0 i)) (T := T) (by decide) xo_173 xa_6 (by decide) hn (by decide) (by omega) hT1 hS1 (ps_bd hB i)
    refine qy (fun _ _ k9 => z_cv0 (M1 := M_X7_breathe) d_X11_deafened_80 lv_X11_340 k_X7_breathe [qR 6] rfl rfl (xput_ob (c := (Fa 173)) xi_173 rfl (xsh_7 xo_173)) ⟨_, _, rfl⟩ (Nat.le_of_ble_eq_true rfl) (by decide) (by decide) (Nat.le_of_ble_eq_true rfl) hx2 k9) ?_
    refine qy (fun _ _ k9 => z_aload d_X11_deafened_83 rfl k9) ?_
    refine qy (fun _ _ k9 => z_getf (v := qI ((F2 173) 9)) d_X11_deafened_85 fl_X11_320 (xput_ob (c := (F2 173)) xi_173 rfl (xsh_7 xo_173)) rfl k9) ?_
    refine qy (fun _ _ k9 => z_eq rfl (qc (qi hw2.2.1.2.2.1) rfl) rfl k9) ?_
    refine qy (fun _ _ k9 => z_iload d_X11_deafened_88 rfl k9) ?_
    refine qy (fun _ _ k9 => z_isub d_X11_deafened_90 (by omega) k9) ?_
    refine qy (fun _ _ k9 => z_iload d_X11_deafened_91 rfl k9) ?_
    suffices kJ93 : qEy M_X11_deafened 110 [qR 2, qI (n : Int), qI (k : Int), qI 0, qR 173, qI (qif (((cnt (fun k9 => ps T n 0 (k : Int) 0 (i + 1) k9 = 7) n) - (cnt (fun k9 => ps T n 0 (k : Int) 0 i k9 = 7) n)) ≤ (dfA T n k i)) (dfA T n k i) ((cnt (fun k9 => ps T n 0 (k : Int) 0 (i + 1) k9 = 7) n) - (cnt (fun k9 => ps T n 0 (k : Int) 0 i k9 = 7) n))), qI (qif (((cnt (fun k9 => ps T n 0 (k : Int) 0 (i + 1) k9 = 7) n) - (cnt (fun k9 => ps T n 0 (k : Int) 0 i k9 = 7) n)) ≤ (dfA T n k i)) (dfW T n k i) ((i + 1 : Nat) : Int)), qI ((i + 1 : Nat) : Int), qI (cnt (fun k9 => ps T n 0 (k : Int) 0 i k9 = 7) n)] [] (xput h F2 G2) Q by
      refine qy2 (fun _ _ => z_icmp_le 110 d_X11_deafened_93 (by decide)) (fun hc4 => ?_) (fun hc4 => ?_)
      · exact qy (fun _ _ k9 => z_eq (qc rfl (qc rfl (qc rfl (qc rfl (qc rfl (qc (qi (qif_t hc4).symm) (qc (qi (qif_t hc4).symm) (qc rfl (qc rfl rfl))))))))) rfl rfl k9) kJ93
      · refine qy (fun _ _ k9 => z_aload d_X11_deafened_96 rfl k9) ?_
        refine qy (fun _ _ k9 => z_getf (v := qI ((F2 173) 9)) d_X11_deafened_98 fl_X11_320 (xput_ob (c := (F2 173)) xi_173 rfl (xsh_7 xo_173)) rfl k9) ?_
        refine qy (fun _ _ k9 => z_eq rfl (qc (qi hw2.2.1.2.2.1) rfl) rfl k9) ?_
        refine qy (fun _ _ k9 => z_iload d_X11_deafened_101 rfl k9) ?_
        refine qy (fun _ _ k9 => z_isub d_X11_deafened_103 (by omega) k9) ?_
        refine qy (fun _ _ k9 => z_istore (ls' := [qR 2, qI (n : Int), qI (k : Int), qI 0, qR 173, qI ((cnt (fun k9 => ps T n 0 (k : Int) 0 (i + 1) k9 = 7) n) - (cnt (fun k9 => ps T n 0 (k : Int) 0 i k9 = 7) n)), qI (dfW T n k i), qI ((i + 1 : Nat) : Int), qI (cnt (fun k9 => ps T n 0 (k : Int) 0 i k9 = 7) n)]) d_X11_deafened_104 (by decide) rfl k9) ?_
        refine qy (fun _ _ k9 => z_iload d_X11_deafened_106 rfl k9) ?_
        refine qy (fun _ _ k9 => z_istore (ls' := [qR 2, qI (n : Int), qI (k : Int), qI 0, qR 173, qI ((cnt (fun k9 => ps T n 0 (k : Int) 0 (i + 1) k9 = 7) n) - (cnt (fun k9 => ps T n 0 (k : Int) 0 i k9 = 7) n)), qI ((i + 1 : Nat) : Int), qI ((i + 1 : Nat) : Int), qI (cnt (fun k9 => ps T n 0 (k : Int) 0 i k9 = 7) n)]) d_X11_deafened_108 (by decide) rfl k9) ?_
        exact qy (fun _ _ k9 => z_eq (qc rfl (qc rfl (qc rfl (qc rfl (qc rfl (qc (qi (qif_f hc4).symm) (qc (qi (qif_f hc4).symm) (qc rfl (qc rfl rfl))))))))) rfl rfl k9) kJ93
    refine qy (fun _ _ k9 => z_iinc (ls' := [qR 2, qI (n : Int), qI (k : Int), qI 0, qR 173, qI (qif (((cnt (fun k9 => ps T n 0 (k : Int) 0 (i + 1) k9 = 7) n) - (cnt (fun k9 => ps T n 0 (k : Int) 0 i k9 = 7) n)) ≤ (dfA T n k i)) (dfA T n k i) ((cnt (fun k9 => ps T n 0 (k : Int) 0 (i + 1) k9 = 7) n) - (cnt (fun k9 => ps T n 0 (k : Int) 0 i k9 = 7) n))), qI (qif (((cnt (fun k9 => ps T n 0 (k : Int) 0 (i + 1) k9 = 7) n) - (cnt (fun k9 => ps T n 0 (k : Int) 0 i k9 = 7) n)) ≤ (dfA T n k i)) (dfW T n k i) ((i + 1 : Nat) : Int)), qI (((i + 1 : Nat) : Int) + 1), qI (cnt (fun k9 => ps T n 0 (k : Int) 0 i k9 = 7) n)]) d_X11_deafened_110 rfl (by decide) (by omega) rfl k9) ?_
    refine qy (fun _ _ k9 => z_goto 51 d_X11_deafened_113 (by decide) k9) ?_
    exact qy (fun _ _ k9 => z_dr (qle_k rfl (qle_k rfl (qle_k rfl (qle_k rfl (qle_k rfl (qle_k (qi (dfA_s (T := T) (n := n) (k := k) (i := i))) (qle_k (qi (dfW_s (T := T) (n := n) (k := k) (i := i))) (qle_k (qi (by omega)) (qle_d qle_n))))))))) rfl rfl k9) (kk (i + 1) (cnt (fun k9 => ps T n 0 (k : Int) 0 (i + 1) k9 ≠ ps T n 0 (k : Int) 0 i k9) n) F2 G2 (⟨by omega, xfr_tr hfr hv2, hw2⟩) (by omega))
set_option maxRecDepth 20000 in
set_option maxHeartbeats 4000000 in
theorem xc_deafened1 {h : qH} {F G : Nat → Nat → Int} {n k : Nat} {T : Nat → Int} (hn : 1 ≤ n ∧ n ≤ 32) (hk : k < n) (hT : ∀ c, c < 648 → G 6 c = T c) (hB : ∀ c, c < 648 → 0 ≤ T c ∧ T c ≤ 7) : ∃ F' G', (xfr 173 176 F G F' G') ∧ qEx M_X11_deafened 0 [qR 2, qI (n : Int), qI (k : Int), qI 1, qU, qU, qU, qU, qU] [] (xput h F G) (some (qI (dfW T n k (3 * n + 20)))) (xput h F' G') := by
  refine x_in (fun Q hQ => ?_)
  refine qy (fun _ _ k9 => z_iload_n d_X11_deafened_0 rfl rfl k9) ?_
  refine qy (fun _ _ k9 => z_iload_n d_X11_deafened_1 rfl rfl k9) ?_
  refine qy (fun _ _ k9 => z_cs (M1 := M_X11_isRun) d_X11_deafened_2 ls_X11_280 k_X11_isRun [qI (n : Int), qI (k : Int)] rfl rfl (Nat.le_of_ble_eq_true rfl) (by decide) (by decide) (Nat.le_of_ble_eq_true rfl) (c_isRun (n : Int) (k : Int) (by omega)) k9) ?_
  refine qy2n (fun _ _ => z_ifeqB 17 d_X11_deafened_5 (by decide)) (fun hc1 => absurd hc1 (by omega)) (fun hc1 => ?_)
  refine qy (fun _ _ k9 => z_iload_n d_X11_deafened_8 rfl rfl k9) ?_
  refine qy (fun _ _ k9 => z_iconst d_X11_deafened_9 (by decide) k9) ?_
  refine qy (fun _ _ k9 => z_iconst d_X11_deafened_10 (by decide) k9) ?_
  refine qy (fun _ _ k9 => z_cs (M1 := M_X11_isWithin) d_X11_deafened_11 ls_X11_62 k_X11_isWithin [qI 1, qI 0, qI 1] rfl rfl (Nat.le_of_ble_eq_true rfl) (by decide) (by decide) (Nat.le_of_ble_eq_true rfl) (c_isWithin 1 0 1) k9) ?_
  refine qy2 (fun _ _ => z_ifneB 19 d_X11_deafened_14 (by decide)) (fun hc2 => ?_) (fun hc2 => absurd hc2 (by omega))
  refine qy (fun _ _ k9 => z_aload_n d_X11_deafened_19 rfl rfl k9) ?_
  refine qy (fun _ _ k9 => z_getf (v := qR 172) d_X11_deafened_20 fl_X11_40 (xput_ob (c := (F 2)) xi_2 rfl (xsh_11 xo_2)) rfl k9) ?_
  refine qy (fun _ _ k9 => z_getf (v := qR 173) d_X11_deafened_23 fl_X11_293 (xput_ob (c := (F 172)) xi_172 rfl (xsh_9 xo_172)) rfl k9) ?_
  refine qy (fun _ _ k9 => z_astore (ls' := [qR 2, qI (n : Int), qI (k : Int), qI 1, qR 173, qU, qU, qU, qU]) d_X11_deafened_26 (by decide) rfl k9) ?_
  refine qy (fun _ _ k9 => z_aload d_X11_deafened_28 rfl k9) ?_
  refine qy (fun _ _ k9 => z_iload_n d_X11_deafened_30 rfl rfl k9) ?_
  refine qy (fun _ _ k9 => z_iconst d_X11_deafened_31 (by decide) k9) ?_
  refine qy (fun _ _ k9 => z_iconst d_X11_deafened_32 (by decide) k9) ?_
  obtain ⟨F1, G1, ⟨hv1, hw1, hu1, hg1⟩, hx1⟩ := c_rnStart (h := h) (F := F) (G := G) (u := 173) n 0 0 (by decide) xo_173 (by omega) (by decide) (by decide)
  refine qy (fun _ _ k9 => z_cv0 (M1 := M_X7_start) d_X11_deafened_33 lv_X11_297 k_X7_start [qI (n : Int), qI 0, qI 0] rfl rfl (xput_ob (c := (F 173)) xi_173 rfl (xsh_7 xo_173)) ⟨_, _, rfl⟩ (Nat.le_of_ble_eq_true rfl) (by decide) (by decide) (Nat.le_of_ble_eq_true rfl) hx1 k9) ?_
  refine qy (fun _ _ k9 => z_aload d_X11_deafened_36 rfl k9) ?_
  refine qy (fun _ _ k9 => z_iload_n d_X11_deafened_38 rfl rfl k9) ?_
  refine qy (fun _ _ k9 => z_putf (fs' := [qR 174, qR 175, qR 176, qI ((F1 173) 3), qI ((F1 173) 4), qI ((F1 173) 5), qI (k : Int), qI ((F1 173) 7), qI ((F1 173) 8), qI ((F1 173) 9), qI ((F1 173) 10)]) d_X11_deafened_39 fp_X11_345 (xput_ob (c := (F1 173)) xi_173 rfl (xsh_7 xo_173)) (fun _ => rfl) (fun _ => rfl) (Nat.le_of_ble_eq_true rfl) rfl k9) ?_
  refine qy (fun _ _ k9 => z_eq rfl rfl (xput_sf (c := (qup (F1 173) 6 (k : Int))) xi_173 (xsh_7 xo_173)) k9) ?_
  refine qy (fun _ _ k9 => z_iconst d_X11_deafened_42 (by decide) k9) ?_
  refine qy (fun _ _ k9 => z_istore (ls' := [qR 2, qI (n : Int), qI (k : Int), qI 1, qR 173, qI 0, qU, qU, qU]) d_X11_deafened_43 (by decide) rfl k9) ?_
  refine qy (fun _ _ k9 => z_iconst d_X11_deafened_45 (by decide) k9) ?_
  refine qy (fun _ _ k9 => z_istore (ls' := [qR 2, qI (n : Int), qI (k : Int), qI 1, qR 173, qI 0, qI (-1), qU, qU]) d_X11_deafened_46 (by decide) rfl k9) ?_
  refine qy (fun _ _ k9 => z_iconst d_X11_deafened_48 (by decide) k9) ?_
  refine qy (fun _ _ k9 => z_istore (ls' := [qR 2, qI (n : Int), qI (k : Int), qI 1, qR 173, qI 0, qI (-1), qI 1, qU]) d_X11_deafened_49 (by decide) rfl k9) ?_
  refine qy (fun _ _ k9 => z_eq (qc rfl (qc rfl (qc rfl (qc rfl (qc rfl (qc (qi (rfl)) (qc (qi (rfl)) (qc (qi (rfl)) (qc rfl rfl))))))))) rfl rfl k9) (y_wh4 (fun (i : Nat) (c : Int) (Fa : Nat → Nat → Int) (Ga : Nat → Nat → Int) => 3 * n + 20 - i) (fun (i : Nat) (c : Int) (Fa : Nat → Nat → Int) (Ga : Nat → Nat → Int) => [qR 2, qI (n : Int), qI (k : Int), qI 1, qR 173, qI (dfA T n k i), qI (dfW T n k i), qI ((i + 1 : Nat) : Int), qU]) (fun (i : Nat) (c : Int) (Fa : Nat → Nat → Int) (Ga : Nat → Nat → Int) => (xput h Fa Ga)) (fun (i : Nat) (c : Int) (Fa : Nat → Nat → Int) (Ga : Nat → Nat → Int) => i ≤ 3 * n + 20 ∧ xfr 173 176 F G Fa Ga ∧ rnS Fa Ga 173 n 0 0 (k : Int) i (cnt (fun k9 => ps T n 0 (k : Int) 0 i k9 = 7) n) c (ps T n 0 (k : Int) 0 i)) 0 0 (gup F1 173 (qup (F1 173) 6 (k : Int))) G1 (⟨by omega, xfr_f hv1 (by decide) (by decide), rnS_M (rnS_df hw1) (fun _ _ => rfl) ps_l0 rfl⟩) (fun i c Fa Ga hp kk => ?_))
  obtain ⟨hi, hfr, hS1⟩ := hp
  show qEy M_X11_deafened 51 [qR 2, qI (n : Int), qI (k : Int), qI 1, qR 173, qI (dfA T n k i), qI (dfW T n k i), qI ((i + 1 : Nat) : Int), qU] [] (xput h Fa Ga) Q
  have hT1 : ∀ c, c < 648 → Ga 6 c = T c := fun c hc => by rw [xfr_G hfr (by decide)]; exact hT c hc
  have c0 := cnt_bd (fun k9 => ps T n 0 (k : Int) 0 i k9 = 7) n
  have c1 := cnt_bd (fun k9 => ps T n 0 (k : Int) 0 (i + 1) k9 = 7) n
  have c2 := cnt_bd (fun k9 => stp T n 0 (k : Int) (ps T n 0 (k : Int) 0 i) k9 = 7) n
  have b1 := dfA_bd (T := T) (n := n) (k := k) i
  refine qy (fun _ _ k9 => z_iload d_X11_deafened_51 rfl k9) ?_
  refine qy (fun _ _ k9 => z_aload d_X11_deafened_53 rfl k9) ?_
  refine qy (fun _ _ k9 => z_getf (v := qI ((Fa 173) 7)) d_X11_deafened_55 fl_X11_336 (xput_ob (c := (Fa 173)) xi_173 rfl (xsh_7 xo_173)) rfl k9) ?_
  refine qy (fun _ _ k9 => z_eq rfl (qc (qi hS1.2.1.1) rfl) rfl k9) ?_
  refine qy2 (fun _ _ => z_icmp_gt 116 d_X11_deafened_58 (by decide)) (fun q58 => ?_) (fun q58 => ?_)
  · refine qy (fun _ _ k9 => z_iload_n d_X11_deafened_116 rfl rfl k9) ?_
    refine qy2 (fun _ _ => z_if_ne 125 d_X11_deafened_117 (by decide)) (fun hc3 => ?_) (fun hc3 => absurd (by decide) hc3)
    refine qy (fun _ _ k9 => z_iload d_X11_deafened_125 rfl k9) ?_
    exact y_ret (hQ Fa Ga hfr) (z_iret d_X11_deafened_127 rfl (qsi (by rw [show i = 3 * n + 20 by omega])) rfl)
  · refine qy (fun _ _ k9 => z_aload d_X11_deafened_61 rfl k9) ?_
    refine qy (fun _ _ k9 => z_getf (v := qI ((Fa 173) 9)) d_X11_deafened_63 fl_X11_320 (xput_ob (c := (Fa 173)) xi_173 rfl (xsh_7 xo_173)) rfl k9) ?_
    refine qy (fun _ _ k9 => z_eq rfl (qc (qi hS1.2.1.2.2.1) rfl) rfl k9) ?_
    refine qy (fun _ _ k9 => z_istore (ls' := [qR 2, qI (n : Int), qI (k : Int), qI 1, qR 173, qI (dfA T n k i), qI (dfW T n k i), qI ((i + 1 : Nat) : Int), qI (cnt (fun k9 => ps T n 0 (k : Int) 0 i k9 = 7) n)]) d_X11_deafened_66 (by decide) rfl k9) ?_
    refine qy (fun _ _ k9 => z_aload d_X11_deafened_68 rfl k9) ?_
    refine qy (fun _ _ k9 => z_aload_n d_X11_deafened_70 rfl rfl k9) ?_
    refine qy (fun _ _ k9 => z_getf (v := qR 3) d_X11_deafened_71 fl_X11_12 (xput_ob (c := (Fa 2)) xi_2 rfl (xsh_11 xo_2)) rfl k9) ?_
    refine qy (fun _ _ k9 => z_getf (v := qR 4) d_X11_deafened_74 fl_X11_144 (xput_ob (c := (Fa 3)) xi_3 rfl (xsh_8 xo_3)) rfl k9) ?_
    refine qy (fun _ _ k9 => z_getf (v := qR 6) d_X11_deafened_77 fl_X11_243 (xput_ob (c := (Fa 4)) xi_4 rfl (xsh_0 xo_4)) rfl k9) ?_
    obtain ⟨F2, G2, ⟨hv2, hw2⟩, hx2⟩ := c_rnBr (h := h) (F := Fa) (G := Ga) (u := 173) (d := 6) (n := n) (rg := 0) (t := i) (df := (k : Int)) (M := (ps T n 0 (k : Int) 0 i)) (T := T) (by decide) xo_173 xa_6 (by decide) hn (by decide) (by omega) hT1 hS1 (ps_bd hB i)
    refine qy (fun _ _ k9 => z_cv0 (M1 := M_X7_breathe) d_X11_deafened_80 lv_X11_340 k_X7_breathe [qR 6] rfl rfl (xput_ob (c := (Fa 173)) xi_173 rfl (xsh_7 xo_173)) ⟨_, _, rfl⟩ (Nat.le_of_ble_eq_true rfl) (by decide) (by decide) (Nat.le_of_ble_eq_true rfl) hx2 k9) ?_
    refine qy (fun _ _ k9 => z_aload d_X11_deafened_83 rfl k9) ?_
    refine qy (fun _ _ k9 => z_getf (v := qI ((F2 173) 9)) d_X11_deafened_85 fl_X11_320 (xput_ob (c := (F2 173)) xi_173 rfl (xsh_7 xo_173)) rfl k9) ?_
    refine qy (fun _ _ k9 => z_eq rfl (qc (qi hw2.2.1.2.2.1) rfl) rfl k9) ?_
    refine qy (fun _ _ k9 => z_iload d_X11_deafened_88 rfl k9) ?_
    refine qy (fun _ _ k9 => z_isub d_X11_deafened_90 (by omega) k9) ?_
    refine qy (fun _ _ k9 => z_iload d_X11_deafened_91 rfl k9) ?_
    suffices kJ93 : qEy M_X11_deafened 110 [qR 2, qI (n : Int), qI (k : Int), qI 1, qR 173, qI (qif (((cnt (fun k9 => ps T n 0 (k : Int) 0 (i + 1) k9 = 7) n) - (cnt (fun k9 => ps T n 0 (k : Int) 0 i k9 = 7) n)) ≤ (dfA T n k i)) (dfA T n k i) ((cnt (fun k9 => ps T n 0 (k : Int) 0 (i + 1) k9 = 7) n) - (cnt (fun k9 => ps T n 0 (k : Int) 0 i k9 = 7) n))), qI (qif (((cnt (fun k9 => ps T n 0 (k : Int) 0 (i + 1) k9 = 7) n) - (cnt (fun k9 => ps T n 0 (k : Int) 0 i k9 = 7) n)) ≤ (dfA T n k i)) (dfW T n k i) ((i + 1 : Nat) : Int)), qI ((i + 1 : Nat) : Int), qI (cnt (fun k9 => ps T n 0 (k : Int) 0 i k9 = 7) n)] [] (xput h F2 G2) Q by
      refine qy2 (fun _ _ => z_icmp_le 110 d_X11_deafened_93 (by decide)) (fun hc4 => ?_) (fun hc4 => ?_)
      · exact qy (fun _ _ k9 => z_eq (qc rfl (qc rfl (qc rfl (qc rfl (qc rfl (qc (qi (qif_t hc4).symm) (qc (qi (qif_t hc4).symm) (qc rfl (qc rfl rfl))))))))) rfl rfl k9) kJ93
      · refine qy (fun _ _ k9 => z_aload d_X11_deafened_96 rfl k9) ?_
        refine qy (fun _ _ k9 => z_getf (v := qI ((F2 173) 9)) d_X11_deafened_98 fl_X11_320 (xput_ob (c := (F2 173)) xi_173 rfl (xsh_7 xo_173)) rfl k9) ?_
        refine qy (fun _ _ k9 => z_eq rfl (qc (qi hw2.2.1.2.2.1) rfl) rfl k9) ?_
        refine qy (fun _ _ k9 => z_iload d_X11_deafened_101 rfl k9) ?_
        refine qy (fun _ _ k9 => z_isub d_X11_deafened_103 (by omega) k9) ?_
        refine qy (fun _ _ k9 => z_istore (ls' := [qR 2, qI (n : Int), qI (k : Int), qI 1, qR 173, qI ((cnt (fun k9 => ps T n 0 (k : Int) 0 (i + 1) k9 = 7) n) - (cnt (fun k9 => ps T n 0 (k : Int) 0 i k9 = 7) n)), qI (dfW T n k i), qI ((i + 1 : Nat) : Int), qI (cnt (fun k9 => ps T n 0 (k : Int) 0 i k9 = 7) n)]) d_X11_deafened_104 (by decide) rfl k9) ?_
        refine qy (fun _ _ k9 => z_iload d_X11_deafened_106 rfl k9) ?_
        refine qy (fun _ _ k9 => z_istore (ls' := [qR 2, qI (n : Int), qI (k : Int), qI 1, qR 173, qI ((cnt (fun k9 => ps T n 0 (k : Int) 0 (i + 1) k9 = 7) n) - (cnt (fun k9 => ps T n 0 (k : Int) 0 i k9 = 7) n)), qI ((i + 1 : Nat) : Int), qI ((i + 1 : Nat) : Int), qI (cnt (fun k9 => ps T n 0 (k : Int) 0 i k9 = 7) n)]) d_X11_deafened_108 (by decide) rfl k9) ?_
        exact qy (fun _ _ k9 => z_eq (qc rfl (qc rfl (qc rfl (qc rfl (qc rfl (qc (qi (qif_f hc4).symm) (qc (qi (qif_f hc4).symm) (qc rfl (qc rfl rfl))))))))) rfl rfl k9) kJ93
    refine qy (fun _ _ k9 => z_iinc (ls' := [qR 2, qI (n : Int), qI (k : Int), qI 1, qR 173, qI (qif (((cnt (fun k9 => ps T n 0 (k : Int) 0 (i + 1) k9 = 7) n) - (cnt (fun k9 => ps T n 0 (k : Int) 0 i k9 = 7) n)) ≤ (dfA T n k i)) (dfA T n k i) ((cnt (fun k9 => ps T n 0 (k : Int) 0 (i + 1) k9 = 7) n) - (cnt (fun k9 => ps T n 0 (k : Int) 0 i k9 = 7) n))), qI (qif (((cnt (fun k9 => ps T n 0 (k : Int) 0 (i + 1) k9 = 7) n) - (cnt (fun k9 => ps T n 0 (k : Int) 0 i k9 = 7) n)) ≤ (dfA T n k i)) (dfW T n k i) ((i + 1 : Nat) : Int)), qI (((i + 1 : Nat) : Int) + 1), qI (cnt (fun k9 => ps T n 0 (k : Int) 0 i k9 = 7) n)]) d_X11_deafened_110 rfl (by decide) (by omega) rfl k9) ?_
    refine qy (fun _ _ k9 => z_goto 51 d_X11_deafened_113 (by decide) k9) ?_
    exact qy (fun _ _ k9 => z_dr (qle_k rfl (qle_k rfl (qle_k rfl (qle_k rfl (qle_k rfl (qle_k (qi (dfA_s (T := T) (n := n) (k := k) (i := i))) (qle_k (qi (dfW_s (T := T) (n := n) (k := k) (i := i))) (qle_k (qi (by omega)) (qle_d qle_n))))))))) rfl rfl k9) (kk (i + 1) (cnt (fun k9 => ps T n 0 (k : Int) 0 (i + 1) k9 ≠ ps T n 0 (k : Int) 0 i k9) n) F2 G2 (⟨by omega, xfr_tr hfr hv2, hw2⟩) (by omega))
set_option maxRecDepth 20000 in
set_option maxHeartbeats 4000000 in
theorem xc_stir_no {h : qH} {F G : Nat → Nat → Int} (n b what : Int) (hnR : R32 n) (hno : ¬ (((1 ≤ n ∧ n ≤ 32) ∧ 0 ≤ b ∧ b < n) ∧ 0 ≤ what ∧ what ≤ 2)) : qEx M_X11_stir 0 [qR 2, qI n, qI b, qI what, qU, qU, qU, qU, qU] [] (xput h F G) (some (qI (-1))) (xput h F G) := by
  refine q_gen (fun r hr er eh => ?_)
  refine z_iload_n d_X11_stir_0 rfl rfl ?_
  refine z_iload_n d_X11_stir_1 rfl rfl ?_
  refine z_cs (M1 := M_X11_isRun) d_X11_stir_2 ls_X11_280 k_X11_isRun [qI n, qI b] rfl rfl (Nat.le_of_ble_eq_true rfl) (by decide) (by decide) (Nat.le_of_ble_eq_true rfl) (c_isRun n b (by first | omega | exact hnR)) ?_
  refine z_ifeqB 17 d_X11_stir_5 (by decide) (fun q5 => ?_) (fun q5 => ?_)
  · refine z_iconst d_X11_stir_17 (by decide) ?_
    exact z_iret d_X11_stir_18 rfl er eh
  · refine z_iload_n d_X11_stir_8 rfl rfl ?_
    refine z_iconst d_X11_stir_9 (by decide) ?_
    refine z_iconst d_X11_stir_10 (by decide) ?_
    refine z_cs (M1 := M_X11_isWithin) d_X11_stir_11 ls_X11_62 k_X11_isWithin [qI what, qI 0, qI 2] rfl rfl (Nat.le_of_ble_eq_true rfl) (by decide) (by decide) (Nat.le_of_ble_eq_true rfl) (c_isWithin what 0 2) ?_
    refine z_ifneB 19 d_X11_stir_14 (by decide) (fun q14 => ?_) (fun q14 => ?_)
    · exact absurd ⟨q5, q14⟩ hno
    · refine z_iconst d_X11_stir_17 (by decide) ?_
      exact z_iret d_X11_stir_18 rfl er eh
set_option maxRecDepth 20000 in
set_option maxHeartbeats 4000000 in
theorem xc_deafened_no {h : qH} {F G : Nat → Nat → Int} (n b what : Int) (hnR : R32 n) (hno : ¬ (((1 ≤ n ∧ n ≤ 32) ∧ 0 ≤ b ∧ b < n) ∧ 0 ≤ what ∧ what ≤ 1)) : qEx M_X11_deafened 0 [qR 2, qI n, qI b, qI what, qU, qU, qU, qU, qU] [] (xput h F G) (some (qI (-1))) (xput h F G) := by
  refine q_gen (fun r hr er eh => ?_)
  refine z_iload_n d_X11_deafened_0 rfl rfl ?_
  refine z_iload_n d_X11_deafened_1 rfl rfl ?_
  refine z_cs (M1 := M_X11_isRun) d_X11_deafened_2 ls_X11_280 k_X11_isRun [qI n, qI b] rfl rfl (Nat.le_of_ble_eq_true rfl) (by decide) (by decide) (Nat.le_of_ble_eq_true rfl) (c_isRun n b (by first | omega | exact hnR)) ?_
  refine z_ifeqB 17 d_X11_deafened_5 (by decide) (fun q5 => ?_) (fun q5 => ?_)
  · refine z_iconst d_X11_deafened_17 (by decide) ?_
    exact z_iret d_X11_deafened_18 rfl er eh
  · refine z_iload_n d_X11_deafened_8 rfl rfl ?_
    refine z_iconst d_X11_deafened_9 (by decide) ?_
    refine z_iconst d_X11_deafened_10 (by decide) ?_
    refine z_cs (M1 := M_X11_isWithin) d_X11_deafened_11 ls_X11_62 k_X11_isWithin [qI what, qI 0, qI 1] rfl rfl (Nat.le_of_ble_eq_true rfl) (by decide) (by decide) (Nat.le_of_ble_eq_true rfl) (c_isWithin what 0 1) ?_
    refine z_ifneB 19 d_X11_deafened_14 (by decide) (fun q14 => ?_) (fun q14 => ?_)
    · exact absurd ⟨q5, q14⟩ hno
    · refine z_iconst d_X11_deafened_17 (by decide) ?_
      exact z_iret d_X11_deafened_18 rfl er eh
set_option maxRecDepth 20000 in
set_option maxHeartbeats 4000000 in
theorem xc_picture_no {h : qH} {F G : Nat → Nat → Int} (n b t k : Int) (hnR : R32 n) (hno : ¬ (((1 ≤ n ∧ n ≤ 32) ∧ 0 ≤ b ∧ b < n) ∧ (0 ≤ t ∧ t ≤ 116) ∧ 0 ≤ k ∧ k < n)) : qEx M_X11_picture 0 [qR 2, qI n, qI b, qI t, qI k, qU, qU] [] (xput h F G) (some (qI (-1))) (xput h F G) := by
  refine q_gen (fun r hr er eh => ?_)
  refine z_iload_n d_X11_picture_0 rfl rfl ?_
  refine z_iload_n d_X11_picture_1 rfl rfl ?_
  refine z_cs (M1 := M_X11_isRun) d_X11_picture_2 ls_X11_280 k_X11_isRun [qI n, qI b] rfl rfl (Nat.le_of_ble_eq_true rfl) (by decide) (by decide) (Nat.le_of_ble_eq_true rfl) (c_isRun n b (by first | omega | exact hnR)) ?_
  refine z_ifeqB 30 d_X11_picture_5 (by decide) (fun q5 => ?_) (fun q5 => ?_)
  · refine z_iconst d_X11_picture_30 (by decide) ?_
    exact z_iret d_X11_picture_31 rfl er eh
  · refine z_iload_n d_X11_picture_8 rfl rfl ?_
    refine z_iconst d_X11_picture_9 (by decide) ?_
    refine z_bipush d_X11_picture_10 (by decide) ?_
    refine z_cs (M1 := M_X11_isWithin) d_X11_picture_12 ls_X11_62 k_X11_isWithin [qI t, qI 0, qI 116] rfl rfl (Nat.le_of_ble_eq_true rfl) (by decide) (by decide) (Nat.le_of_ble_eq_true rfl) (c_isWithin t 0 116) ?_
    refine z_ifeqB 30 d_X11_picture_15 (by decide) (fun q15 => ?_) (fun q15 => ?_)
    · refine z_iconst d_X11_picture_30 (by decide) ?_
      exact z_iret d_X11_picture_31 rfl er eh
    · refine z_iload d_X11_picture_18 rfl ?_
      refine z_iconst d_X11_picture_20 (by decide) ?_
      refine z_iload_n d_X11_picture_21 rfl rfl ?_
      refine z_iconst d_X11_picture_22 (by decide) ?_
      refine z_isub d_X11_picture_23 (by first | omega | exact hnR) ?_
      refine z_cs (M1 := M_X11_isWithin) d_X11_picture_24 ls_X11_62 k_X11_isWithin [qI k, qI 0, qI (n - 1)] rfl rfl (Nat.le_of_ble_eq_true rfl) (by decide) (by decide) (Nat.le_of_ble_eq_true rfl) (c_isWithin k 0 (n - 1)) ?_
      refine z_ifneB 32 d_X11_picture_27 (by decide) (fun q27 => ?_) (fun q27 => ?_)
      · exact absurd ⟨q5, q15, by omega⟩ hno
      · refine z_iconst d_X11_picture_30 (by decide) ?_
        exact z_iret d_X11_picture_31 rfl er eh
set_option maxRecDepth 20000 in
set_option maxHeartbeats 4000000 in
theorem xc_mark_no {h : qH} {F G : Nat → Nat → Int} (n b t k : Int) (hnR : R32 n) (hno : ¬ (((1 ≤ n ∧ n ≤ 32) ∧ 0 ≤ b ∧ b < n) ∧ (0 ≤ t ∧ t ≤ 7) ∧ 0 ≤ k ∧ k < n)) : qEx M_X11_mark 0 [qR 2, qI n, qI b, qI t, qI k, qU, qU] [] (xput h F G) (some (qI (-1))) (xput h F G) := by
  refine q_gen (fun r hr er eh => ?_)
  refine z_iload_n d_X11_mark_0 rfl rfl ?_
  refine z_iload_n d_X11_mark_1 rfl rfl ?_
  refine z_cs (M1 := M_X11_isRun) d_X11_mark_2 ls_X11_280 k_X11_isRun [qI n, qI b] rfl rfl (Nat.le_of_ble_eq_true rfl) (by decide) (by decide) (Nat.le_of_ble_eq_true rfl) (c_isRun n b (by first | omega | exact hnR)) ?_
  refine z_ifeqB 30 d_X11_mark_5 (by decide) (fun q5 => ?_) (fun q5 => ?_)
  · refine z_iconst d_X11_mark_30 (by decide) ?_
    exact z_iret d_X11_mark_31 rfl er eh
  · refine z_iload_n d_X11_mark_8 rfl rfl ?_
    refine z_iconst d_X11_mark_9 (by decide) ?_
    refine z_bipush d_X11_mark_10 (by decide) ?_
    refine z_cs (M1 := M_X11_isWithin) d_X11_mark_12 ls_X11_62 k_X11_isWithin [qI t, qI 0, qI 7] rfl rfl (Nat.le_of_ble_eq_true rfl) (by decide) (by decide) (Nat.le_of_ble_eq_true rfl) (c_isWithin t 0 7) ?_
    refine z_ifeqB 30 d_X11_mark_15 (by decide) (fun q15 => ?_) (fun q15 => ?_)
    · refine z_iconst d_X11_mark_30 (by decide) ?_
      exact z_iret d_X11_mark_31 rfl er eh
    · refine z_iload d_X11_mark_18 rfl ?_
      refine z_iconst d_X11_mark_20 (by decide) ?_
      refine z_iload_n d_X11_mark_21 rfl rfl ?_
      refine z_iconst d_X11_mark_22 (by decide) ?_
      refine z_isub d_X11_mark_23 (by first | omega | exact hnR) ?_
      refine z_cs (M1 := M_X11_isWithin) d_X11_mark_24 ls_X11_62 k_X11_isWithin [qI k, qI 0, qI (n - 1)] rfl rfl (Nat.le_of_ble_eq_true rfl) (by decide) (by decide) (Nat.le_of_ble_eq_true rfl) (c_isWithin k 0 (n - 1)) ?_
      refine z_ifneB 32 d_X11_mark_27 (by decide) (fun q27 => ?_) (fun q27 => ?_)
      · exact absurd ⟨q5, q15, by omega⟩ hno
      · refine z_iconst d_X11_mark_30 (by decide) ?_
        exact z_iret d_X11_mark_31 rfl er eh
