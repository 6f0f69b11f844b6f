/-! ===== CONTRACTS: trials: firstBad, decides, deciders, leastIdle, askAll ===== -/
/-- the run at 173 is at the end of the RUN of length n -/
def rn73 (F G : Nat → Nat → Int) (T : Nat → Int) (n rg : Nat) (b : Int) : Prop := ∃ tt ch', rnS F G 173 n rg 0 (-1) tt (cnt (fun k => rnE T n rg b k = 7) n) ch' (rnE T n rg b) ∧ tt ≤ 3 * n + 20 ∧ (rnT T n rg b ≠ -1 → rnT T n rg b = (tt : Int)) ∧ (rnT T n rg b = -1 ↔ cnt (fun k => rnE T n rg b k = 7) n = 0)
theorem goodR_c {T : Nat → Int} {n : Nat} (hn : 1 ≤ n) (h : rnT T n 0 0 = -1 ↔ cnt (fun k => rnE T n 0 0 k = 7) n = 0) : goodR T n ↔ cnt (fun k => rnE T n 0 0 k = 7) n = (n : Int) := by
  unfold goodR
  exact ⟨fun z => z.2, fun z => ⟨fun y => by have := h.mp y; omega, z⟩⟩
set_option maxRecDepth 20000 in
set_option maxHeartbeats 4000000 in
theorem xc_firstBad {h : qH} {F G : Nat → Nat → Int} {d to : Nat} {T : Nat → Int} (hs : xAr d 0 648) (hd : d < 173 ∨ 176 < d) (ht : to ≤ 24) (hT : ∀ c, c < 648 → G d c = T c) (hB : ∀ c, c < 648 → 0 ≤ T c ∧ T c ≤ 7) : ∃ F' G', (xfr 173 176 F G F' G' ∧ (fbR T to ≠ -1 → rn73 F' G' T (fbN T to) 0 0)) ∧ qEx M_X9_firstBad 0 [qR 172, qR d, qI (to : Int), qU] [] (xput h F G) (some (qI (fbR T to))) (xput h F' G') := by
  refine x_in (fun Q hQ => ?_)
  refine qy (fun _ _ k9 => z_iconst d_X9_firstBad_0 (by decide) k9) ?_
  refine qy (fun _ _ k9 => z_istore_n (ls' := [qR 172, qR d, qI (to : Int), qI 1]) d_X9_firstBad_1 rfl (by decide) rfl k9) ?_
  refine qy (fun _ _ k9 => z_eq (qc rfl (qc rfl (qc rfl (qc (qi (rfl)) rfl)))) rfl rfl k9) (y_wh3 (fun (i : Nat) (Fa : Nat → Nat → Int) (Ga : Nat → Nat → Int) => to - i) (fun (i : Nat) (Fa : Nat → Nat → Int) (Ga : Nat → Nat → Int) => [qR 172, qR d, qI (to : Int), qI (((i + 1) : Nat) : Int)]) (fun (i : Nat) (Fa : Nat → Nat → Int) (Ga : Nat → Nat → Int) => (xput h Fa Ga)) (fun (i : Nat) (Fa : Nat → Nat → Int) (Ga : Nat → Nat → Int) => i ≤ to ∧ xfr 173 176 F G Fa Ga ∧ ∀ k, k < i → goodR T (k + 1)) 0 F G (⟨by omega, xfr_rf _ _ _ _, fun k hk => absurd hk (by omega)⟩) (fun i Fa Ga hp kk => ?_))
  obtain ⟨hi, hfr, hp⟩ := hp
  show qEy M_X9_firstBad 2 [qR 172, qR d, qI (to : Int), qI (((i + 1) : Nat) : Int)] [] (xput h Fa Ga) Q
  have hT1 : ∀ c, c < 648 → Ga d c = T c := fun c hc => by rw [xfr_G hfr (by omega)]; exact hT c hc
  refine qy (fun _ _ k9 => z_iload_n d_X9_firstBad_2 rfl rfl k9) ?_
  refine qy (fun _ _ k9 => z_iload_n d_X9_firstBad_3 rfl rfl k9) ?_
  refine qy2 (fun _ _ => z_icmp_gt 43 d_X9_firstBad_4 (by decide)) (fun q0 => ?_) (fun q0 => ?_)
  · refine qy (fun _ _ k9 => z_iconst d_X9_firstBad_43 (by decide) k9) ?_
    exact y_ret (hQ Fa Ga (⟨hfr, fun z => absurd (by unfold fbR; rw [fb_n (T := T) (to := to) (fun k hk => hp k (by omega)), qif_t rfl]) z⟩)) (z_iret d_X9_firstBad_44 rfl (qsi (by unfold fbR; rw [fb_n (T := T) (to := to) (fun k hk => hp k (by omega)), qif_t rfl])) rfl)
  · refine qy (fun _ _ k9 => z_aload_n d_X9_firstBad_7 rfl rfl k9) ?_
    refine qy (fun _ _ k9 => z_getf (v := qR 173) d_X9_firstBad_8 fl_X9_12 (xput_ob (c := (Fa 172)) xi_172 rfl (xsh_9 xo_172)) rfl k9) ?_
    refine qy (fun _ _ k9 => z_iload_n d_X9_firstBad_11 rfl rfl k9) ?_
    refine qy (fun _ _ k9 => z_iconst d_X9_firstBad_12 (by decide) k9) ?_
    refine qy (fun _ _ k9 => z_iconst d_X9_firstBad_13 (by decide) k9) ?_
    obtain ⟨F1, G1, ⟨hv1, hw1, hu1, hg1⟩, hx1⟩ := c_rnStart (h := h) (F := Fa) (G := Ga) (u := 173) (i + 1) 0 0 (by decide) xo_173 (by omega) (by omega) (by decide)
    refine qy (fun _ _ k9 => z_cv0 (M1 := M_X7_start) d_X9_firstBad_14 lv_X9_42 k_X7_start [qI (((i + 1) : Nat) : Int), qI 0, qI 0] rfl rfl (xput_ob (c := (Fa 173)) xi_173 rfl (xsh_7 xo_173)) ⟨_, _, rfl⟩ (Nat.le_of_ble_eq_true rfl) (by decide) (by decide) (Nat.le_of_ble_eq_true rfl) hx1 k9) ?_
    refine qy (fun _ _ k9 => z_aload_n d_X9_firstBad_17 rfl rfl k9) ?_
    refine qy (fun _ _ k9 => z_getf (v := qR 173) d_X9_firstBad_18 fl_X9_12 (xput_ob (c := (F1 172)) xi_172 rfl (xsh_9 xo_172)) rfl k9) ?_
    refine qy (fun _ _ k9 => z_aload_n d_X9_firstBad_21 rfl rfl k9) ?_
    obtain ⟨F2, G2, ⟨tt2, ch2, hv2, hw2, he2⟩, hx2⟩ := c_rnFin (h := h) (F := F1) (G := G1) (u := 173) (d := d) (n := (i + 1)) (rg := 0) (b := 0) (T := T) (by decide) xo_173 hs (by omega) (by omega) (by decide) (fun c hc => by rw [xfr_G hv1 (by omega)]; exact hT1 c hc) hB hw1
    refine qy (fun _ _ k9 => z_cv0 (M1 := M_X7_finish) d_X9_firstBad_22 lv_X9_46 k_X7_finish [qR d] rfl rfl (xput_ob (c := (F1 173)) xi_173 rfl (xsh_7 xo_173)) ⟨_, _, rfl⟩ (Nat.le_of_ble_eq_true rfl) (by decide) (by decide) (Nat.le_of_ble_eq_true rfl) hx2 k9) ?_
    refine qy (fun _ _ k9 => z_aload_n d_X9_firstBad_25 rfl rfl k9) ?_
    refine qy (fun _ _ k9 => z_getf (v := qR 173) d_X9_firstBad_26 fl_X9_12 (xput_ob (c := (F2 172)) xi_172 rfl (xsh_9 xo_172)) rfl k9) ?_
    refine qy (fun _ _ k9 => z_cv (M1 := M_X7_isGood) d_X9_firstBad_29 lv_X9_50 k_X7_isGood [] rfl rfl (xput_ob (c := (F2 173)) xi_173 rfl (xsh_7 xo_173)) ⟨_, _, rfl⟩ (Nat.le_of_ble_eq_true rfl) (by decide) (by decide) (Nat.le_of_ble_eq_true rfl) (c_rnGood (by decide) xo_173 hw2) k9) ?_
    refine qy2 (fun _ _ => z_ifneB 37 d_X9_firstBad_32 (by decide)) (fun q1 => ?_) (fun q1 => ?_)
    · refine qy (fun _ _ k9 => z_iinc (ls' := [qR 172, qR d, qI (to : Int), qI ((((i + 1) : Nat) : Int) + 1)]) d_X9_firstBad_37 rfl (by decide) (by omega) rfl k9) ?_
      refine qy (fun _ _ k9 => z_goto 2 d_X9_firstBad_40 (by decide) k9) ?_
      exact qy (fun _ _ k9 => z_eq (qc rfl (qc rfl (qc rfl (qc (qi (by omega)) rfl)))) rfl rfl k9) (kk (i + 1) F2 G2 (⟨by omega, xfr_tr hfr (xfr_tr hv1 hv2), q_lts hp ((goodR_c (by omega) he2.2.2).mpr q1)⟩) (by omega))
    · refine qy (fun _ _ k9 => z_iload_n d_X9_firstBad_35 rfl rfl k9) ?_
      exact y_ret (hQ F2 G2 (⟨xfr_tr hfr (xfr_tr hv1 hv2), fun _ => by unfold fbN; rw [fb_f (T := T) (to := to) (i := i) (by omega) hp (fun z => q1 ((goodR_c (by omega) he2.2.2).mp z)), if_neg (by omega), Int.toNat_natCast]; exact ⟨tt2, ch2, hw2, he2⟩⟩)) (z_iret d_X9_firstBad_36 rfl (qsi (by unfold fbR; rw [fb_f (T := T) (to := to) (i := i) (by omega) hp (fun z => q1 ((goodR_c (by omega) he2.2.2).mp z)), qif_f (by omega)]; rfl)) rfl)
set_option maxRecDepth 20000 in
set_option maxHeartbeats 4000000 in
theorem c_askAll {h : qH} {F G : Nat → Nat → Int}   : qEx M_X9_askAll 0 [qR 172] [] (xput h F G) none (xput h F (gup G 205 (qmx 648 (fun _ => 1) (G 205)))) := by
  refine q_gen (fun r hr er eh => ?_)
  refine z_aload_n d_X9_askAll_0 rfl rfl ?_
  refine z_getf (v := qR 205) d_X9_askAll_1 fl_X9_28 (xput_ob (c := (F 172)) xi_172 rfl (xsh_9 xo_172)) rfl ?_
  refine z_iconst d_X9_askAll_4 (by decide) ?_
  refine z_cs0 (M1 := M_J7_fill_53178) d_X9_askAll_5 ls_X9_54 k_J7_fill_53178 [qR 205, qI 1] rfl rfl (Nat.le_of_ble_eq_true rfl) (by decide) (by decide) (Nat.le_of_ble_eq_true rfl) (c_fill (xput_ar (g := (G 205)) xa_205 rfl) (by decide) (by decide)) ?_
  refine z_eq rfl rfl (xput_sa xa_205) ?_
  exact z_vret d_X9_askAll_8 rfl er eh
def dcP (A D : Nat → Int) (q : Int) : Prop := ∃ c, c < 567 ∧ A c ≠ 0 ∧ D c = q
set_option maxRecDepth 20000 in
set_option maxHeartbeats 4000000 in
theorem c_decides {h : qH} {F G : Nat → Nat → Int} {b : Nat} (q : Int) (hb2 : 2 ≤ b) (hb : xk b = 0) : qEx M_X9_decides 0 [qR 172, qI q, qR b, qU] [] (xput h F G) (some (qI (qb (dcP (G 205) (G (b + 3)) q)))) (xput h F G) := by
  refine q_gen (fun r hr er eh => ?_)
  refine z_iconst d_X9_decides_0 (by decide) ?_
  refine z_istore_n (ls' := [qR 172, qI q, qR b, qI 0]) d_X9_decides_1 rfl (by decide) rfl ?_
  refine z_eq (qc rfl (qc rfl (qc rfl (qc (qi (rfl)) rfl)))) rfl rfl (z_for 567 (fun c => [qR 172, qI q, qR b, qI (c : Int)]) (fun c => (xput h F G)) (fun c => ∀ k, k < c → ¬ (G 205 k ≠ 0 ∧ G (b + 3) k = q)) (fun k hk => absurd hk (by omega)) (fun c hic hp kkc => ?_) (fun hp => ?_))
  · show qEx M_X9_decides 2 [qR 172, qI q, qR b, qI (c : Int)] [] (xput h F G) r hr
    refine z_iload_n d_X9_decides_2 rfl rfl ?_
    refine z_sipush d_X9_decides_3 (by decide) ?_
    refine z_icmp_ge 36 d_X9_decides_6 (by decide) (fun hc1 => absurd hc1 (by omega)) (fun hc1 => ?_)
    refine z_aload_n d_X9_decides_9 rfl rfl ?_
    refine z_getf (v := qR 205) d_X9_decides_10 fl_X9_28 (xput_ob (c := (F 172)) xi_172 rfl (xsh_9 xo_172)) rfl ?_
    refine z_iload_n d_X9_decides_13 rfl rfl ?_
    refine z_ild c d_X9_decides_14 (xput_ar (g := (G 205)) xa_205 rfl) rfl (by omega) ?_
    refine z_if_eq 30 d_X9_decides_15 (by decide) (fun q1 => ?_) (fun q1 => ?_)
    · refine z_iinc (ls' := [qR 172, qI q, qR b, qI ((c : Int) + 1)]) d_X9_decides_30 rfl (by decide) (by omega) rfl ?_
      refine z_goto 2 d_X9_decides_33 (by decide) ?_
      exact z_eq (qc rfl (qc rfl (qc rfl (qc (qi (by omega)) rfl)))) rfl rfl (kkc (q_lts hp (fun z => z.1 q1)))
    · refine z_aload_n d_X9_decides_18 rfl rfl ?_
      refine z_getf (v := qR (b + 3)) d_X9_decides_19 fl_X9_82 (xput_ob (c := (F b)) (bkx_in hb2 hb) rfl (xsh_0 hb)) rfl ?_
      refine z_iload_n d_X9_decides_22 rfl rfl ?_
      refine z_ild c d_X9_decides_23 (xput_ar (g := (G (b + 3))) (bkx_3 hb2 hb) rfl) rfl (by omega) ?_
      refine z_iload_n d_X9_decides_24 rfl rfl ?_
      refine z_icmp_ne 30 d_X9_decides_25 (by decide) (fun q2 => ?_) (fun q2 => ?_)
      · refine z_iinc (ls' := [qR 172, qI q, qR b, qI ((c : Int) + 1)]) d_X9_decides_30 rfl (by decide) (by omega) rfl ?_
        refine z_goto 2 d_X9_decides_33 (by decide) ?_
        exact z_eq (qc rfl (qc rfl (qc rfl (qc (qi (by omega)) rfl)))) rfl rfl (kkc (q_lts hp (fun z => q2 z.2)))
      · refine z_iconst d_X9_decides_28 (by decide) ?_
        exact z_zret d_X9_decides_29 rfl (by first | exact qb_01 _ | decide | omega) (qer er (qb_t ⟨c, hic, q1, Classical.not_not.mp q2⟩)) eh
  · show qEx M_X9_decides 2 [qR 172, qI q, qR b, qI (567 : Int)] [] (xput h F G) r hr
    refine z_iload_n d_X9_decides_2 rfl rfl ?_
    refine z_sipush d_X9_decides_3 (by decide) ?_
    refine z_icmp_ge 36 d_X9_decides_6 (by decide) (fun hc2 => ?_) (fun hc2 => absurd hc2 (by omega))
    refine z_iconst d_X9_decides_36 (by decide) ?_
    exact z_zret d_X9_decides_37 rfl (by first | exact qb_01 _ | decide | omega) (qer er (qb_f (fun ⟨c, hc, z1, z2⟩ => hp c hc ⟨z1, z2⟩))) eh
set_option maxRecDepth 20000 in
set_option maxHeartbeats 4000000 in
theorem c_deciders {h : qH} {F G : Nat → Nat → Int} {b : Nat} {R C : Nat → Int} (hb2 : 2 ≤ b) (hb : xk b = 0) (hR : bkR F G b R C) : qEx M_X9_deciders 0 [qR 172, qR b, qU, qU] [] (xput h F G) (some (qI (cnt (fun q => rlP C q ∧ dcP (G 205) (G (b + 3)) (q : Int)) 96))) (xput h F G) := by
  refine q_gen (fun r hr er eh => ?_)
  refine z_iconst d_X9_deciders_0 (by decide) ?_
  refine z_istore_n (ls' := [qR 172, qR b, qI 0, qU]) d_X9_deciders_1 rfl (by decide) rfl ?_
  refine z_iconst d_X9_deciders_2 (by decide) ?_
  refine z_istore_n (ls' := [qR 172, qR b, qI 0, qI 0]) d_X9_deciders_3 rfl (by decide) rfl ?_
  refine z_eq (qc rfl (qc rfl (qc (qi (rfl)) (qc (qi (rfl)) rfl)))) rfl rfl (z_for 96 (fun q => [qR 172, qR b, qI (cnt (fun q => rlP C q ∧ dcP (G 205) (G (b + 3)) (q : Int)) q), qI (q : Int)]) (fun q => (xput h F G)) (fun q => True) trivial (fun q hiq hp kkq => ?_) (fun hp => ?_))
  · show qEx M_X9_deciders 4 [qR 172, qR b, qI (cnt (fun q => rlP C q ∧ dcP (G 205) (G (b + 3)) (q : Int)) q), qI (q : Int)] [] (xput h F G) r hr
    have hcn := cnt_bd (fun q => rlP C q ∧ dcP (G 205) (G (b + 3)) (q : Int)) q
    refine z_iload_n d_X9_deciders_4 rfl rfl ?_
    refine z_bipush d_X9_deciders_5 (by decide) ?_
    refine z_icmp_ge 36 d_X9_deciders_7 (by decide) (fun hc1 => absurd hc1 (by omega)) (fun hc1 => ?_)
    refine z_aload_n d_X9_deciders_10 rfl rfl ?_
    refine z_iload_n d_X9_deciders_11 rfl rfl ?_
    refine z_cv (M1 := M_X0_has) d_X9_deciders_12 lv_X9_85 k_X0_has [qI (q : Int)] rfl rfl (xput_ob (c := (F b)) (bkx_in hb2 hb) rfl (xsh_0 hb)) ⟨_, _, rfl⟩ (Nat.le_of_ble_eq_true rfl) (by decide) (by decide) (Nat.le_of_ble_eq_true rfl) (c_bkHas q hb2 hb (by omega) hR) ?_
    refine z_ifeqB 30 d_X9_deciders_15 (by decide) (fun q1 => ?_) (fun q1 => ?_)
    · refine z_iinc (ls' := [qR 172, qR b, qI (cnt (fun q => rlP C q ∧ dcP (G 205) (G (b + 3)) (q : Int)) q), qI ((q : Int) + 1)]) d_X9_deciders_30 rfl (by decide) (by omega) rfl ?_
      refine z_goto 4 d_X9_deciders_33 (by decide) ?_
      exact z_eq (qc rfl (qc rfl (qc (qi ((cnt_f (p := (fun q => rlP C q ∧ dcP (G 205) (G (b + 3)) (q : Int))) (fun z => q1 z.1)).symm)) (qc (qi (by omega)) rfl)))) rfl rfl (kkq trivial)
    · refine z_aload_n d_X9_deciders_18 rfl rfl ?_
      refine z_iload_n d_X9_deciders_19 rfl rfl ?_
      refine z_aload_n d_X9_deciders_20 rfl rfl ?_
      refine z_cv (M1 := M_X9_decides) d_X9_deciders_21 lv_X9_89 k_X9_decides [qI (q : Int), qR b] rfl rfl (xput_ob (c := (F 172)) xi_172 rfl (xsh_9 xo_172)) ⟨_, _, rfl⟩ (Nat.le_of_ble_eq_true rfl) (by decide) (by decide) (Nat.le_of_ble_eq_true rfl) (c_decides (q : Int) hb2 hb) ?_
      refine z_ifeqB 30 d_X9_deciders_24 (by decide) (fun q2 => ?_) (fun q2 => ?_)
      · refine z_iinc (ls' := [qR 172, qR b, qI (cnt (fun q => rlP C q ∧ dcP (G 205) (G (b + 3)) (q : Int)) q), qI ((q : Int) + 1)]) d_X9_deciders_30 rfl (by decide) (by omega) rfl ?_
        refine z_goto 4 d_X9_deciders_33 (by decide) ?_
        exact z_eq (qc rfl (qc rfl (qc (qi ((cnt_f (p := (fun q => rlP C q ∧ dcP (G 205) (G (b + 3)) (q : Int))) (fun z => q2 z.2)).symm)) (qc (qi (by omega)) rfl)))) rfl rfl (kkq trivial)
      · refine z_iinc (ls' := [qR 172, qR b, qI ((cnt (fun q => rlP C q ∧ dcP (G 205) (G (b + 3)) (q : Int)) q) + 1), qI (q : Int)]) d_X9_deciders_27 rfl (by decide) (by omega) rfl ?_
        refine z_iinc (ls' := [qR 172, qR b, qI ((cnt (fun q => rlP C q ∧ dcP (G 205) (G (b + 3)) (q : Int)) q) + 1), qI ((q : Int) + 1)]) d_X9_deciders_30 rfl (by decide) (by omega) rfl ?_
        refine z_goto 4 d_X9_deciders_33 (by decide) ?_
        exact z_eq (qc rfl (qc rfl (qc (qi ((cnt_t (p := (fun q => rlP C q ∧ dcP (G 205) (G (b + 3)) (q : Int))) ⟨q1, q2⟩).symm)) (qc (qi (by omega)) rfl)))) rfl rfl (kkq trivial)
  · show qEx M_X9_deciders 4 [qR 172, qR b, qI (cnt (fun q => rlP C q ∧ dcP (G 205) (G (b + 3)) (q : Int)) 96), qI (96 : Int)] [] (xput h F G) r hr
    refine z_iload_n d_X9_deciders_4 rfl rfl ?_
    refine z_bipush d_X9_deciders_5 (by decide) ?_
    refine z_icmp_ge 36 d_X9_deciders_7 (by decide) (fun hc2 => ?_) (fun hc2 => absurd hc2 (by omega))
    refine z_iload_n d_X9_deciders_36 rfl rfl ?_
    exact z_iret d_X9_deciders_37 rfl er eh
set_option maxRecDepth 20000 in
set_option maxHeartbeats 4000000 in
theorem c_leastIdle {h : qH} {F G : Nat → Nat → Int} {b : Nat} {R C : Nat → Int} (hb2 : 2 ≤ b) (hb : xk b = 0) (hR : bkR F G b R C) : qEx M_X9_leastIdle 0 [qR 172, qR b, qU] [] (xput h F G) (some (qI (fst (fun q => rlP C q ∧ ¬ dcP (G 205) (G (b + 3)) (q : Int)) 96))) (xput h F G) := by
  refine q_gen (fun r hr er eh => ?_)
  refine z_iconst d_X9_leastIdle_0 (by decide) ?_
  refine z_istore_n (ls' := [qR 172, qR b, qI 0]) d_X9_leastIdle_1 rfl (by decide) rfl ?_
  refine z_eq (qc rfl (qc rfl (qc (qi (rfl)) rfl))) rfl rfl (z_for 96 (fun q => [qR 172, qR b, qI (q : Int)]) (fun q => (xput h F G)) (fun q => ∀ k, k < q → ¬ (fun q => rlP C q ∧ ¬ dcP (G 205) (G (b + 3)) (q : Int)) k) (fun k hk => absurd hk (by omega)) (fun q hiq hp kkq => ?_) (fun hp => ?_))
  · show qEx M_X9_leastIdle 2 [qR 172, qR b, qI (q : Int)] [] (xput h F G) r hr
    refine z_iload_n d_X9_leastIdle_2 rfl rfl ?_
    refine z_bipush d_X9_leastIdle_3 (by decide) ?_
    refine z_icmp_ge 33 d_X9_leastIdle_5 (by decide) (fun hc1 => absurd hc1 (by omega)) (fun hc1 => ?_)
    refine z_aload_n d_X9_leastIdle_8 rfl rfl ?_
    refine z_iload_n d_X9_leastIdle_9 rfl rfl ?_
    refine z_cv (M1 := M_X0_has) d_X9_leastIdle_10 lv_X9_85 k_X0_has [qI (q : Int)] rfl rfl (xput_ob (c := (F b)) (bkx_in hb2 hb) rfl (xsh_0 hb)) ⟨_, _, rfl⟩ (Nat.le_of_ble_eq_true rfl) (by decide) (by decide) (Nat.le_of_ble_eq_true rfl) (c_bkHas q hb2 hb (by omega) hR) ?_
    refine z_ifeqB 27 d_X9_leastIdle_13 (by decide) (fun q1 => ?_) (fun q1 => ?_)
    · refine z_iinc (ls' := [qR 172, qR b, qI ((q : Int) + 1)]) d_X9_leastIdle_27 rfl (by decide) (by omega) rfl ?_
      refine z_goto 2 d_X9_leastIdle_30 (by decide) ?_
      exact z_eq (qc rfl (qc rfl (qc (qi (by omega)) rfl))) rfl rfl (kkq (q_lts hp (fun z => q1 z.1)))
    · refine z_aload_n d_X9_leastIdle_16 rfl rfl ?_
      refine z_iload_n d_X9_leastIdle_17 rfl rfl ?_
      refine z_aload_n d_X9_leastIdle_18 rfl rfl ?_
      refine z_cv (M1 := M_X9_decides) d_X9_leastIdle_19 lv_X9_89 k_X9_decides [qI (q : Int), qR b] rfl rfl (xput_ob (c := (F 172)) xi_172 rfl (xsh_9 xo_172)) ⟨_, _, rfl⟩ (Nat.le_of_ble_eq_true rfl) (by decide) (by decide) (Nat.le_of_ble_eq_true rfl) (c_decides (q : Int) hb2 hb) ?_
      refine z_ifneB 27 d_X9_leastIdle_22 (by decide) (fun q2 => ?_) (fun q2 => ?_)
      · refine z_iinc (ls' := [qR 172, qR b, qI ((q : Int) + 1)]) d_X9_leastIdle_27 rfl (by decide) (by omega) rfl ?_
        refine z_goto 2 d_X9_leastIdle_30 (by decide) ?_
        exact z_eq (qc rfl (qc rfl (qc (qi (by omega)) rfl))) rfl rfl (kkq (q_lts hp (fun z => z.2 q2)))
      · refine z_iload_n d_X9_leastIdle_25 rfl rfl ?_
        exact z_iret d_X9_leastIdle_26 rfl (qer er (fst_at hiq hp ⟨q1, q2⟩)) eh
  · show qEx M_X9_leastIdle 2 [qR 172, qR b, qI (96 : Int)] [] (xput h F G) r hr
    refine z_iload_n d_X9_leastIdle_2 rfl rfl ?_
    refine z_bipush d_X9_leastIdle_3 (by decide) ?_
    refine z_icmp_ge 33 d_X9_leastIdle_5 (by decide) (fun hc2 => ?_) (fun hc2 => absurd hc2 (by omega))
    refine z_iconst d_X9_leastIdle_33 (by decide) ?_
    exact z_iret d_X9_leastIdle_34 rfl (qer er (fst_none hp)) eh
