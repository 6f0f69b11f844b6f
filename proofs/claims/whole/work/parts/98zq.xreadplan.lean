/-! ===== CONTRACTS: the reader: steps in the reference's words; passMuch, readPlanLine, readPlan ===== -/
/-- the reader behind a step that comes to x -/
def stP (F F' G : Nat → Nat → Int) (B : Nat → Int) (N : Nat) (x : pS) : Prop := rdQ F F' ∧ (x.2.1 = 0 → rdK F F' ∧ rdP F' G B N (sk B N x.1)) ∧ (x.2.1 ≠ 0 → rdE F' x.2.1 x.2.2)
theorem stP_tr {F F1 F2 G : Nat → Nat → Int} {B : Nat → Int} {N : Nat} {x y : pS} (h1 : stP F F1 G B N x) (h0 : x.2.1 = 0) (h2 : stP F1 F2 G B N y) : stP F F2 G B N y := ⟨rdQ_tr h1.1 h2.1, fun z => ⟨rdK_tr (h1.2.1 h0).1 (h2.2.1 z).1, (h2.2.1 z).2⟩, h2.2.2⟩
section StepWords
variable {h : qH} {F G : Nat → Nat → Int} {B : Nat → Int} {N : Nat} {s : pS}
theorem nu_0 {lo hi : Int} (ha : s.1 ≤ N) (hs : s.2.1 = 0) : (nuS B N lo hi s).2.1 = 0 ↔ nOk B N lo hi (sk B N s.1) := by
  have hn := nu_sk (B := B) (lo := lo) (hi := hi) ha hs
  by_cases z : nOk B N lo hi (sk B N s.1)
  · rw [(hn.1 z).1]; exact ⟨fun _ => z, fun _ => hs⟩
  · rw [hn.2 z]; exact ⟨fun y => absurd y nER_0, fun y => absurd y z⟩
theorem nu_q {lo hi : Int} (ha : s.1 ≤ N) (hs : s.2.1 = 0) : nhV B N lo hi (sk B N s.1) = qif ((nuS B N lo hi s).2.1 = 0) (nuV B N s) (-1) := by
  have hn := nu_sk (B := B) (lo := lo) (hi := hi) ha hs
  unfold nhV
  by_cases z : nOk B N lo hi (sk B N s.1)
  · rw [qif_t z, qif_t ((nu_0 ha hs).mpr z), (hn.1 z).2]
  · rw [qif_f z, qif_f (fun y => z ((nu_0 ha hs).mp y))]
theorem c_pnS (lo hi : Int) (hP : rdP F G B N (sk B N s.1)) (ha : s.1 ≤ N) (hs : s.2.1 = 0) : ∃ F', stP F F' G B N (nuS B N lo hi s) ∧ qEx M_X4_passNumber 0 [qR 160, qI lo, qI hi, qU] [] (xput h F G) (some (qI (qif ((nuS B N lo hi s).2.1 = 0) (nuV B N s) (-1)))) (xput h F' G) := by
  obtain ⟨F1, ⟨h1, h2, h3⟩, hx⟩ := c_passNum (h := h) lo hi hP
  have hn := nu_sk (B := B) (lo := lo) (hi := hi) ha hs
  rw [nu_q ha hs] at hx
  refine ⟨F1, ⟨h1, fun z => ?_, fun z => ?_⟩, hx⟩
  · have z2 := (nu_0 ha hs).mp z
    rw [(hn.1 z2).1]; exact h2 z2
  · have z2 : ¬ nOk B N lo hi (sk B N s.1) := fun y => z ((nu_0 ha hs).mpr y)
    rw [hn.2 z2]; exact h3 z2
theorem nu_bd {lo hi : Int} (hz : (nuS B N lo hi s).2.1 = 0) : lo ≤ nuV B N s ∧ nuV B N s ≤ hi := by
  have := nu_ok hz
  exact ⟨this.2.2.2.1, this.2.2.2.2.1⟩
theorem gn_00 {c k : Int} (hc : (c = 59 ∧ k = 3) ∨ (c = 44 ∧ k = 4) ∨ (c = 62 ∧ k = 5)) (hs : s.2.1 = 0) : (gnS B N c s).2.1 = 0 ↔ kd B N (sk B N s.1) = k := by
  by_cases z : kd B N (sk B N s.1) = k
  · rw [(gn_ok hc hs z).1]; exact ⟨fun _ => z, fun _ => hs⟩
  · rw [gn_no hc hs z]; exact ⟨fun y => absurd y (show (1 : Int) ≠ 0 by decide), fun y => absurd y z⟩
theorem c_gnS {c k : Int} (hc : (c = 59 ∧ k = 3) ∨ (c = 44 ∧ k = 4) ∨ (c = 62 ∧ k = 5)) (hP : rdP F G B N (sk B N s.1)) (hs : s.2.1 = 0) : ∃ F', stP F F' G B N (gnS B N c s) ∧ qEx M_X4_pass 0 [qR 160, qI k] [] (xput h F G) (some (qI (qb ((gnS B N c s).2.1 = 0)))) (xput h F' G) := by
  obtain ⟨F1, ⟨h1, h2, h3⟩, hx⟩ := c_pass (h := h) k hP (by omega)
  refine ⟨F1, ⟨h1, fun z => ?_, fun z => ?_⟩, ?_⟩
  · have z2 := (gn_00 hc hs).mp z
    rw [(gn_ok hc hs z2).1]
    refine ⟨(h2 z2).1, ?_⟩
    show rdP F1 G B N (sk B N (sk B N s.1 + 1))
    rw [← (gn_ok hc hs z2).2]; exact (h2 z2).2
  · have z2 : ¬ kd B N (sk B N s.1) = k := fun y => z ((gn_00 hc hs).mpr y)
    rw [gn_no hc hs z2]; exact h3 z2
  · rw [qb_congr (gn_00 hc hs)]; exact hx
end StepWords
set_option maxRecDepth 20000 in
set_option maxHeartbeats 4000000 in
theorem c_much {h : qH} {F G : Nat → Nat → Int} {B : Nat → Int} {N : Nat} {s : pS} (w0 : Int) (hP : rdP F G B N (sk B N s.1)) (ha : s.1 ≤ N) (hs : s.2.1 = 0) : ∃ F', (stP F F' G B N (qif (w0 = 0) (nuS B N 0 7 s) (qif (w0 = 5) (nuS B N 0 3 s) s))) ∧ qEx M_X4_passMuch 0 [qR 160, qI w0] [] (xput h F G) (some (qI (qif ((qif (w0 = 0) (nuS B N 0 7 s) (qif (w0 = 5) (nuS B N 0 3 s) s)).2.1 = 0) (qif (w0 = 0) (nuV B N s) (qif (w0 = 5) (nuV B N s) 0)) (-1)))) (xput h F' G) := by
  refine x_inF (fun Q hQ => ?_)
  refine qy (fun _ _ k9 => z_iload_n d_X4_passMuch_0 rfl rfl k9) ?_
  refine qy2 (fun _ _ => z_if_ne 12 d_X4_passMuch_1 (by decide)) (fun q1 => ?_) (fun q1 => ?_)
  · refine qy (fun _ _ k9 => z_iload_n d_X4_passMuch_12 rfl rfl k9) ?_
    refine qy (fun _ _ k9 => z_iconst d_X4_passMuch_13 (by decide) k9) ?_
    refine qy2 (fun _ _ => z_icmp_ne 26 d_X4_passMuch_14 (by decide)) (fun q14 => ?_) (fun q14 => ?_)
    · refine qy (fun _ _ k9 => z_iconst d_X4_passMuch_26 (by decide) k9) ?_
      exact y_ret (hQ F (by rw [qif_f q1, qif_f q14]; exact ⟨rdQ_rf F, fun _ => ⟨rdK_rf F, hP⟩, fun z => absurd hs z⟩)) (z_iret d_X4_passMuch_27 rfl (qsi (by rw [qif_f q1, qif_f q1, qif_f q14, qif_f q14, qif_t hs])) rfl)
    · have q14 := Classical.not_not.mp q14
      refine qy (fun _ _ k9 => z_aload_n d_X4_passMuch_17 rfl rfl k9) ?_
      refine qy (fun _ _ k9 => z_iconst d_X4_passMuch_18 (by decide) k9) ?_
      refine qy (fun _ _ k9 => z_iconst d_X4_passMuch_19 (by decide) k9) ?_
      obtain ⟨F1, hv1, hx1⟩ := c_pnS (h := h) (F := F) (G := G) 0 3 hP ha hs
      refine qy (fun _ _ k9 => z_cv (M1 := M_X4_passNumber) d_X4_passMuch_20 lv_X4_150 k_X4_passNumber [qI 0, qI 3] rfl rfl (xput_ob (c := (F 160)) xi_160 rfl (xsh_4 xo_160)) ⟨_, _, rfl⟩ (Nat.le_of_ble_eq_true rfl) (by decide) (by decide) (Nat.le_of_ble_eq_true rfl) hx1 k9) ?_
      refine qy (fun _ _ k9 => z_goto 27 d_X4_passMuch_23 (by decide) k9) ?_
      exact y_ret (hQ F1 (by rw [qif_f q1, qif_t q14]; exact hv1)) (z_iret d_X4_passMuch_27 rfl (qsi (by rw [qif_f q1, qif_f q1, qif_t q14, qif_t q14])) rfl)
  · have q1 := Classical.not_not.mp q1
    refine qy (fun _ _ k9 => z_aload_n d_X4_passMuch_4 rfl rfl k9) ?_
    refine qy (fun _ _ k9 => z_iconst d_X4_passMuch_5 (by decide) k9) ?_
    refine qy (fun _ _ k9 => z_bipush d_X4_passMuch_6 (by decide) k9) ?_
    obtain ⟨F2, hv2, hx2⟩ := c_pnS (h := h) (F := F) (G := G) 0 7 hP ha hs
    refine qy (fun _ _ k9 => z_cv (M1 := M_X4_passNumber) d_X4_passMuch_8 lv_X4_150 k_X4_passNumber [qI 0, qI 7] rfl rfl (xput_ob (c := (F 160)) xi_160 rfl (xsh_4 xo_160)) ⟨_, _, rfl⟩ (Nat.le_of_ble_eq_true rfl) (by decide) (by decide) (Nat.le_of_ble_eq_true rfl) hx2 k9) ?_
    exact y_ret (hQ F2 (by rw [qif_t q1]; exact hv2)) (z_iret d_X4_passMuch_11 rfl (qsi (by rw [qif_t q1, qif_t q1])) rfl)
set_option maxRecDepth 20000 in
set_option maxHeartbeats 4000000 in
theorem c_plFull {h : qH} {F G : Nat → Nat → Int} {B : Nat → Int} {N L : Nat} {s : pS} (hP : rdP F G B N s.1) (ha : s.1 ≤ N) (hsk : sk B N s.1 = s.1) (hs : s.2.1 = 0) (hL : F 170 2 = (L : Int)) (hL2 : L ≤ 16) (hk : kd B N s.1 = 10) (hfu : L = 16) : ∃ F', (rdQ F F' ∧ rdE F' 3 (s.1 : Int)) ∧ qEx M_X4_readPlanLine 0 [qR 160, qU, qU, qU, qU] [] (xput h F G) (some (qI 0)) (xput h F' G) := by
  refine x_inF (fun Q hQ => ?_)
  obtain ⟨t, c, ⟨htc, htp⟩, hT, h5, h6⟩ := id hP
  refine qy (fun _ _ k9 => z_aload_n d_X4_readPlanLine_0 rfl rfl k9) ?_
  refine qy (fun _ _ k9 => z_getf (v := qI ((F 160) 6)) d_X4_readPlanLine_1 fl_X4_31 (xput_ob (c := (F 160)) xi_160 rfl (xsh_4 xo_160)) rfl k9) ?_
  refine qy (fun _ _ k9 => z_eq rfl (qc (qi h6) rfl) rfl k9) ?_
  refine qy (fun _ _ k9 => z_bipush d_X4_readPlanLine_4 (by decide) k9) ?_
  refine qy2 (fun _ _ => z_icmp_ne 25 d_X4_readPlanLine_6 (by decide)) (fun hc1 => absurd hc1 (by omega)) (fun hc1 => ?_)
  refine qy (fun _ _ k9 => z_aload_n d_X4_readPlanLine_9 rfl rfl k9) ?_
  refine qy (fun _ _ k9 => z_getf (v := qR 170) d_X4_readPlanLine_10 fl_X4_52 (xput_ob (c := (F 160)) xi_160 rfl (xsh_4 xo_160)) rfl k9) ?_
  refine qy (fun _ _ k9 => z_cv (M1 := M_X6_isFull) d_X4_readPlanLine_13 lv_X4_147 k_X6_isFull [] rfl rfl (xput_ob (c := (F 170)) xi_170 rfl (xsh_6 xo_170)) ⟨_, _, rfl⟩ (Nat.le_of_ble_eq_true rfl) (by decide) (by decide) (Nat.le_of_ble_eq_true rfl) (by have e9 := c_rwFull (h := h) (F := F) (G := G) (q := 170) (L := L) (by decide) xo_170 hL (by rw [show xM 170 = 16 by decide]; exact hL2); rw [show xM 170 = 16 by decide] at e9; exact e9) k9) ?_
  refine qy2n (fun _ _ => z_ifeqB 25 d_X4_readPlanLine_16 (by decide)) (fun hc2 => absurd hc2 (by exact fun z => z hfu)) (fun hc2 => ?_)
  refine qy (fun _ _ k9 => z_aload_n d_X4_readPlanLine_19 rfl rfl k9) ?_
  refine qy (fun _ _ k9 => z_iconst d_X4_readPlanLine_20 (by decide) k9) ?_
  obtain ⟨F1, ⟨hf1, he1, hp1⟩, hx1⟩ := c_refuse (h := h) (F := F) (G := G) 3 hP
  refine qy (fun _ _ k9 => z_cv (M1 := M_X4_refuse) d_X4_readPlanLine_21 lv_X4_111 k_X4_refuse [qI 3] rfl rfl (xput_ob (c := (F 160)) xi_160 rfl (xsh_4 xo_160)) ⟨_, _, rfl⟩ (Nat.le_of_ble_eq_true rfl) (by decide) (by decide) (Nat.le_of_ble_eq_true rfl) hx1 k9) ?_
  exact y_ret (hQ F1 (⟨hf1, he1⟩)) (z_zret d_X4_readPlanLine_24 rfl (by first | exact qb_01 _ | decide | omega) rfl rfl)
set_option maxRecDepth 20000 in
set_option maxHeartbeats 4000000 in
theorem c_plNot {h : qH} {F G : Nat → Nat → Int} {B : Nat → Int} {N L : Nat} {s : pS} (hP : rdP F G B N s.1) (ha : s.1 ≤ N) (hsk : sk B N s.1 = s.1) (hs : s.2.1 = 0) (hL : F 170 2 = (L : Int)) (hL2 : L ≤ 16) (hk : ¬ kd B N s.1 = 10) : ∃ F', (rdQ F F' ∧ rdE F' 1 (s.1 : Int)) ∧ qEx M_X4_readPlanLine 0 [qR 160, qU, qU, qU, qU] [] (xput h F G) (some (qI 0)) (xput h F' G) := by
  refine x_inF (fun Q hQ => ?_)
  obtain ⟨t, c, ⟨htc, htp⟩, hT, h5, h6⟩ := id hP
  refine qy (fun _ _ k9 => z_aload_n d_X4_readPlanLine_0 rfl rfl k9) ?_
  refine qy (fun _ _ k9 => z_getf (v := qI ((F 160) 6)) d_X4_readPlanLine_1 fl_X4_31 (xput_ob (c := (F 160)) xi_160 rfl (xsh_4 xo_160)) rfl k9) ?_
  refine qy (fun _ _ k9 => z_eq rfl (qc (qi h6) rfl) rfl k9) ?_
  refine qy (fun _ _ k9 => z_bipush d_X4_readPlanLine_4 (by decide) k9) ?_
  refine qy2 (fun _ _ => z_icmp_ne 25 d_X4_readPlanLine_6 (by decide)) (fun hc1 => ?_) (fun hc1 => absurd hc1 (by exact not_not_intro hk))
  refine qy (fun _ _ k9 => z_aload_n d_X4_readPlanLine_25 rfl rfl k9) ?_
  refine qy (fun _ _ k9 => z_bipush d_X4_readPlanLine_26 (by decide) k9) ?_
  obtain ⟨F1, ⟨hf1, hy1, hn1⟩, hx1⟩ := c_pass (h := h) (F := F) (G := G) 10 hP (by decide)
  refine qy (fun _ _ k9 => z_cv (M1 := M_X4_pass) d_X4_readPlanLine_28 lv_X4_134 k_X4_pass [qI 10] rfl rfl (xput_ob (c := (F 160)) xi_160 rfl (xsh_4 xo_160)) ⟨_, _, rfl⟩ (Nat.le_of_ble_eq_true rfl) (by decide) (by decide) (Nat.le_of_ble_eq_true rfl) hx1 k9) ?_
  refine qy2 (fun _ _ => z_ifneB 36 d_X4_readPlanLine_31 (by decide)) (fun hc2 => absurd hc2 (by exact hk)) (fun hc2 => ?_)
  refine qy (fun _ _ k9 => z_iconst d_X4_readPlanLine_34 (by decide) k9) ?_
  exact y_ret (hQ F1 (⟨hf1, hn1 hk⟩)) (z_zret d_X4_readPlanLine_35 rfl (by first | exact qb_01 _ | decide | omega) rfl rfl)
set_option maxRecDepth 20000 in
set_option maxHeartbeats 4000000 in
theorem c_trFull {h : qH} {F G : Nat → Nat → Int} {B : Nat → Int} {N L : Nat} {s : pS} (hP : rdP F G B N s.1) (ha : s.1 ≤ N) (hsk : sk B N s.1 = s.1) (hs : s.2.1 = 0) (hL : F 170 2 = (L : Int)) (hL2 : L ≤ 16) (hk : kd B N s.1 = 17) (hfu : L = 16) : ∃ F', (rdQ F F' ∧ rdE F' 3 (s.1 : Int)) ∧ qEx M_X4_readTreeLine 0 [qR 160, qU, qU] [] (xput h F G) (some (qI 0)) (xput h F' G) := by
  refine x_inF (fun Q hQ => ?_)
  obtain ⟨t, c, ⟨htc, htp⟩, hT, h5, h6⟩ := id hP
  refine qy (fun _ _ k9 => z_aload_n d_X4_readTreeLine_0 rfl rfl k9) ?_
  refine qy (fun _ _ k9 => z_getf (v := qI ((F 160) 6)) d_X4_readTreeLine_1 fl_X4_31 (xput_ob (c := (F 160)) xi_160 rfl (xsh_4 xo_160)) rfl k9) ?_
  refine qy (fun _ _ k9 => z_eq rfl (qc (qi h6) rfl) rfl k9) ?_
  refine qy (fun _ _ k9 => z_bipush d_X4_readTreeLine_4 (by decide) k9) ?_
  refine qy2 (fun _ _ => z_icmp_ne 25 d_X4_readTreeLine_6 (by decide)) (fun hc1 => absurd hc1 (by omega)) (fun hc1 => ?_)
  refine qy (fun _ _ k9 => z_aload_n d_X4_readTreeLine_9 rfl rfl k9) ?_
  refine qy (fun _ _ k9 => z_getf (v := qR 170) d_X4_readTreeLine_10 fl_X4_52 (xput_ob (c := (F 160)) xi_160 rfl (xsh_4 xo_160)) rfl k9) ?_
  refine qy (fun _ _ k9 => z_cv (M1 := M_X6_isFull) d_X4_readTreeLine_13 lv_X4_147 k_X6_isFull [] rfl rfl (xput_ob (c := (F 170)) xi_170 rfl (xsh_6 xo_170)) ⟨_, _, rfl⟩ (Nat.le_of_ble_eq_true rfl) (by decide) (by decide) (Nat.le_of_ble_eq_true rfl) (by have e9 := c_rwFull (h := h) (F := F) (G := G) (q := 170) (L := L) (by decide) xo_170 hL (by rw [show xM 170 = 16 by decide]; exact hL2); rw [show xM 170 = 16 by decide] at e9; exact e9) k9) ?_
  refine qy2n (fun _ _ => z_ifeqB 25 d_X4_readTreeLine_16 (by decide)) (fun hc2 => absurd hc2 (by exact fun z => z hfu)) (fun hc2 => ?_)
  refine qy (fun _ _ k9 => z_aload_n d_X4_readTreeLine_19 rfl rfl k9) ?_
  refine qy (fun _ _ k9 => z_iconst d_X4_readTreeLine_20 (by decide) k9) ?_
  obtain ⟨F1, ⟨hf1, he1, hp1⟩, hx1⟩ := c_refuse (h := h) (F := F) (G := G) 3 hP
  refine qy (fun _ _ k9 => z_cv (M1 := M_X4_refuse) d_X4_readTreeLine_21 lv_X4_111 k_X4_refuse [qI 3] rfl rfl (xput_ob (c := (F 160)) xi_160 rfl (xsh_4 xo_160)) ⟨_, _, rfl⟩ (Nat.le_of_ble_eq_true rfl) (by decide) (by decide) (Nat.le_of_ble_eq_true rfl) hx1 k9) ?_
  exact y_ret (hQ F1 (⟨hf1, he1⟩)) (z_zret d_X4_readTreeLine_24 rfl (by first | exact qb_01 _ | decide | omega) rfl rfl)
set_option maxRecDepth 20000 in
set_option maxHeartbeats 4000000 in
theorem c_trNot {h : qH} {F G : Nat → Nat → Int} {B : Nat → Int} {N L : Nat} {s : pS} (hP : rdP F G B N s.1) (ha : s.1 ≤ N) (hsk : sk B N s.1 = s.1) (hs : s.2.1 = 0) (hL : F 170 2 = (L : Int)) (hL2 : L ≤ 16) (hk : ¬ kd B N s.1 = 17) : ∃ F', (rdQ F F' ∧ rdE F' 1 (s.1 : Int)) ∧ qEx M_X4_readTreeLine 0 [qR 160, qU, qU] [] (xput h F G) (some (qI 0)) (xput h F' G) := by
  refine x_inF (fun Q hQ => ?_)
  obtain ⟨t, c, ⟨htc, htp⟩, hT, h5, h6⟩ := id hP
  refine qy (fun _ _ k9 => z_aload_n d_X4_readTreeLine_0 rfl rfl k9) ?_
  refine qy (fun _ _ k9 => z_getf (v := qI ((F 160) 6)) d_X4_readTreeLine_1 fl_X4_31 (xput_ob (c := (F 160)) xi_160 rfl (xsh_4 xo_160)) rfl k9) ?_
  refine qy (fun _ _ k9 => z_eq rfl (qc (qi h6) rfl) rfl k9) ?_
  refine qy (fun _ _ k9 => z_bipush d_X4_readTreeLine_4 (by decide) k9) ?_
  refine qy2 (fun _ _ => z_icmp_ne 25 d_X4_readTreeLine_6 (by decide)) (fun hc1 => ?_) (fun hc1 => absurd hc1 (by exact not_not_intro hk))
  refine qy (fun _ _ k9 => z_aload_n d_X4_readTreeLine_25 rfl rfl k9) ?_
  refine qy (fun _ _ k9 => z_bipush d_X4_readTreeLine_26 (by decide) k9) ?_
  obtain ⟨F1, ⟨hf1, hy1, hn1⟩, hx1⟩ := c_pass (h := h) (F := F) (G := G) 17 hP (by decide)
  refine qy (fun _ _ k9 => z_cv (M1 := M_X4_pass) d_X4_readTreeLine_28 lv_X4_134 k_X4_pass [qI 17] rfl rfl (xput_ob (c := (F 160)) xi_160 rfl (xsh_4 xo_160)) ⟨_, _, rfl⟩ (Nat.le_of_ble_eq_true rfl) (by decide) (by decide) (Nat.le_of_ble_eq_true rfl) hx1 k9) ?_
  refine qy2 (fun _ _ => z_ifneB 36 d_X4_readTreeLine_31 (by decide)) (fun hc2 => absurd hc2 (by exact hk)) (fun hc2 => ?_)
  refine qy (fun _ _ k9 => z_iconst d_X4_readTreeLine_34 (by decide) k9) ?_
  exact y_ret (hQ F1 (⟨hf1, hn1 hk⟩)) (z_zret d_X4_readTreeLine_35 rfl (by first | exact qb_01 _ | decide | omega) rfl rfl)
section PlanWords
variable {B : Nat → Int} {N : Nat} {s : pS}
theorem ac_ok (hs : s.2.1 = 0) (hk : 11 ≤ kd B N (sk B N s.1) ∧ kd B N (sk B N s.1) ≤ 16) : acV B N s = kd B N (sk B N s.1) - 11 ∧ acS B N s = (en B N (sk B N s.1), s.2) := by
  unfold acV acS
  rw [qif_t ⟨hs, hk⟩, qif_f (fun z => z hs), qif_t hk]
  exact ⟨rfl, rfl⟩
theorem pl_f1 (h : (pl1 B N s).2.1 ≠ 0) : plS B N s = pl1 B N s := by
  have e1 : plW B N s = -1 := by unfold plW acV; rw [qif_f (fun z => h z.1)]
  have e2 : acS B N (pl1 B N s) = pl1 B N s := by unfold acS; rw [qif_t h]
  have e3 : pl3 B N s = pl1 B N s := by unfold pl3; rw [qif_t e1, e2]; unfold wrS; rw [if_neg h]
  have e4 : pl4 B N s = pl1 B N s := by unfold pl4; rw [e3, nuS_f h]
  have e5 : pl5 B N s = pl1 B N s := by unfold pl5; rw [e1, qif_f (by decide), qif_f (by decide), e4]
  unfold plS
  rw [e5, gnS_f h]
theorem pl_n (h : (pl1 B N s).2.1 = 0) (hk : ¬ (11 ≤ kd B N (sk B N (pl1 B N s).1) ∧ kd B N (sk B N (pl1 B N s).1) ≤ 16)) : (plS B N s).2 = (1, ((sk B N (pl1 B N s).1 : Nat) : Int)) := by
  have e1 : plW B N s = -1 := acV_n hk
  have e2 : acS B N (pl1 B N s) = (sk B N (pl1 B N s).1, (pl1 B N s).2) := by unfold acS; rw [qif_f (fun z => z h), qif_f hk]
  have e3 : pl3 B N s = (sk B N (pl1 B N s).1, 1, ((sk B N (pl1 B N s).1 : Nat) : Int)) := by unfold pl3; rw [qif_t e1, e2]; unfold wrS; rw [if_pos h]
  have hf : (pl3 B N s).2.1 ≠ 0 := by rw [e3]; exact (by decide : (1 : Int) ≠ 0)
  have e4 : pl4 B N s = pl3 B N s := by unfold pl4; rw [nuS_f hf]
  have e5 : pl5 B N s = pl3 B N s := by unfold pl5; rw [e1, qif_f (by decide), qif_f (by decide), e4]
  unfold plS
  rw [e5, gnS_f hf, e3]
theorem pl_3 (h : (pl1 B N s).2.1 = 0) (hk : 11 ≤ kd B N (sk B N (pl1 B N s).1) ∧ kd B N (sk B N (pl1 B N s).1) ≤ 16) : plW B N s = kd B N (sk B N (pl1 B N s).1) - 11 ∧ pl3 B N s = (en B N (sk B N (pl1 B N s).1), (pl1 B N s).2) := by
  have e := ac_ok h hk
  refine ⟨e.1, ?_⟩
  unfold pl3
  rw [qif_f (show ¬ plW B N s = -1 by unfold plW; rw [e.1]; omega), e.2]
theorem pl_f4 (h : (pl4 B N s).2.1 ≠ 0) : plS B N s = pl4 B N s := by
  have e5 : pl5 B N s = pl4 B N s := by
    unfold pl5
    by_cases a : plW B N s = 0
    · rw [qif_t a, nuS_f h]
    · rw [qif_f a]
      by_cases b : plW B N s = 5
      · rw [qif_t b, nuS_f h]
      · rw [qif_f b]
  unfold plS
  rw [e5, gnS_f h]
end PlanWords
set_option maxRecDepth 20000 in
set_option maxHeartbeats 4000000 in
theorem c_plChain {h : qH} {F G : Nat → Nat → Int} {B : Nat → Int} {N L : Nat} {s : pS} (hP : rdP F G B N s.1) (ha : s.1 ≤ N) (hsk : sk B N s.1 = s.1) (hs : s.2.1 = 0) (hL : F 170 2 = (L : Int)) (hL2 : L ≤ 16) (hk : kd B N s.1 = 10) (hlt : L < 16) : ∃ F' G', ((∀ a, a ≠ 160 → a ≠ 170 → F' a = F a) ∧ (∀ k, k < 5 ∨ 8 < k → F' 160 k = F 160 k) ∧ (∀ a, a ≠ 171 → G' a = G a) ∧ ((plS B N s).2.1 = 0 → rdK F F' ∧ rdP F' G' B N (sk B N (plS B N s).1) ∧ F' 170 2 = (L : Int) + 1 ∧ G' 171 = (row4 (G 171) (4 * L) (nuV B N (tkS B N 10 s)) (plW B N s) (nuV B N (pl3 B N s)) (plM B N s))) ∧ ((plS B N s).2.1 ≠ 0 → rdE F' (plS B N s).2.1 (plS B N s).2.2 ∧ F' 170 2 = F 170 2)) ∧ qEx M_X4_readPlanLine 0 [qR 160, qU, qU, qU, qU] [] (xput h F G) (some (qI (qb ((plS B N s).2.1 = 0)))) (xput h F' G') := by
  refine x_in (fun Q hQ => ?_)
  obtain ⟨t, c, ⟨htc, htp⟩, hT, h5, h6⟩ := id hP
  refine qy (fun _ _ k9 => z_aload_n d_X4_readPlanLine_0 rfl rfl k9) ?_
  refine qy (fun _ _ k9 => z_getf (v := qI ((F 160) 6)) d_X4_readPlanLine_1 fl_X4_31 (xput_ob (c := (F 160)) xi_160 rfl (xsh_4 xo_160)) rfl k9) ?_
  refine qy (fun _ _ k9 => z_eq rfl (qc (qi h6) rfl) rfl k9) ?_
  refine qy (fun _ _ k9 => z_bipush d_X4_readPlanLine_4 (by decide) k9) ?_
  refine qy2 (fun _ _ => z_icmp_ne 25 d_X4_readPlanLine_6 (by decide)) (fun hc1 => absurd hc1 (by omega)) (fun hc1 => ?_)
  refine qy (fun _ _ k9 => z_aload_n d_X4_readPlanLine_9 rfl rfl k9) ?_
  refine qy (fun _ _ k9 => z_getf (v := qR 170) d_X4_readPlanLine_10 fl_X4_52 (xput_ob (c := (F 160)) xi_160 rfl (xsh_4 xo_160)) rfl k9) ?_
  refine qy (fun _ _ k9 => z_cv (M1 := M_X6_isFull) d_X4_readPlanLine_13 lv_X4_147 k_X6_isFull [] rfl rfl (xput_ob (c := (F 170)) xi_170 rfl (xsh_6 xo_170)) ⟨_, _, rfl⟩ (Nat.le_of_ble_eq_true rfl) (by decide) (by decide) (Nat.le_of_ble_eq_true rfl) (by have e9 := c_rwFull (h := h) (F := F) (G := G) (q := 170) (L := L) (by decide) xo_170 hL (by rw [show xM 170 = 16 by decide]; exact hL2); rw [show xM 170 = 16 by decide] at e9; exact e9) k9) ?_
  refine qy2n (fun _ _ => z_ifeqB 25 d_X4_readPlanLine_16 (by decide)) (fun hc2 => ?_) (fun hc2 => absurd hc2 (by omega))
  refine qy (fun _ _ k9 => z_aload_n d_X4_readPlanLine_25 rfl rfl k9) ?_
  refine qy (fun _ _ k9 => z_bipush d_X4_readPlanLine_26 (by decide) k9) ?_
  obtain ⟨F1, ⟨hf1, hy1, hn1⟩, hx1⟩ := c_pass (h := h) (F := F) (G := G) 10 hP (by decide)
  refine qy (fun _ _ k9 => z_cv (M1 := M_X4_pass) d_X4_readPlanLine_28 lv_X4_134 k_X4_pass [qI 10] rfl rfl (xput_ob (c := (F 160)) xi_160 rfl (xsh_4 xo_160)) ⟨_, _, rfl⟩ (Nat.le_of_ble_eq_true rfl) (by decide) (by decide) (Nat.le_of_ble_eq_true rfl) hx1 k9) ?_
  refine qy2 (fun _ _ => z_ifneB 36 d_X4_readPlanLine_31 (by decide)) (fun hc3 => ?_) (fun hc3 => absurd hc3 (by exact not_not_intro hk))
  have e0 : (tkS B N 10 s) = (en B N s.1, s.2) := by rw [tkS_y hs (by rw [hsk]; exact hk), hsk]
  have hs0 : (tkS B N 10 s).2.1 = 0 := by rw [tk_2]; exact hs
  have hP0 : rdP F1 G B N (sk B N (tkS B N 10 s).1) := by rw [e0]; exact (hy1 hk).2
  have hst1 : stP F F1 G B N (tkS B N 10 s) := ⟨hf1, fun _ => ⟨(hy1 hk).1, hP0⟩, fun z => absurd hs0 z⟩
  refine qy (fun _ _ k9 => z_aload_n d_X4_readPlanLine_36 rfl rfl k9) ?_
  refine qy (fun _ _ k9 => z_iconst d_X4_readPlanLine_37 (by decide) k9) ?_
  refine qy (fun _ _ k9 => z_sipush d_X4_readPlanLine_38 (by decide) k9) ?_
  obtain ⟨F2, hv2, hx2⟩ := c_pnS (h := h) (F := F1) (G := G) (s := (tkS B N 10 s)) 0 999 hP0 (tkS_le (by decide) ha) hs0
  refine qy (fun _ _ k9 => z_cv (M1 := M_X4_passNumber) d_X4_readPlanLine_41 lv_X4_150 k_X4_passNumber [qI 0, qI 999] rfl rfl (xput_ob (c := (F1 160)) xi_160 rfl (xsh_4 xo_160)) ⟨_, _, rfl⟩ (Nat.le_of_ble_eq_true rfl) (by decide) (by decide) (Nat.le_of_ble_eq_true rfl) hx2 k9) ?_
  refine qy (fun _ _ k9 => z_istore_n (ls' := [qR 160, qI (qif ((pl1 B N s).2.1 = 0) (nuV B N (tkS B N 10 s)) (-1)), qU, qU, qU]) d_X4_readPlanLine_44 rfl (by decide) rfl k9) ?_
  refine qy (fun _ _ k9 => z_iload_n d_X4_readPlanLine_45 rfl rfl k9) ?_
  refine qy (fun _ _ k9 => z_iconst d_X4_readPlanLine_46 (by decide) k9) ?_
  refine qy2 (fun _ _ => z_icmp_ne 52 d_X4_readPlanLine_47 (by decide)) (fun q47 => ?_) (fun q47 => ?_)
  · have h1 : (pl1 B N s).2.1 = 0 := Classical.byContradiction (fun z => q47 (qif_f z))
    have hst2 := stP_tr hst1 hs0 hv2
    obtain ⟨_, _, _, _, _, hk26⟩ := (show rdP F2 G B N (sk B N (pl1 B N s).1) from (hv2.2.1 h1).2)
    refine qy (fun _ _ k9 => z_eq (qc rfl (qc (qi (show (qif ((pl1 B N s).2.1 = 0) (nuV B N (tkS B N 10 s)) (-1)) = (nuV B N (tkS B N 10 s)) from qif_t h1)) rfl)) rfl rfl k9) ?_
    refine qy (fun _ _ k9 => z_aload_n d_X4_readPlanLine_52 rfl rfl k9) ?_
    refine qy (fun _ _ k9 => z_getf (v := qI ((F2 160) 6)) d_X4_readPlanLine_53 fl_X4_31 (xput_ob (c := (F2 160)) xi_160 rfl (xsh_4 xo_160)) rfl k9) ?_
    refine qy (fun _ _ k9 => z_eq rfl (qc (qi hk26) rfl) rfl k9) ?_
    refine qy (fun _ _ k9 => z_bipush d_X4_readPlanLine_56 (by decide) k9) ?_
    refine qy (fun _ _ k9 => z_bipush d_X4_readPlanLine_58 (by decide) k9) ?_
    refine qy (fun _ _ k9 => z_cs (M1 := M_X11_isWithin) d_X4_readPlanLine_60 ls_X4_59 k_X11_isWithin [qI (kd B N (sk B N (pl1 B N s).1)), qI 11, qI 16] rfl rfl (Nat.le_of_ble_eq_true rfl) (by decide) (by decide) (Nat.le_of_ble_eq_true rfl) (c_isWithin (kd B N (sk B N (pl1 B N s).1)) 11 16) k9) ?_
    refine qy2 (fun _ _ => z_ifneB 72 d_X4_readPlanLine_63 (by decide)) (fun q63 => ?_) (fun q63 => ?_)
    · refine qy (fun _ _ k9 => z_aload_n d_X4_readPlanLine_72 rfl rfl k9) ?_
      refine qy (fun _ _ k9 => z_getf (v := qI ((F2 160) 6)) d_X4_readPlanLine_73 fl_X4_31 (xput_ob (c := (F2 160)) xi_160 rfl (xsh_4 xo_160)) rfl k9) ?_
      refine qy (fun _ _ k9 => z_eq rfl (qc (qi hk26) rfl) rfl k9) ?_
      refine qy (fun _ _ k9 => z_bipush d_X4_readPlanLine_76 (by decide) k9) ?_
      refine qy (fun _ _ k9 => z_isub d_X4_readPlanLine_78 (by omega) k9) ?_
      refine qy (fun _ _ k9 => z_istore_n (ls' := [qR 160, qI (nuV B N (tkS B N 10 s)), qI ((kd B N (sk B N (pl1 B N s).1)) - 11), qU, qU]) d_X4_readPlanLine_79 rfl (by decide) rfl k9) ?_
      have h3 := pl_3 h1 q63
      refine qy (fun _ _ k9 => z_eq (qc rfl (qc rfl (qc (qi (show ((kd B N (sk B N (pl1 B N s).1)) - 11) = (plW B N s) from h3.1.symm)) rfl))) rfl rfl k9) ?_
      refine qy (fun _ _ k9 => z_aload_n d_X4_readPlanLine_80 rfl rfl k9) ?_
      obtain ⟨F3, ⟨hf3, hk3, hp3⟩, hx3⟩ := c_adv (h := h) (F := F2) (G := G) (show rdP F2 G B N (sk B N (pl1 B N s).1) from (hv2.2.1 h1).2) (by omega)
      refine qy (fun _ _ k9 => z_cv0 (M1 := M_X4_advance) d_X4_readPlanLine_81 lv_X4_114 k_X4_advance [] rfl rfl (xput_ob (c := (F2 160)) xi_160 rfl (xsh_4 xo_160)) ⟨_, _, rfl⟩ (Nat.le_of_ble_eq_true rfl) (by decide) (by decide) (Nat.le_of_ble_eq_true rfl) hx3 k9) ?_
      have hs3 : (pl3 B N s).2.1 = 0 := by rw [h3.2]; exact h1
      have hP3 : rdP F3 G B N (sk B N (pl3 B N s).1) := by rw [h3.2]; exact hp3
      have hst3 : stP F F3 G B N (pl3 B N s) := ⟨rdQ_tr hst2.1 hf3, fun _ => ⟨rdK_tr (hst2.2.1 h1).1 hk3, hP3⟩, fun z => absurd hs3 z⟩
      have pl4_le9 : (pl4 B N s).1 ≤ N := nuS_le (pl3_le ha)
      refine qy (fun _ _ k9 => z_aload_n d_X4_readPlanLine_84 rfl rfl k9) ?_
      refine qy (fun _ _ k9 => z_iconst d_X4_readPlanLine_85 (by decide) k9) ?_
      refine qy (fun _ _ k9 => z_bipush d_X4_readPlanLine_86 (by decide) k9) ?_
      obtain ⟨F4, hv4, hx4⟩ := c_pnS (h := h) (F := F3) (G := G) (s := (pl3 B N s)) 0 31 hP3 (pl3_le ha) hs3
      refine qy (fun _ _ k9 => z_cv (M1 := M_X4_passNumber) d_X4_readPlanLine_88 lv_X4_150 k_X4_passNumber [qI 0, qI 31] rfl rfl (xput_ob (c := (F3 160)) xi_160 rfl (xsh_4 xo_160)) ⟨_, _, rfl⟩ (Nat.le_of_ble_eq_true rfl) (by decide) (by decide) (Nat.le_of_ble_eq_true rfl) hx4 k9) ?_
      refine qy (fun _ _ k9 => z_istore_n (ls' := [qR 160, qI (nuV B N (tkS B N 10 s)), qI (plW B N s), qI (qif ((pl4 B N s).2.1 = 0) (nuV B N (pl3 B N s)) (-1)), qU]) d_X4_readPlanLine_91 rfl (by decide) rfl k9) ?_
      refine qy (fun _ _ k9 => z_iload_n d_X4_readPlanLine_92 rfl rfl k9) ?_
      refine qy (fun _ _ k9 => z_iconst d_X4_readPlanLine_93 (by decide) k9) ?_
      refine qy2 (fun _ _ => z_icmp_ne 101 d_X4_readPlanLine_94 (by decide)) (fun q94 => ?_) (fun q94 => ?_)
      · have h4 : (pl4 B N s).2.1 = 0 := Classical.byContradiction (fun z => q94 (qif_f z))
        have hst4 := stP_tr hst3 hs3 hv4
        refine qy (fun _ _ k9 => z_eq (qc rfl (qc rfl (qc rfl (qc (qi (show (qif ((pl4 B N s).2.1 = 0) (nuV B N (pl3 B N s)) (-1)) = (nuV B N (pl3 B N s)) from qif_t h4)) rfl)))) rfl rfl k9) ?_
        refine qy (fun _ _ k9 => z_aload_n d_X4_readPlanLine_101 rfl rfl k9) ?_
        refine qy (fun _ _ k9 => z_iload_n d_X4_readPlanLine_102 rfl rfl k9) ?_
        obtain ⟨F5, hv5, hx5⟩ := c_much (h := h) (F := F4) (G := G) (s := (pl4 B N s)) (plW B N s) (hv4.2.1 h4).2 pl4_le9 h4
        refine qy (fun _ _ k9 => z_cv (M1 := M_X4_passMuch) d_X4_readPlanLine_103 lv_X4_153 k_X4_passMuch [qI (plW B N s)] rfl rfl (xput_ob (c := (F4 160)) xi_160 rfl (xsh_4 xo_160)) ⟨_, _, rfl⟩ (Nat.le_of_ble_eq_true rfl) (by decide) (by decide) (Nat.le_of_ble_eq_true rfl) hx5 k9) ?_
        refine qy (fun _ _ k9 => z_istore (ls' := [qR 160, qI (nuV B N (tkS B N 10 s)), qI (plW B N s), qI (nuV B N (pl3 B N s)), qI (qif ((pl5 B N s).2.1 = 0) (plM B N s) (-1))]) d_X4_readPlanLine_106 (by decide) rfl k9) ?_
        refine qy (fun _ _ k9 => z_iload d_X4_readPlanLine_108 rfl k9) ?_
        refine qy (fun _ _ k9 => z_iconst d_X4_readPlanLine_110 (by decide) k9) ?_
        refine qy2 (fun _ _ => z_icmp_eq 122 d_X4_readPlanLine_111 (by decide)) (fun q111 => ?_) (fun q111 => ?_)
        · have g5 : (pl5 B N s).2.1 ≠ 0 := fun z => by
            rw [qif_t z] at q111
            unfold plM at q111
            by_cases a : plW B N s = 0
            · rw [qif_t a] at q111; have := (nu_ok h4).2.2.2.1; have z2 : (nuS B N 0 7 (pl4 B N s)).2.1 = 0 := by unfold pl5 at z; rw [qif_t a] at z; exact z
              have := (nu_bd z2).1; omega
            · rw [qif_f a] at q111
              by_cases b : plW B N s = 5
              · rw [qif_t b] at q111; have z2 : (nuS B N 0 3 (pl4 B N s)).2.1 = 0 := by unfold pl5 at z; rw [qif_f a, qif_t b] at z; exact z
                have := (nu_bd z2).1; omega
              · rw [qif_f b] at q111; omega
          refine qy (fun _ _ k9 => z_iconst d_X4_readPlanLine_122 (by decide) k9) ?_
          exact y_ret (hQ F5 G (⟨fun a h1 _ => (stP_tr hst4 h4 hv5).1.1 a h1, (stP_tr hst4 h4 hv5).1.2, fun _ _ => rfl, fun z => absurd z (by unfold plS; rw [gnS_f g5]; exact g5), fun _ => ⟨(by unfold plS; rw [gnS_f g5]; exact hv5.2.2 g5), congrFun ((stP_tr hst4 h4 hv5).1.1 170 (by decide)) 2⟩⟩)) (z_zret d_X4_readPlanLine_123 rfl (by first | exact qb_01 _ | decide | omega) (qsi (qb_f (by unfold plS; rw [gnS_f g5]; exact g5))) rfl)
        · have h5 : (pl5 B N s).2.1 = 0 := Classical.byContradiction (fun z => q111 (qif_f z))
          have hst5 := stP_tr hst4 h4 hv5
          refine qy (fun _ _ k9 => z_eq (qc rfl (qc rfl (qc rfl (qc rfl (qc (qi (show (qif ((pl5 B N s).2.1 = 0) (plM B N s) (-1)) = (plM B N s) from qif_t h5)) rfl))))) rfl rfl k9) ?_
          refine qy (fun _ _ k9 => z_aload_n d_X4_readPlanLine_114 rfl rfl k9) ?_
          refine qy (fun _ _ k9 => z_iconst d_X4_readPlanLine_115 (by decide) k9) ?_
          obtain ⟨F6, hv6, hx6⟩ := c_gnS (h := h) (F := F5) (G := G) (s := (pl5 B N s)) (c := 59) (k := 3) (Or.inl ⟨rfl, rfl⟩) (hv5.2.1 h5).2 h5
          refine qy (fun _ _ k9 => z_cv (M1 := M_X4_pass) d_X4_readPlanLine_116 lv_X4_134 k_X4_pass [qI 3] rfl rfl (xput_ob (c := (F5 160)) xi_160 rfl (xsh_4 xo_160)) ⟨_, _, rfl⟩ (Nat.le_of_ble_eq_true rfl) (by decide) (by decide) (Nat.le_of_ble_eq_true rfl) hx6 k9) ?_
          refine qy2 (fun _ _ => z_ifneB 124 d_X4_readPlanLine_119 (by decide)) (fun q119 => ?_) (fun q119 => ?_)
          · have hst6 := stP_tr hst5 h5 hv6
            refine qy (fun _ _ k9 => z_aload_n d_X4_readPlanLine_124 rfl rfl k9) ?_
            refine qy (fun _ _ k9 => z_getf (v := qR 170) d_X4_readPlanLine_125 fl_X4_52 (xput_ob (c := (F6 160)) xi_160 rfl (xsh_4 xo_160)) rfl k9) ?_
            refine qy (fun _ _ k9 => z_iload_n d_X4_readPlanLine_128 rfl rfl k9) ?_
            refine qy (fun _ _ k9 => z_iload_n d_X4_readPlanLine_129 rfl rfl k9) ?_
            refine qy (fun _ _ k9 => z_iload_n d_X4_readPlanLine_130 rfl rfl k9) ?_
            refine qy (fun _ _ k9 => z_iload d_X4_readPlanLine_131 rfl k9) ?_
            refine qy (fun _ _ k9 => z_cv (M1 := M_X6_add) d_X4_readPlanLine_133 lv_X4_156 k_X6_add [qI (nuV B N (tkS B N 10 s)), qI (plW B N s), qI (nuV B N (pl3 B N s)), qI (plM B N s)] rfl rfl (xput_ob (c := (F6 170)) xi_170 rfl (xsh_6 xo_170)) ⟨_, _, rfl⟩ (Nat.le_of_ble_eq_true rfl) (by decide) (by decide) (Nat.le_of_ble_eq_true rfl) (c_rwAdd (h := h) (F := F6) (G := G) (q := 170) (L := L) (nuV B N (tkS B N 10 s)) (plW B N s) (nuV B N (pl3 B N s)) (plM B N s) (by decide) xo_170 (by rw [hst6.1.1 170 (by decide)]; exact hL) (by rw [show xM 170 = 16 by decide]; exact hL2) (by rw [show xM 170 = 16 by decide]; exact hlt)) k9) ?_
            exact y_ret (hQ (gup F6 170 (qup (F6 170) 2 ((L : Int) + 1))) (gup G 171 (row4 (G 171) (4 * L) (nuV B N (tkS B N 10 s)) (plW B N s) (nuV B N (pl3 B N s)) (plM B N s))) (⟨fun a h1 h2 => (gup_ne h2).trans (hst6.1.1 a h1), fun k hk => (by rw [gup_ne (by decide)]; exact hst6.1.2 k hk), fun a h1 => gup_ne h1, fun _ => ⟨⟨(by rw [gup_ne (by decide)]; exact (hst6.2.1 q119).1.1), (by rw [gup_ne (by decide)]; exact (hst6.2.1 q119).1.2)⟩, rdP_cg (hst6.2.1 q119).2 (by rw [gup_ne (by decide)]) (by rw [gup_ne (by decide)]) (gup_ne (by decide)) (gup_ne (by decide)) (gup_ne (by decide)), (by rw [gup_eq, qup_eq]), (by rw [gup_eq])⟩, fun z => absurd q119 z⟩)) (z_zret d_X4_readPlanLine_136 rfl (by first | exact qb_01 _ | decide | omega) (qsi (qb_t q119)) rfl)
          · refine qy (fun _ _ k9 => z_iconst d_X4_readPlanLine_122 (by decide) k9) ?_
            exact y_ret (hQ F6 G (⟨fun a h1 _ => (stP_tr hst5 h5 hv6).1.1 a h1, (stP_tr hst5 h5 hv6).1.2, fun _ _ => rfl, fun z => absurd z q119, fun _ => ⟨hv6.2.2 q119, congrFun ((stP_tr hst5 h5 hv6).1.1 170 (by decide)) 2⟩⟩)) (z_zret d_X4_readPlanLine_123 rfl (by first | exact qb_01 _ | decide | omega) (qsi (qb_f q119)) rfl)
      · refine qy (fun _ _ k9 => z_iconst d_X4_readPlanLine_97 (by decide) k9) ?_
        refine qy (fun _ _ k9 => z_goto 106 d_X4_readPlanLine_98 (by decide) k9) ?_
        refine qy (fun _ _ k9 => z_istore (ls' := [qR 160, qI (nuV B N (tkS B N 10 s)), qI (plW B N s), qI (qif ((pl4 B N s).2.1 = 0) (nuV B N (pl3 B N s)) (-1)), qI (-1)]) d_X4_readPlanLine_106 (by decide) rfl k9) ?_
        refine qy (fun _ _ k9 => z_iload d_X4_readPlanLine_108 rfl k9) ?_
        refine qy (fun _ _ k9 => z_iconst d_X4_readPlanLine_110 (by decide) k9) ?_
        refine qy2 (fun _ _ => z_icmp_eq 122 d_X4_readPlanLine_111 (by decide)) (fun q111 => ?_) (fun q111 => absurd (by decide) q111)
        have g4 : (pl4 B N s).2.1 ≠ 0 := fun z => by have e9 := Classical.not_not.mp q94; rw [qif_t z] at e9; have := (nu_bd z).1; omega
        refine qy (fun _ _ k9 => z_iconst d_X4_readPlanLine_122 (by decide) k9) ?_
        exact y_ret (hQ F4 G (⟨fun a h1 _ => (stP_tr hst3 hs3 hv4).1.1 a h1, (stP_tr hst3 hs3 hv4).1.2, fun _ _ => rfl, fun z => absurd z (by rw [pl_f4 g4]; exact g4), fun _ => ⟨(by rw [pl_f4 g4]; exact hv4.2.2 g4), congrFun ((stP_tr hst3 hs3 hv4).1.1 170 (by decide)) 2⟩⟩)) (z_zret d_X4_readPlanLine_123 rfl (by first | exact qb_01 _ | decide | omega) (qsi (qb_f (by rw [pl_f4 g4]; exact g4))) rfl)
    · refine qy (fun _ _ k9 => z_aload_n d_X4_readPlanLine_66 rfl rfl k9) ?_
      refine qy (fun _ _ k9 => z_iconst d_X4_readPlanLine_67 (by decide) k9) ?_
      obtain ⟨F7, ⟨hf7, he7, hp7⟩, hx7⟩ := c_refuse (h := h) (F := F2) (G := G) 1 (show rdP F2 G B N (sk B N (pl1 B N s).1) from (hv2.2.1 h1).2)
      refine qy (fun _ _ k9 => z_cv (M1 := M_X4_refuse) d_X4_readPlanLine_68 lv_X4_111 k_X4_refuse [qI 1] rfl rfl (xput_ob (c := (F2 160)) xi_160 rfl (xsh_4 xo_160)) ⟨_, _, rfl⟩ (Nat.le_of_ble_eq_true rfl) (by decide) (by decide) (Nat.le_of_ble_eq_true rfl) hx7 k9) ?_
      exact y_ret (hQ F7 G (⟨fun a h1 _ => (rdQ_tr hst2.1 hf7).1 a h1, (rdQ_tr hst2.1 hf7).2, fun _ _ => rfl, fun z => absurd z (by rw [pl_n h1 q63]; exact (by decide : ¬ (1 : Int) = 0)), fun _ => ⟨(by rw [pl_n h1 q63]; exact he7), congrFun ((rdQ_tr hst2.1 hf7).1 170 (by decide)) 2⟩⟩)) (z_zret d_X4_readPlanLine_71 rfl (by first | exact qb_01 _ | decide | omega) (qsi (qb_f (by rw [pl_n h1 q63]; exact (by decide : ¬ (1 : Int) = 0)))) rfl)
  · have g1 : (pl1 B N s).2.1 ≠ 0 := fun z => by have e9 := Classical.not_not.mp q47; rw [qif_t z] at e9; have := (nu_bd z).1; omega
    refine qy (fun _ _ k9 => z_iconst d_X4_readPlanLine_50 (by decide) k9) ?_
    exact y_ret (hQ F2 G (⟨fun a h1 _ => (stP_tr hst1 hs0 hv2).1.1 a h1, (stP_tr hst1 hs0 hv2).1.2, fun _ _ => rfl, fun z => absurd z (by rw [pl_f1 g1]; exact g1), fun _ => ⟨(by rw [pl_f1 g1]; exact hv2.2.2 g1), congrFun ((stP_tr hst1 hs0 hv2).1.1 170 (by decide)) 2⟩⟩)) (z_zret d_X4_readPlanLine_51 rfl (by first | exact qb_01 _ | decide | omega) (qsi (qb_f (by rw [pl_f1 g1]; exact g1))) rfl)
