/-! ===== CONTRACTS: the reader: the tokens' table, advance, refuse, pass, numberHere, passNumber, passOr ===== -/
theorem x_inF {M : qM} {pc : Nat} {ls st : List qA} {h h' : qH} {ρ : Option qA} {G : Nat → Nat → Int} {P : (Nat → Nat → Int) → Prop} (k : ∀ Q : Option qA → qH → Prop, (∀ F', P F' → Q ρ (xput h' F' G)) → qEy M pc ls st h Q) : ∃ F', P F' ∧ qEx M pc ls st h ρ (xput h' F' G) := by
  obtain ⟨r, hr, ⟨F', hP, e1, e2⟩, hx⟩ := k (fun r hr => ∃ F', P F' ∧ r = ρ ∧ hr = xput h' F' G) (fun F' hP => ⟨F', hP, rfl, rfl⟩)
  subst e1 e2
  exact ⟨F', hP, hx⟩
/-- the place of the j-th token -/
noncomputable def tp (B : Nat → Int) (N : Nat) : Nat → Nat
  | 0 => sk B N 0
  | j + 1 => nx B N (tp B N j)
/-- the tokens' table -/
def tkT (G : Nat → Nat → Int) (B : Nat → Int) (N c : Nat) : Prop := (∀ j, j ≤ c → G 162 j = kd B N (tp B N j) ∧ G 163 j = (tp B N j : Int) ∧ (kd B N (tp B N j) = 2 → G 164 j = vl B N (tp B N j))) ∧ (∀ j, j < c → tp B N j < N) ∧ tp B N c = N ∧ c ≤ 400
/-- the reader stands at p -/
def rdP (F G : Nat → Nat → Int) (B : Nat → Int) (N p : Nat) : Prop := ∃ t c : Nat, (t ≤ c ∧ tp B N t = p) ∧ tkT G B N c ∧ F 160 5 = (t : Int) ∧ F 160 6 = kd B N p
def rdQ (F F' : Nat → Nat → Int) : Prop := (∀ a, a ≠ 160 → F' a = F a) ∧ ∀ k, k < 5 ∨ 8 < k → F' 160 k = F 160 k
def rdK (F F' : Nat → Nat → Int) : Prop := F' 160 7 = F 160 7 ∧ F' 160 8 = F 160 8
def rdE (F' : Nat → Nat → Int) (k p : Int) : Prop := F' 160 7 = k ∧ F' 160 8 = p
theorem rdQ_rf (F : Nat → Nat → Int) : rdQ F F := ⟨fun _ _ => rfl, fun _ _ => rfl⟩
theorem rdQ_tr {F F1 F2 : Nat → Nat → Int} (h1 : rdQ F F1) (h2 : rdQ F1 F2) : rdQ F F2 := ⟨fun a h => (h2.1 a h).trans (h1.1 a h), fun k h => (h2.2 k h).trans (h1.2 k h)⟩
theorem rdK_rf (F : Nat → Nat → Int) : rdK F F := ⟨rfl, rfl⟩
theorem rdK_tr {F F1 F2 : Nat → Nat → Int} (h1 : rdK F F1) (h2 : rdK F1 F2) : rdK F F2 := ⟨h2.1.trans h1.1, h2.2.trans h1.2⟩
theorem tp_le {B : Nat → Int} {N c : Nat} {G : Nat → Nat → Int} (h : tkT G B N c) {t : Nat} (ht : t ≤ c) : tp B N t ≤ N := by
  by_cases z : t < c
  · exact Nat.le_of_lt (h.2.1 t z)
  · rw [show t = c by omega, h.2.2.1]; exact Nat.le_refl _
theorem tp_sk {B : Nat → Int} {N c : Nat} {G : Nat → Nat → Int} (h : tkT G B N c) : ∀ {t : Nat}, t ≤ c → sk B N (tp B N t) = tp B N t
  | 0, _ => sk_sk (Nat.zero_le _)
  | t + 1, ht => sk_sk (en_sp (h.2.1 t (by omega))).2
theorem rdP_sp {F G : Nat → Nat → Int} {B : Nat → Int} {N p : Nat} (h : rdP F G B N p) : p ≤ N ∧ sk B N p = p := by
  obtain ⟨t, c, ⟨h1, rfl⟩, h2, _⟩ := h
  exact ⟨tp_le h2 h1, tp_sk h2 h1⟩
def nOk (B : Nat → Int) (N : Nat) (lo hi : Int) (p : Nat) : Prop := kd B N p = 2 ∧ lo ≤ vl B N p ∧ vl B N p ≤ hi
noncomputable def nER (B : Nat → Int) (N p : Nat) : Int := qif (kd B N p = 2) 2 1
noncomputable def nhV (B : Nat → Int) (N : Nat) (lo hi : Int) (p : Nat) : Int := qif (nOk B N lo hi p) (vl B N p) (-1)
noncomputable def poV (B : Nat → Int) (N : Nat) (W m : Int) (p : Nat) : Int := qif (kd B N p = W) m (nhV B N 0 7 p)
def poK (B : Nat → Int) (N : Nat) (W : Int) (p : Nat) : Prop := kd B N p = W ∨ nOk B N 0 7 p
theorem nhV_1 {B : Nat → Int} {N : Nat} {lo hi : Int} {p : Nat} (hp : p ≤ N) : nhV B N lo hi p = -1 ↔ ¬ nOk B N lo hi p := by
  unfold nhV
  by_cases z : nOk B N lo hi p
  · have := vl_bd hp z.1
    rw [qif_t z]
    exact ⟨fun y => absurd y (by omega), fun y => absurd z y⟩
  · rw [qif_f z]
    exact ⟨fun _ => z, fun _ => rfl⟩
theorem poV_1 {B : Nat → Int} {N : Nat} {W m : Int} {p : Nat} (hp : p ≤ N) (hm : 0 ≤ m) : poV B N W m p = -1 ↔ ¬ poK B N W p := by
  unfold poV poK
  by_cases z : kd B N p = W
  · rw [qif_t z]
    exact ⟨fun y => absurd y (by omega), fun y => absurd (Or.inl z) y⟩
  · rw [qif_f z, nhV_1 hp]
    exact ⟨fun y q => y (q.resolve_left z), fun y q => y (Or.inr q)⟩
set_option maxRecDepth 20000 in
set_option maxHeartbeats 4000000 in
theorem c_adv {h : qH} {F G : Nat → Nat → Int} {B : Nat → Int} {N p : Nat} (hP : rdP F G B N p) (hk : kd B N p ≠ 0) : ∃ F', (rdQ F F' ∧ rdK F F' ∧ rdP F' G B N (nx B N p)) ∧ qEx M_X4_advance 0 [qR 160] [] (xput h F G) none (xput h F' G) := by
  refine x_inF (fun Q hQ => ?_)
  obtain ⟨t, c, ⟨htc, htp⟩, hT, h5, h6⟩ := id hP
  have hp9 := rdP_sp hP
  have hc9 := hT.2.2.2
  have htt := hT.1 t htc
  rw [htp] at htt
  have hlt : t < c := by
    rcases Nat.lt_or_ge t c with z | z
    · exact z
    · exact absurd (kd_0.mpr (by rw [← htp, show t = c by omega, hT.2.2.1]; exact Nat.le_refl _)) hk
  have hnt := hT.1 (t + 1) hlt
  rw [show tp B N (t + 1) = nx B N p by rw [← htp]; rfl] at hnt
  refine qy (fun _ _ k9 => z_aload_n d_X4_advance_0 rfl rfl k9) ?_
  refine qy (fun _ _ k9 => z_getf (v := qI ((F 160) 6)) d_X4_advance_1 fl_X4_31 (xput_ob (c := (F 160)) xi_160 rfl (xsh_4 xo_160)) rfl k9) ?_
  refine qy (fun _ _ k9 => z_eq rfl (qc (qi h6) rfl) rfl k9) ?_
  refine qy2 (fun _ _ => z_if_eq 30 d_X4_advance_4 (by decide)) (fun hc1 => absurd hc1 (by exact hk)) (fun hc1 => ?_)
  refine qy (fun _ _ k9 => z_aload_n d_X4_advance_7 rfl rfl k9) ?_
  refine qy (fun _ _ k9 => z_dup d_X4_advance_8 rfl k9) ?_
  refine qy (fun _ _ k9 => z_getf (v := qI ((F 160) 5)) d_X4_advance_9 fl_X4_28 (xput_ob (c := (F 160)) xi_160 rfl (xsh_4 xo_160)) rfl k9) ?_
  refine qy (fun _ _ k9 => z_eq rfl (qc (qi h5) rfl) rfl k9) ?_
  refine qy (fun _ _ k9 => z_iconst d_X4_advance_12 (by decide) k9) ?_
  refine qy (fun _ _ k9 => z_iadd d_X4_advance_13 (by omega) k9) ?_
  refine qy (fun _ _ k9 => z_putf (fs' := [qR 161, qI ((F 160) 1), qR 162, qR 163, qR 164, qI ((t : Int) + 1), qI ((F 160) 6), qI ((F 160) 7), qI ((F 160) 8), qR 165, qR 170]) d_X4_advance_14 fp_X4_28 (xput_ob (c := (F 160)) xi_160 rfl (xsh_4 xo_160)) (fun _ => rfl) (fun _ => rfl) (Nat.le_of_ble_eq_true rfl) rfl k9) ?_
  refine qy (fun _ _ k9 => z_eq rfl rfl (xput_sf (c := (qup (F 160) 5 ((t : Int) + 1))) xi_160 (xsh_4 xo_160)) k9) ?_
  refine qy (fun _ _ k9 => z_aload_n d_X4_advance_17 rfl rfl k9) ?_
  refine qy (fun _ _ k9 => z_aload_n d_X4_advance_18 rfl rfl k9) ?_
  refine qy (fun _ _ k9 => z_getf (v := qR 162) d_X4_advance_19 fl_X4_19 (xput_ob (c := (qup (F 160) 5 ((t : Int) + 1))) xi_160 rfl (xsh_4 xo_160)) rfl k9) ?_
  refine qy (fun _ _ k9 => z_aload_n d_X4_advance_22 rfl rfl k9) ?_
  refine qy (fun _ _ k9 => z_getf (v := qI ((t : Int) + 1)) d_X4_advance_23 fl_X4_28 (xput_ob (c := (qup (F 160) 5 ((t : Int) + 1))) xi_160 rfl (xsh_4 xo_160)) rfl k9) ?_
  refine qy (fun _ _ k9 => z_ild (t + 1) d_X4_advance_26 (xput_ar (g := (G 162)) xa_162 rfl) rfl (by omega) k9) ?_
  refine qy (fun _ _ k9 => z_eq rfl (qc (qi (show ((G 162) (t + 1)) = (kd B N (nx B N p)) from hnt.1)) rfl) rfl k9) ?_
  refine qy (fun _ _ k9 => z_putf (fs' := [qR 161, qI ((F 160) 1), qR 162, qR 163, qR 164, qI ((t : Int) + 1), qI (kd B N (nx B N p)), qI ((F 160) 7), qI ((F 160) 8), qR 165, qR 170]) d_X4_advance_27 fp_X4_31 (xput_ob (c := (qup (F 160) 5 ((t : Int) + 1))) xi_160 rfl (xsh_4 xo_160)) (fun _ => rfl) (fun _ => rfl) (Nat.le_of_ble_eq_true rfl) rfl k9) ?_
  refine qy (fun _ _ k9 => z_eq rfl rfl ((xput_sf (c := (qup (qup (F 160) 5 ((t : Int) + 1)) 6 (kd B N (nx B N p)))) xi_160 (xsh_4 xo_160)).trans (xput_cg (gup_gup _ _ _) rfl)) k9) ?_
  exact y_ret (hQ (gup F 160 (qup (qup (F 160) 5 ((t : Int) + 1)) 6 (kd B N (nx B N p)))) (⟨⟨fun a ha => gup_ne ha, fun k hk => by rw [gup_eq, qup_ne (by omega), qup_ne (by omega)]⟩, ⟨by rw [gup_eq, qup_ne (by decide), qup_ne (by decide)], by rw [gup_eq, qup_ne (by decide), qup_ne (by decide)]⟩, t + 1, c, ⟨hlt, by rw [← htp]; rfl⟩, hT, by rw [gup_eq, qup_ne (by decide), qup_eq]; omega, by rw [gup_eq, qup_eq]⟩)) (z_vret d_X4_advance_30 rfl rfl rfl)
set_option maxRecDepth 20000 in
set_option maxHeartbeats 4000000 in
theorem c_refuse {h : qH} {F G : Nat → Nat → Int} {B : Nat → Int} {N p : Nat} (w0 : Int) (hP : rdP F G B N p) : ∃ F', (rdQ F F' ∧ rdE F' w0 (p : Int) ∧ rdP F' G B N p) ∧ qEx M_X4_refuse 0 [qR 160, qI w0] [] (xput h F G) (some (qI 0)) (xput h F' G) := by
  refine x_inF (fun Q hQ => ?_)
  obtain ⟨t, c, ⟨htc, htp⟩, hT, h5, h6⟩ := id hP
  have hp9 := rdP_sp hP
  have hc9 := hT.2.2.2
  have htt := hT.1 t htc
  rw [htp] at htt
  refine qy (fun _ _ k9 => z_aload_n d_X4_refuse_0 rfl rfl k9) ?_
  refine qy (fun _ _ k9 => z_iload_n d_X4_refuse_1 rfl rfl k9) ?_
  refine qy (fun _ _ k9 => z_putf (fs' := [qR 161, qI ((F 160) 1), qR 162, qR 163, qR 164, qI ((F 160) 5), qI ((F 160) 6), qI w0, qI ((F 160) 8), qR 165, qR 170]) d_X4_refuse_2 fp_X4_34 (xput_ob (c := (F 160)) xi_160 rfl (xsh_4 xo_160)) (fun _ => rfl) (fun _ => rfl) (Nat.le_of_ble_eq_true rfl) rfl k9) ?_
  refine qy (fun _ _ k9 => z_eq rfl rfl (xput_sf (c := (qup (F 160) 7 w0)) xi_160 (xsh_4 xo_160)) k9) ?_
  refine qy (fun _ _ k9 => z_aload_n d_X4_refuse_5 rfl rfl k9) ?_
  refine qy (fun _ _ k9 => z_aload_n d_X4_refuse_6 rfl rfl k9) ?_
  refine qy (fun _ _ k9 => z_getf (v := qR 163) d_X4_refuse_7 fl_X4_22 (xput_ob (c := (qup (F 160) 7 w0)) xi_160 rfl (xsh_4 xo_160)) rfl k9) ?_
  refine qy (fun _ _ k9 => z_aload_n d_X4_refuse_10 rfl rfl k9) ?_
  refine qy (fun _ _ k9 => z_getf (v := qI ((F 160) 5)) d_X4_refuse_11 fl_X4_28 (xput_ob (c := (qup (F 160) 7 w0)) xi_160 rfl (xsh_4 xo_160)) rfl k9) ?_
  refine qy (fun _ _ k9 => z_eq rfl (qc (qi h5) rfl) rfl k9) ?_
  refine qy (fun _ _ k9 => z_ild t d_X4_refuse_14 (xput_ar (g := (G 163)) xa_163 rfl) rfl (by omega) k9) ?_
  refine qy (fun _ _ k9 => z_eq rfl (qc (qi (show ((G 163) t) = (p : Int) from htt.2.1)) rfl) rfl k9) ?_
  refine qy (fun _ _ k9 => z_putf (fs' := [qR 161, qI ((F 160) 1), qR 162, qR 163, qR 164, qI ((F 160) 5), qI ((F 160) 6), qI w0, qI (p : Int), qR 165, qR 170]) d_X4_refuse_15 fp_X4_37 (xput_ob (c := (qup (F 160) 7 w0)) xi_160 rfl (xsh_4 xo_160)) (fun _ => rfl) (fun _ => rfl) (Nat.le_of_ble_eq_true rfl) rfl k9) ?_
  refine qy (fun _ _ k9 => z_eq rfl rfl ((xput_sf (c := (qup (qup (F 160) 7 w0) 8 (p : Int))) xi_160 (xsh_4 xo_160)).trans (xput_cg (gup_gup _ _ _) rfl)) k9) ?_
  refine qy (fun _ _ k9 => z_iconst d_X4_refuse_18 (by decide) k9) ?_
  exact y_ret (hQ (gup F 160 (qup (qup (F 160) 7 w0) 8 (p : Int))) (⟨⟨fun a ha => gup_ne ha, fun k hk => by rw [gup_eq, qup_ne (by omega), qup_ne (by omega)]⟩, ⟨by rw [gup_eq, qup_ne (by decide), qup_eq], by rw [gup_eq, qup_eq]⟩, t, c, ⟨htc, htp⟩, hT, by rw [gup_eq, qup_ne (by decide), qup_ne (by decide)]; exact h5, by rw [gup_eq, qup_ne (by decide), qup_ne (by decide)]; exact h6⟩)) (z_zret d_X4_refuse_19 rfl (by first | exact qb_01 _ | decide | omega) rfl rfl)
set_option maxRecDepth 20000 in
set_option maxHeartbeats 4000000 in
theorem c_pass {h : qH} {F G : Nat → Nat → Int} {B : Nat → Int} {N p : Nat} (W : Int) (hP : rdP F G B N p) (hW : W ≠ 0) : ∃ F', (rdQ F F' ∧ (kd B N p = W → rdK F F' ∧ rdP F' G B N (nx B N p)) ∧ (¬ kd B N p = W → rdE F' 1 (p : Int))) ∧ qEx M_X4_pass 0 [qR 160, qI W] [] (xput h F G) (some (qI (qb (kd B N p = W)))) (xput h F' G) := by
  refine x_inF (fun Q hQ => ?_)
  obtain ⟨t, c, ⟨htc, htp⟩, hT, h5, h6⟩ := id hP
  have hp9 := rdP_sp hP
  have hc9 := hT.2.2.2
  have htt := hT.1 t htc
  rw [htp] at htt
  refine qy (fun _ _ k9 => z_aload_n d_X4_pass_0 rfl rfl k9) ?_
  refine qy (fun _ _ k9 => z_getf (v := qI ((F 160) 6)) d_X4_pass_1 fl_X4_31 (xput_ob (c := (F 160)) xi_160 rfl (xsh_4 xo_160)) rfl k9) ?_
  refine qy (fun _ _ k9 => z_eq rfl (qc (qi h6) rfl) rfl k9) ?_
  refine qy (fun _ _ k9 => z_iload_n d_X4_pass_4 rfl rfl k9) ?_
  refine qy2 (fun _ _ => z_icmp_eq 14 d_X4_pass_5 (by decide)) (fun q5 => ?_) (fun q5 => ?_)
  · refine qy (fun _ _ k9 => z_aload_n d_X4_pass_14 rfl rfl k9) ?_
    obtain ⟨F1, ⟨hf1, hk1, hp1⟩, hx1⟩ := c_adv (h := h) (F := F) (G := G) hP (by omega)
    refine qy (fun _ _ k9 => z_cv0 (M1 := M_X4_advance) d_X4_pass_15 lv_X4_114 k_X4_advance [] rfl rfl (xput_ob (c := (F 160)) xi_160 rfl (xsh_4 xo_160)) ⟨_, _, rfl⟩ (Nat.le_of_ble_eq_true rfl) (by decide) (by decide) (Nat.le_of_ble_eq_true rfl) hx1 k9) ?_
    refine qy (fun _ _ k9 => z_iconst d_X4_pass_18 (by decide) k9) ?_
    exact y_ret (hQ F1 (⟨hf1, fun _ => ⟨hk1, hp1⟩, fun z => absurd q5 z⟩)) (z_zret d_X4_pass_19 rfl (by first | exact qb_01 _ | decide | omega) (qsi (qb_t q5)) rfl)
  · refine qy (fun _ _ k9 => z_aload_n d_X4_pass_8 rfl rfl k9) ?_
    refine qy (fun _ _ k9 => z_iconst d_X4_pass_9 (by decide) k9) ?_
    obtain ⟨F2, ⟨hf2, he2, hp2⟩, hx2⟩ := c_refuse (h := h) (F := F) (G := G) 1 hP
    refine qy (fun _ _ k9 => z_cv (M1 := M_X4_refuse) d_X4_pass_10 lv_X4_111 k_X4_refuse [qI 1] rfl rfl (xput_ob (c := (F 160)) xi_160 rfl (xsh_4 xo_160)) ⟨_, _, rfl⟩ (Nat.le_of_ble_eq_true rfl) (by decide) (by decide) (Nat.le_of_ble_eq_true rfl) hx2 k9) ?_
    exact y_ret (hQ F2 (⟨hf2, fun z => absurd z q5, fun _ => he2⟩)) (z_zret d_X4_pass_13 rfl (by first | exact qb_01 _ | decide | omega) (qsi (qb_f q5)) rfl)
set_option maxRecDepth 20000 in
set_option maxHeartbeats 4000000 in
theorem c_numHere {h : qH} {F G : Nat → Nat → Int} {B : Nat → Int} {N p : Nat} (lo hi : Int) (hP : rdP F G B N p) : ∃ F', (rdQ F F' ∧ (nOk B N lo hi p → rdK F F' ∧ rdP F' G B N p) ∧ (¬ nOk B N lo hi p → rdE F' (nER B N p) (p : Int))) ∧ qEx M_X4_numberHere 0 [qR 160, qI lo, qI hi] [] (xput h F G) (some (qI (nhV B N lo hi p))) (xput h F' G) := by
  refine x_inF (fun Q hQ => ?_)
  obtain ⟨t, c, ⟨htc, htp⟩, hT, h5, h6⟩ := id hP
  have hp9 := rdP_sp hP
  have hc9 := hT.2.2.2
  have htt := hT.1 t htc
  rw [htp] at htt
  refine qy (fun _ _ k9 => z_aload_n d_X4_numberHere_0 rfl rfl k9) ?_
  refine qy (fun _ _ k9 => z_getf (v := qI ((F 160) 6)) d_X4_numberHere_1 fl_X4_31 (xput_ob (c := (F 160)) xi_160 rfl (xsh_4 xo_160)) rfl k9) ?_
  refine qy (fun _ _ k9 => z_eq rfl (qc (qi h6) rfl) rfl k9) ?_
  refine qy (fun _ _ k9 => z_iconst d_X4_numberHere_4 (by decide) k9) ?_
  refine qy2 (fun _ _ => z_icmp_eq 16 d_X4_numberHere_5 (by decide)) (fun q5 => ?_) (fun q5 => ?_)
  · refine qy (fun _ _ k9 => z_aload_n d_X4_numberHere_16 rfl rfl k9) ?_
    refine qy (fun _ _ k9 => z_getf (v := qR 164) d_X4_numberHere_17 fl_X4_25 (xput_ob (c := (F 160)) xi_160 rfl (xsh_4 xo_160)) rfl k9) ?_
    refine qy (fun _ _ k9 => z_aload_n d_X4_numberHere_20 rfl rfl k9) ?_
    refine qy (fun _ _ k9 => z_getf (v := qI ((F 160) 5)) d_X4_numberHere_21 fl_X4_28 (xput_ob (c := (F 160)) xi_160 rfl (xsh_4 xo_160)) rfl k9) ?_
    refine qy (fun _ _ k9 => z_eq rfl (qc (qi h5) rfl) rfl k9) ?_
    refine qy (fun _ _ k9 => z_ild t d_X4_numberHere_24 (xput_ar (g := (G 164)) xa_164 rfl) rfl (by omega) k9) ?_
    refine qy (fun _ _ k9 => z_eq rfl (qc (qi (show ((G 164) t) = (vl B N p) from htt.2.2 q5)) rfl) rfl k9) ?_
    refine qy (fun _ _ k9 => z_iload_n d_X4_numberHere_25 rfl rfl k9) ?_
    refine qy (fun _ _ k9 => z_iload_n d_X4_numberHere_26 rfl rfl k9) ?_
    refine qy (fun _ _ k9 => z_cs (M1 := M_X11_isWithin) d_X4_numberHere_27 ls_X4_59 k_X11_isWithin [qI (vl B N p), qI lo, qI hi] rfl rfl (Nat.le_of_ble_eq_true rfl) (by decide) (by decide) (Nat.le_of_ble_eq_true rfl) (c_isWithin (vl B N p) lo hi) k9) ?_
    refine qy2 (fun _ _ => z_ifneB 41 d_X4_numberHere_30 (by decide)) (fun q30 => ?_) (fun q30 => ?_)
    · refine qy (fun _ _ k9 => z_aload_n d_X4_numberHere_41 rfl rfl k9) ?_
      refine qy (fun _ _ k9 => z_getf (v := qR 164) d_X4_numberHere_42 fl_X4_25 (xput_ob (c := (F 160)) xi_160 rfl (xsh_4 xo_160)) rfl k9) ?_
      refine qy (fun _ _ k9 => z_aload_n d_X4_numberHere_45 rfl rfl k9) ?_
      refine qy (fun _ _ k9 => z_getf (v := qI ((F 160) 5)) d_X4_numberHere_46 fl_X4_28 (xput_ob (c := (F 160)) xi_160 rfl (xsh_4 xo_160)) rfl k9) ?_
      refine qy (fun _ _ k9 => z_eq rfl (qc (qi h5) rfl) rfl k9) ?_
      refine qy (fun _ _ k9 => z_ild t d_X4_numberHere_49 (xput_ar (g := (G 164)) xa_164 rfl) rfl (by omega) k9) ?_
      refine qy (fun _ _ k9 => z_eq rfl (qc (qi (show ((G 164) t) = (vl B N p) from htt.2.2 q5)) rfl) rfl k9) ?_
      exact y_ret (hQ F (⟨rdQ_rf F, fun _ => ⟨rdK_rf F, hP⟩, fun z => absurd ⟨q5, q30⟩ z⟩)) (z_iret d_X4_numberHere_50 rfl (qsi (qif_t ⟨q5, q30⟩)) rfl)
    · refine qy (fun _ _ k9 => z_aload_n d_X4_numberHere_33 rfl rfl k9) ?_
      refine qy (fun _ _ k9 => z_iconst d_X4_numberHere_34 (by decide) k9) ?_
      obtain ⟨F1, ⟨hf1, he1, hp1⟩, hx1⟩ := c_refuse (h := h) (F := F) (G := G) 2 hP
      refine qy (fun _ _ k9 => z_cv (M1 := M_X4_refuse) d_X4_numberHere_35 lv_X4_111 k_X4_refuse [qI 2] rfl rfl (xput_ob (c := (F 160)) xi_160 rfl (xsh_4 xo_160)) ⟨_, _, rfl⟩ (Nat.le_of_ble_eq_true rfl) (by decide) (by decide) (Nat.le_of_ble_eq_true rfl) hx1 k9) ?_
      refine qy (fun _ _ k9 => z_pop d_X4_numberHere_38 rfl k9) ?_
      refine qy (fun _ _ k9 => z_iconst d_X4_numberHere_39 (by decide) k9) ?_
      exact y_ret (hQ F1 (⟨hf1, fun z => absurd z.2 q30, fun _ => by unfold nER; rw [qif_t q5]; exact he1⟩)) (z_iret d_X4_numberHere_40 rfl (qsi (qif_f (fun z => q30 z.2))) rfl)
  · refine qy (fun _ _ k9 => z_aload_n d_X4_numberHere_8 rfl rfl k9) ?_
    refine qy (fun _ _ k9 => z_iconst d_X4_numberHere_9 (by decide) k9) ?_
    obtain ⟨F2, ⟨hf2, he2, hp2⟩, hx2⟩ := c_refuse (h := h) (F := F) (G := G) 1 hP
    refine qy (fun _ _ k9 => z_cv (M1 := M_X4_refuse) d_X4_numberHere_10 lv_X4_111 k_X4_refuse [qI 1] rfl rfl (xput_ob (c := (F 160)) xi_160 rfl (xsh_4 xo_160)) ⟨_, _, rfl⟩ (Nat.le_of_ble_eq_true rfl) (by decide) (by decide) (Nat.le_of_ble_eq_true rfl) hx2 k9) ?_
    refine qy (fun _ _ k9 => z_pop d_X4_numberHere_13 rfl k9) ?_
    refine qy (fun _ _ k9 => z_iconst d_X4_numberHere_14 (by decide) k9) ?_
    exact y_ret (hQ F2 (⟨hf2, fun z => absurd z.1 q5, fun _ => by unfold nER; rw [qif_f q5]; exact he2⟩)) (z_iret d_X4_numberHere_15 rfl (qsi (qif_f (fun z => q5 z.1))) rfl)
set_option maxRecDepth 20000 in
set_option maxHeartbeats 4000000 in
theorem c_passNum {h : qH} {F G : Nat → Nat → Int} {B : Nat → Int} {N p : Nat} (lo hi : Int) (hP : rdP F G B N p) : ∃ F', (rdQ F F' ∧ (nOk B N lo hi p → rdK F F' ∧ rdP F' G B N (nx B N p)) ∧ (¬ nOk B N lo hi p → rdE F' (nER B N p) (p : Int))) ∧ qEx M_X4_passNumber 0 [qR 160, qI lo, qI hi, qU] [] (xput h F G) (some (qI (nhV B N lo hi p))) (xput h F' G) := by
  refine x_inF (fun Q hQ => ?_)
  have hp9 := rdP_sp hP
  refine qy (fun _ _ k9 => z_aload_n d_X4_passNumber_0 rfl rfl k9) ?_
  refine qy (fun _ _ k9 => z_iload_n d_X4_passNumber_1 rfl rfl k9) ?_
  refine qy (fun _ _ k9 => z_iload_n d_X4_passNumber_2 rfl rfl k9) ?_
  obtain ⟨F1, ⟨hf1, hy1, hn1⟩, hx1⟩ := c_numHere (h := h) (F := F) (G := G) lo hi hP
  refine qy (fun _ _ k9 => z_cv (M1 := M_X4_numberHere) d_X4_passNumber_3 lv_X4_117 k_X4_numberHere [qI lo, qI hi] rfl rfl (xput_ob (c := (F 160)) xi_160 rfl (xsh_4 xo_160)) ⟨_, _, rfl⟩ (Nat.le_of_ble_eq_true rfl) (by decide) (by decide) (Nat.le_of_ble_eq_true rfl) hx1 k9) ?_
  refine qy (fun _ _ k9 => z_istore_n (ls' := [qR 160, qI lo, qI hi, qI (nhV B N lo hi p)]) d_X4_passNumber_6 rfl (by decide) rfl k9) ?_
  refine qy (fun _ _ k9 => z_iload_n d_X4_passNumber_7 rfl rfl k9) ?_
  refine qy (fun _ _ k9 => z_iconst d_X4_passNumber_8 (by decide) k9) ?_
  refine qy2 (fun _ _ => z_icmp_eq 16 d_X4_passNumber_9 (by decide)) (fun q9 => ?_) (fun q9 => ?_)
  · refine qy (fun _ _ k9 => z_iload_n d_X4_passNumber_16 rfl rfl k9) ?_
    exact y_ret (hQ F1 (⟨hf1, fun z => absurd z ((nhV_1 hp9.1).mp q9), fun z => hn1 z⟩)) (z_iret d_X4_passNumber_17 rfl rfl rfl)
  · have hok : nOk B N lo hi p := Classical.byContradiction (fun z => q9 ((nhV_1 hp9.1).mpr z))
    refine qy (fun _ _ k9 => z_aload_n d_X4_passNumber_12 rfl rfl k9) ?_
    obtain ⟨F2, ⟨hf2, hk2, hp2⟩, hx2⟩ := c_adv (h := h) (F := F1) (G := G) (hy1 hok).2 (by rw [hok.1]; decide)
    refine qy (fun _ _ k9 => z_cv0 (M1 := M_X4_advance) d_X4_passNumber_13 lv_X4_114 k_X4_advance [] rfl rfl (xput_ob (c := (F1 160)) xi_160 rfl (xsh_4 xo_160)) ⟨_, _, rfl⟩ (Nat.le_of_ble_eq_true rfl) (by decide) (by decide) (Nat.le_of_ble_eq_true rfl) hx2 k9) ?_
    refine qy (fun _ _ k9 => z_iload_n d_X4_passNumber_16 rfl rfl k9) ?_
    exact y_ret (hQ F2 (⟨rdQ_tr hf1 hf2, fun _ => ⟨rdK_tr (hy1 hok).1 hk2, hp2⟩, fun z => absurd hok z⟩)) (z_iret d_X4_passNumber_17 rfl rfl rfl)
set_option maxRecDepth 20000 in
set_option maxHeartbeats 4000000 in
theorem c_passOr {h : qH} {F G : Nat → Nat → Int} {B : Nat → Int} {N p : Nat} (W m0 : Int) (hP : rdP F G B N p) (hW : W ≠ 0) (hm0 : 0 ≤ m0) : ∃ F', (rdQ F F' ∧ (poK B N W p → rdK F F' ∧ rdP F' G B N (nx B N p)) ∧ (¬ poK B N W p → rdE F' (nER B N p) (p : Int))) ∧ qEx M_X4_passOr 0 [qR 160, qI W, qI m0, qU] [] (xput h F G) (some (qI (poV B N W m0 p))) (xput h F' G) := by
  refine x_inF (fun Q hQ => ?_)
  obtain ⟨t, c, ⟨htc, htp⟩, hT, h5, h6⟩ := id hP
  have hp9 := rdP_sp hP
  have hc9 := hT.2.2.2
  have htt := hT.1 t htc
  rw [htp] at htt
  refine qy (fun _ _ k9 => z_aload_n d_X4_passOr_0 rfl rfl k9) ?_
  refine qy (fun _ _ k9 => z_getf (v := qI ((F 160) 6)) d_X4_passOr_1 fl_X4_31 (xput_ob (c := (F 160)) xi_160 rfl (xsh_4 xo_160)) rfl k9) ?_
  refine qy (fun _ _ k9 => z_eq rfl (qc (qi h6) rfl) rfl k9) ?_
  refine qy (fun _ _ k9 => z_iload_n d_X4_passOr_4 rfl rfl k9) ?_
  refine qy2 (fun _ _ => z_icmp_ne 12 d_X4_passOr_5 (by decide)) (fun q5 => ?_) (fun q5 => ?_)
  · refine qy (fun _ _ k9 => z_aload_n d_X4_passOr_12 rfl rfl k9) ?_
    refine qy (fun _ _ k9 => z_iconst d_X4_passOr_13 (by decide) k9) ?_
    refine qy (fun _ _ k9 => z_bipush d_X4_passOr_14 (by decide) k9) ?_
    obtain ⟨F1, ⟨hf1, hy1, hn1⟩, hx1⟩ := c_numHere (h := h) (F := F) (G := G) 0 7 hP
    refine qy (fun _ _ k9 => z_cv (M1 := M_X4_numberHere) d_X4_passOr_16 lv_X4_117 k_X4_numberHere [qI 0, qI 7] rfl rfl (xput_ob (c := (F 160)) xi_160 rfl (xsh_4 xo_160)) ⟨_, _, rfl⟩ (Nat.le_of_ble_eq_true rfl) (by decide) (by decide) (Nat.le_of_ble_eq_true rfl) hx1 k9) ?_
    refine qy (fun _ _ k9 => z_istore_n (ls' := [qR 160, qI W, qI m0, qI (nhV B N 0 7 p)]) d_X4_passOr_19 rfl (by decide) rfl k9) ?_
    refine qy (fun _ _ k9 => z_iload_n d_X4_passOr_20 rfl rfl k9) ?_
    refine qy (fun _ _ k9 => z_iconst d_X4_passOr_21 (by decide) k9) ?_
    refine qy2 (fun _ _ => z_icmp_eq 29 d_X4_passOr_22 (by decide)) (fun q22 => ?_) (fun q22 => ?_)
    · refine qy (fun _ _ k9 => z_iload_n d_X4_passOr_29 rfl rfl k9) ?_
      exact y_ret (hQ F1 (⟨hf1, fun z => absurd (z.resolve_left q5) ((nhV_1 hp9.1).mp q22), fun _ => hn1 ((nhV_1 hp9.1).mp q22)⟩)) (z_iret d_X4_passOr_30 rfl (qsi (qif_f q5)) rfl)
    · have hok : nOk B N 0 7 p := Classical.byContradiction (fun z => q22 ((nhV_1 hp9.1).mpr z))
      refine qy (fun _ _ k9 => z_aload_n d_X4_passOr_25 rfl rfl k9) ?_
      obtain ⟨F2, ⟨hf2, hk2, hp2⟩, hx2⟩ := c_adv (h := h) (F := F1) (G := G) (hy1 hok).2 (by rw [hok.1]; decide)
      refine qy (fun _ _ k9 => z_cv0 (M1 := M_X4_advance) d_X4_passOr_26 lv_X4_114 k_X4_advance [] rfl rfl (xput_ob (c := (F1 160)) xi_160 rfl (xsh_4 xo_160)) ⟨_, _, rfl⟩ (Nat.le_of_ble_eq_true rfl) (by decide) (by decide) (Nat.le_of_ble_eq_true rfl) hx2 k9) ?_
      refine qy (fun _ _ k9 => z_iload_n d_X4_passOr_29 rfl rfl k9) ?_
      exact y_ret (hQ F2 (⟨rdQ_tr hf1 hf2, fun _ => ⟨rdK_tr (hy1 hok).1 hk2, hp2⟩, fun z => absurd (Or.inr hok) z⟩)) (z_iret d_X4_passOr_30 rfl (qsi (qif_f q5)) rfl)
  · have q5 : kd B N p = W := Classical.not_not.mp q5
    refine qy (fun _ _ k9 => z_iload_n d_X4_passOr_8 rfl rfl k9) ?_
    refine qy (fun _ _ k9 => z_goto 19 d_X4_passOr_9 (by decide) k9) ?_
    refine qy (fun _ _ k9 => z_istore_n (ls' := [qR 160, qI W, qI m0, qI m0]) d_X4_passOr_19 rfl (by decide) rfl k9) ?_
    refine qy (fun _ _ k9 => z_iload_n d_X4_passOr_20 rfl rfl k9) ?_
    refine qy (fun _ _ k9 => z_iconst d_X4_passOr_21 (by decide) k9) ?_
    refine qy2 (fun _ _ => z_icmp_eq 29 d_X4_passOr_22 (by decide)) (fun q22 => absurd q22 (by omega)) (fun q22 => ?_)
    refine qy (fun _ _ k9 => z_aload_n d_X4_passOr_25 rfl rfl k9) ?_
    obtain ⟨F3, ⟨hf3, hk3, hp3⟩, hx3⟩ := c_adv (h := h) (F := F) (G := G) hP (by rw [q5]; exact hW)
    refine qy (fun _ _ k9 => z_cv0 (M1 := M_X4_advance) d_X4_passOr_26 lv_X4_114 k_X4_advance [] rfl rfl (xput_ob (c := (F 160)) xi_160 rfl (xsh_4 xo_160)) ⟨_, _, rfl⟩ (Nat.le_of_ble_eq_true rfl) (by decide) (by decide) (Nat.le_of_ble_eq_true rfl) hx3 k9) ?_
    refine qy (fun _ _ k9 => z_iload_n d_X4_passOr_29 rfl rfl k9) ?_
    exact y_ret (hQ F3 (⟨hf3, fun _ => ⟨hk3, hp3⟩, fun z => absurd (Or.inl q5) z⟩)) (z_iret d_X4_passOr_30 rfl (qsi (qif_t q5)) rfl)
