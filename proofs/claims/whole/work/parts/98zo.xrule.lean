/-! ===== CONTRACTS: the reader: canBeginRule, readRule ===== -/
section LineWords
variable {B : Nat → Int} {N : Nat} {s : pS}
theorem seS_f (h : s.2.1 ≠ 0) : seS B N s = s := by unfold seS; rw [qif_t h]
theorem gnS_f {c : Int} (h : s.2.1 ≠ 0) : gnS B N c s = s := by unfold gnS; rw [qif_t h]
theorem nuS_f {lo hi : Int} (h : s.2.1 ≠ 0) : nuS B N lo hi s = s := by unfold nuS; rw [qif_t h]
theorem gn_ok {c k : Int} (hc : (c = 59 ∧ k = 3) ∨ (c = 44 ∧ k = 4) ∨ (c = 62 ∧ k = 5)) (h : s.2.1 = 0) (hk : kd B N (sk B N s.1) = k) : gnS B N c s = (sk B N s.1 + 1, s.2) ∧ nx B N (sk B N s.1) = sk B N (sk B N s.1 + 1) := by
  have hb := (kd_s hc).mpr hk
  have he := (kd_en3 (by rcases hc with z | z | z <;> omega) hb).2
  refine ⟨?_, by show sk B N (en B N (sk B N s.1)) = _; rw [he]⟩
  unfold gnS
  rw [qif_f (fun z => z h), qif_t hb]
theorem gn_no {c k : Int} (hc : (c = 59 ∧ k = 3) ∨ (c = 44 ∧ k = 4) ∨ (c = 62 ∧ k = 5)) (h : s.2.1 = 0) (hk : ¬ kd B N (sk B N s.1) = k) : (gnS B N c s).2 = (1, ((sk B N s.1 : Nat) : Int)) := by
  unfold gnS
  rw [qif_f (fun z => z h), qif_f (fun z => hk ((kd_s hc).mp z))]
theorem lnA_f (h : (lnA B N s).2.1 ≠ 0) : lnS B N s = lnA B N s := by
  have e : lnB B N s = lnA B N s := by
    unfold lnB
    rw [qif_f (fun z => h z.1), tkS_f h, nuS_f h]
  unfold lnS
  rw [e, gnS_f h]
theorem ln_1 (h : (seS B N s).2.1 ≠ 0) : lnS B N s = seS B N s := by
  have e : lnA B N s = seS B N s := by unfold lnA; rw [seS_f h, seS_f h, gnS_f h]
  rw [lnA_f (by rw [e]; exact h), e]
theorem ln_2 (h : (seS B N (seS B N s)).2.1 ≠ 0) : lnS B N s = seS B N (seS B N s) := by
  have e : lnA B N s = seS B N (seS B N s) := by unfold lnA; rw [seS_f h, gnS_f h]
  rw [lnA_f (by rw [e]; exact h), e]
theorem ln_3 (h : (seS B N (seS B N (seS B N s))).2.1 ≠ 0) : lnS B N s = seS B N (seS B N (seS B N s)) := by
  have e : lnA B N s = seS B N (seS B N (seS B N s)) := by unfold lnA; rw [gnS_f h]
  rw [lnA_f (by rw [e]; exact h), e]
/-- what can't begin a rule is the first pattern's fault -/
theorem se_bad (ha : s.1 ≤ N) (hsk : sk B N s.1 = s.1) (h : s.2.1 = 0) {L : Nat} (hc : ckK B N L s.1 = 1 ∨ ckK B N L s.1 = 2) : (seS B N s).2 = (ckK B N L s.1, (s.1 : Int)) := by
  have k6 : ¬ kd B N (sk B N s.1) = 6 := by
    rw [hsk]; intro z
    unfold ckK at hc
    rw [qif_t (Or.inl z), qif_f (fun y => by rw [z] at y; exact absurd y.1 (by decide))] at hc
    by_cases q : L = 24
    · rw [qif_t q] at hc; omega
    · rw [qif_f q] at hc; omega
  have k7 : ¬ kd B N (sk B N s.1) = 7 := by
    rw [hsk]; intro z
    unfold ckK at hc
    rw [qif_t (Or.inr (Or.inl z)), qif_f (fun y => by rw [z] at y; exact absurd y.1 (by decide))] at hc
    by_cases q : L = 24
    · rw [qif_t q] at hc; omega
    · rw [qif_f q] at hc; omega
  have hno : ¬ poK B N 8 (sk B N s.1) := by
    rw [hsk]; intro z
    unfold ckK at hc
    rcases z with z | z
    · rw [qif_t (Or.inr (Or.inr (Or.inl z))), qif_f (fun y => by rw [z] at y; exact absurd y.1 (by decide))] at hc
      by_cases q : L = 24
      · rw [qif_t q] at hc; omega
      · rw [qif_f q] at hc; omega
    · rw [qif_t (Or.inr (Or.inr (Or.inr z.1))), qif_f (fun y => by have := z.2.2; have := y.2; omega)] at hc
      by_cases q : L = 24
      · rw [qif_t q] at hc; omega
      · rw [qif_f q] at hc; omega
  have e6 : tkS B N 6 s = s := (tkS_n h k6).trans (skS_id hsk)
  have e7 : tkS B N 7 s = s := (tkS_n h k7).trans (skS_id hsk)
  have hon := one_no ha h hno
  have hk : nER B N (sk B N s.1) = ckK B N L s.1 := by
    rw [hsk]
    unfold nER
    by_cases z : kd B N s.1 = 2
    · have hv : vl B N s.1 ≥ 8 := by
        have b := vl_bd ha z
        by_cases y : vl B N s.1 < 8
        · exact absurd (Or.inr ⟨by rw [hsk]; exact z, by rw [hsk]; exact b.1, by rw [hsk]; omega⟩) hno
        · omega
      unfold ckK
      rw [qif_t z, qif_t (Or.inr (Or.inr (Or.inr z))), qif_t ⟨z, hv⟩]
    · unfold ckK
      rw [hsk] at k6 k7
      rw [qif_f z, qif_f (fun y => by rcases y with y | y | y | y; exact k6 y; exact k7 y; exact hno (Or.inl (by rw [hsk]; exact y)); exact z y)]
  have hf : (oneS B N s).2.1 ≠ 0 := by rw [hon]; exact nER_0
  unfold seS
  rw [qif_f (fun z => z h), qif_f (fun z => k6 z.2)]
  unfold seX
  rw [e6, e7, seL_e (fun z => hf z.1)]
  show (oneS B N s).2 = _
  rw [hon, hk, hsk]
theorem ckK_3 {L p : Nat} (hL : L < 24) : ckK B N L p ≠ 3 := by
  unfold ckK
  by_cases a : kd B N p = 6 ∨ kd B N p = 7 ∨ kd B N p = 8 ∨ kd B N p = 2
  · rw [qif_t a]
    by_cases b : kd B N p = 2 ∧ vl B N p ≥ 8
    · rw [qif_t b]; decide
    · rw [qif_f b, qif_f (by omega)]; decide
  · rw [qif_f a]; decide
theorem ckK_bd {L p : Nat} : ckK B N L p = 0 ∨ ckK B N L p = 1 ∨ ckK B N L p = 2 ∨ ckK B N L p = 3 := by
  unfold ckK
  by_cases a : kd B N p = 6 ∨ kd B N p = 7 ∨ kd B N p = 8 ∨ kd B N p = 2
  · rw [qif_t a]
    by_cases b : kd B N p = 2 ∧ vl B N p ≥ 8
    · rw [qif_t b]; omega
    · rw [qif_f b]
      by_cases q : L = 24
      · rw [qif_t q]; omega
      · rw [qif_f q]; omega
  · rw [qif_f a]; omega
/-- with room for a rule the line's check says no more than the line -/
theorem lp_ln (ha : s.1 ≤ N) (hsk : sk B N s.1 = s.1) (h : s.2.1 = 0) {L : Nat} (hL : L < 24) : (lpS B N L s).2 = (lnS B N s).2 ∧ ((lpS B N L s).2.1 = 0 → lpS B N L s = lnS B N s) := by
  have hb := ckK_bd (B := B) (N := N) (L := L) (p := s.1)
  have h3 := ckK_3 (B := B) (N := N) (p := s.1) hL
  unfold lpS
  by_cases z : ckK B N L s.1 = 0
  · rw [qif_f (fun y => y z)]; exact ⟨rfl, fun _ => rfl⟩
  · rw [qif_t z]
    have e := se_bad ha hsk h (L := L) (by omega)
    rw [ln_1 (by rw [e]; exact z), e]
    exact ⟨rfl, fun y => absurd y z⟩
theorem rdP_cg {F F' G G' : Nat → Nat → Int} {p : Nat} (h : rdP F G B N p) (e5 : F' 160 5 = F 160 5) (e6 : F' 160 6 = F 160 6) (e1 : G' 162 = G 162) (e2 : G' 163 = G 163) (e3 : G' 164 = G 164) : rdP F' G' B N p := by
  obtain ⟨t, c, h1, ⟨h2, h3⟩, h4, h7⟩ := h
  refine ⟨t, c, h1, ⟨fun j hj => ?_, h3⟩, e5.trans h4, e6.trans h7⟩
  rw [e1, e2, e3]; exact h2 j hj
end LineWords
set_option maxRecDepth 20000 in
set_option maxHeartbeats 4000000 in
theorem c_canBegin {h : qH} {F G : Nat → Nat → Int} {B : Nat → Int} {N p : Nat} (hP : rdP F G B N p) : qEx M_X4_canBeginRule 0 [qR 160] [] (xput h F G) (some (qI (qb ((6 ≤ kd B N p ∧ kd B N p ≤ 8) ∨ (kd B N p = 2 ∧ vl B N p ≤ 7))))) (xput h F G) := by
  refine q_gen (fun r hr er eh => ?_)
  obtain ⟨t, c, ⟨htc, htp⟩, hT, h5, h6⟩ := id hP
  have hc9 := hT.2.2.2
  have htt := hT.1 t htc
  rw [htp] at htt
  refine z_aload_n d_X4_canBeginRule_0 rfl rfl ?_
  refine z_getf (v := qI ((F 160) 6)) d_X4_canBeginRule_1 fl_X4_31 (xput_ob (c := (F 160)) xi_160 rfl (xsh_4 xo_160)) rfl ?_
  refine z_eq rfl (qc (qi h6) rfl) rfl ?_
  refine z_bipush d_X4_canBeginRule_4 (by decide) ?_
  refine z_bipush d_X4_canBeginRule_6 (by decide) ?_
  refine z_cs (M1 := M_X11_isWithin) d_X4_canBeginRule_8 ls_X4_59 k_X11_isWithin [qI (kd B N p), qI 6, qI 8] rfl rfl (Nat.le_of_ble_eq_true rfl) (by decide) (by decide) (Nat.le_of_ble_eq_true rfl) (c_isWithin (kd B N p) 6 8) ?_
  refine z_ifneB 36 d_X4_canBeginRule_11 (by decide) (fun q11 => ?_) (fun q11 => ?_)
  · refine z_iconst d_X4_canBeginRule_36 (by decide) ?_
    refine z_goto 41 d_X4_canBeginRule_37 (by decide) ?_
    exact z_zret d_X4_canBeginRule_41 rfl (by first | exact qb_01 _ | decide | omega) (qer er (qb_t (Or.inl q11))) eh
  · refine z_aload_n d_X4_canBeginRule_14 rfl rfl ?_
    refine z_getf (v := qI ((F 160) 6)) d_X4_canBeginRule_15 fl_X4_31 (xput_ob (c := (F 160)) xi_160 rfl (xsh_4 xo_160)) rfl ?_
    refine z_eq rfl (qc (qi h6) rfl) rfl ?_
    refine z_iconst d_X4_canBeginRule_18 (by decide) ?_
    refine z_icmp_ne 40 d_X4_canBeginRule_19 (by decide) (fun q19 => ?_) (fun q19 => ?_)
    · refine z_iconst d_X4_canBeginRule_40 (by decide) ?_
      exact z_zret d_X4_canBeginRule_41 rfl (by first | exact qb_01 _ | decide | omega) (qer er (qb_f (fun z => by rcases z with z | z; exact q11 z; exact q19 z.1))) eh
    · refine z_aload_n d_X4_canBeginRule_22 rfl rfl ?_
      refine z_getf (v := qR 164) d_X4_canBeginRule_23 fl_X4_25 (xput_ob (c := (F 160)) xi_160 rfl (xsh_4 xo_160)) rfl ?_
      refine z_aload_n d_X4_canBeginRule_26 rfl rfl ?_
      refine z_getf (v := qI ((F 160) 5)) d_X4_canBeginRule_27 fl_X4_28 (xput_ob (c := (F 160)) xi_160 rfl (xsh_4 xo_160)) rfl ?_
      refine z_eq rfl (qc (qi h5) rfl) rfl ?_
      refine z_ild t d_X4_canBeginRule_30 (xput_ar (g := (G 164)) xa_164 rfl) rfl (by omega) ?_
      refine z_eq rfl (qc (qi (show ((G 164) t) = (vl B N p) from htt.2.2 (Classical.not_not.mp q19))) rfl) rfl ?_
      refine z_bipush d_X4_canBeginRule_31 (by decide) ?_
      refine z_icmp_gt 40 d_X4_canBeginRule_33 (by decide) (fun q33 => ?_) (fun q33 => ?_)
      · refine z_iconst d_X4_canBeginRule_40 (by decide) ?_
        exact z_zret d_X4_canBeginRule_41 rfl (by first | exact qb_01 _ | decide | omega) (qer er (qb_f (fun z => by rcases z with z | z; exact q11 z; omega))) eh
      · refine z_iconst d_X4_canBeginRule_36 (by decide) ?_
        refine z_goto 41 d_X4_canBeginRule_37 (by decide) ?_
        exact z_zret d_X4_canBeginRule_41 rfl (by first | exact qb_01 _ | decide | omega) (qer er (qb_t (Or.inr ⟨Classical.not_not.mp q19, by omega⟩))) eh
set_option maxRecDepth 20000 in
set_option maxHeartbeats 4000000 in
theorem c_rrFull {h : qH} {F G : Nat → Nat → Int} {B : Nat → Int} {N : Nat} (s : pS) (hP : rdP F G B N s.1) (ha : s.1 ≤ N) (hsk : sk B N s.1 = s.1) (hs : s.2.1 = 0) (hN : N ≤ 400) (hL : F 165 4 = 24) (hcb : (6 ≤ kd B N s.1 ∧ kd B N s.1 ≤ 8) ∨ (kd B N s.1 = 2 ∧ vl B N s.1 ≤ 7)) : ∃ F' G', ((∀ a, a ≠ 160 → (a < 165 ∨ 169 < a) → F' a = F a) ∧ (∀ k, k < 5 ∨ 8 < k → F' 160 k = F 160 k) ∧ (∀ a, (a < 165 ∨ 169 < a) → G' a = G a) ∧ rdE F' 3 (s.1 : Int)) ∧ qEx M_X4_readRule 0 [qR 160, qU, qU, qU, qU] [] (xput h F G) (some (qI 0)) (xput h F' G') := by
  refine x_in (fun Q hQ => ?_)
  refine qy (fun _ _ k9 => z_aload_n d_X4_readRule_0 rfl rfl k9) ?_
  refine qy (fun _ _ k9 => z_getf (v := qR 165) d_X4_readRule_1 fl_X4_43 (xput_ob (c := (F 160)) xi_160 rfl (xsh_4 xo_160)) rfl k9) ?_
  refine qy (fun _ _ k9 => z_getf (v := qI ((F 165) 4)) d_X4_readRule_4 fl_X4_124 (xput_ob (c := (F 165)) xi_165 rfl (xsh_2 xo_165)) rfl k9) ?_
  refine qy (fun _ _ k9 => z_eq rfl (qc (qi hL) rfl) rfl k9) ?_
  refine qy (fun _ _ k9 => z_bipush d_X4_readRule_7 (by decide) k9) ?_
  refine qy2 (fun _ _ => z_icmp_lt 25 d_X4_readRule_9 (by decide)) (fun hc1 => absurd hc1 (by decide)) (fun hc1 => ?_)
  refine qy (fun _ _ k9 => z_aload_n d_X4_readRule_12 rfl rfl k9) ?_
  refine qy (fun _ _ k9 => z_cv (M1 := M_X4_canBeginRule) d_X4_readRule_13 lv_X4_127 k_X4_canBeginRule [] rfl rfl (xput_ob (c := (F 160)) xi_160 rfl (xsh_4 xo_160)) ⟨_, _, rfl⟩ (Nat.le_of_ble_eq_true rfl) (by decide) (by decide) (Nat.le_of_ble_eq_true rfl) (c_canBegin hP) k9) ?_
  refine qy2n (fun _ _ => z_ifeqB 25 d_X4_readRule_16 (by decide)) (fun hc2 => absurd hc2 (by exact fun z => z hcb)) (fun hc2 => ?_)
  refine qy (fun _ _ k9 => z_aload_n d_X4_readRule_19 rfl rfl k9) ?_
  refine qy (fun _ _ k9 => z_iconst d_X4_readRule_20 (by decide) k9) ?_
  obtain ⟨F1, G1, ⟨hg1, hf1, he1, hp1⟩, hx1⟩ := (by obtain ⟨F9, z9⟩ := c_refuse (h := h) (F := F) (G := G) 3 hP; exact ⟨F9, G, ⟨rfl, z9.1⟩, z9.2⟩ : ∃ F9 G9, (G9 = G ∧ (rdQ F F9 ∧ rdE F9 3 (s.1 : Int) ∧ rdP F9 G B N s.1)) ∧ qEx M_X4_refuse 0 [qR 160, qI 3] [] (xput h F G) (some (qI 0)) (xput h F9 G9))
  refine qy (fun _ _ k9 => z_cv (M1 := M_X4_refuse) d_X4_readRule_21 lv_X4_111 k_X4_refuse [qI 3] rfl rfl (xput_ob (c := (F 160)) xi_160 rfl (xsh_4 xo_160)) ⟨_, _, rfl⟩ (Nat.le_of_ble_eq_true rfl) (by decide) (by decide) (Nat.le_of_ble_eq_true rfl) hx1 k9) ?_
  exact y_ret (hQ F1 G1 (⟨fun a h1 _ => hf1.1 a h1, hf1.2, fun a _ => congrFun hg1 a, he1⟩)) (z_zret d_X4_readRule_24 rfl (by first | exact qb_01 _ | decide | omega) rfl rfl)
theorem lnA_le {B : Nat → Int} {N : Nat} {s : pS} (h : s.1 ≤ N) : (lnA B N s).1 ≤ N := gnS_le (by decide) (seS_le (seS_le (seS_le h)))
set_option maxRecDepth 20000 in
set_option maxHeartbeats 4000000 in
theorem c_rrChain {h : qH} {F G : Nat → Nat → Int} {B : Nat → Int} {N L : Nat} {R : Nat → Int} (s : pS) (hP : rdP F G B N s.1) (ha : s.1 ≤ N) (hsk : sk B N s.1 = s.1) (hs : s.2.1 = 0) (hN : N ≤ 400) (hR : pgR F G 165 R (L : Int)) (hZ : pgZ G 165 (L : Int)) (hL2 : L < 24) : ∃ F' G', ((∀ a, a ≠ 160 → (a < 165 ∨ 169 < a) → F' a = F a) ∧ (∀ k, k < 5 ∨ 8 < k → F' 160 k = F 160 k) ∧ (∀ a, (a < 165 ∨ 169 < a) → G' a = G a) ∧ ((lnS B N s).2.1 = 0 → rdK F F' ∧ rdP F' G' B N (sk B N (lnS B N s).1) ∧ pgR F' G' 165 (row4 R (4 * L) (seV B N s) (seV B N (seS B N s)) (seV B N (seS B N (seS B N s))) (lnM B N s)) ((L : Int) + 1) ∧ pgZ G' 165 ((L : Int) + 1)) ∧ ((lnS B N s).2.1 ≠ 0 → rdE F' (lnS B N s).2.1 (lnS B N s).2.2)) ∧ qEx M_X4_readRule 0 [qR 160, qU, qU, qU, qU] [] (xput h F G) (some (qI (qb ((lnS B N s).2.1 = 0)))) (xput h F' G') := by
  refine x_in (fun Q hQ => ?_)
  refine qy (fun _ _ k9 => z_aload_n d_X4_readRule_0 rfl rfl k9) ?_
  refine qy (fun _ _ k9 => z_getf (v := qR 165) d_X4_readRule_1 fl_X4_43 (xput_ob (c := (F 160)) xi_160 rfl (xsh_4 xo_160)) rfl k9) ?_
  refine qy (fun _ _ k9 => z_getf (v := qI ((F 165) 4)) d_X4_readRule_4 fl_X4_124 (xput_ob (c := (F 165)) xi_165 rfl (xsh_2 xo_165)) rfl k9) ?_
  refine qy (fun _ _ k9 => z_eq rfl (qc (qi hR.1) rfl) rfl k9) ?_
  refine qy (fun _ _ k9 => z_bipush d_X4_readRule_7 (by decide) k9) ?_
  refine qy2 (fun _ _ => z_icmp_lt 25 d_X4_readRule_9 (by decide)) (fun hc1 => ?_) (fun hc1 => absurd hc1 (by omega))
  refine qy (fun _ _ k9 => z_aload_n d_X4_readRule_25 rfl rfl k9) ?_
  obtain ⟨F1, ⟨hf1, hy1, hn1⟩, hx1⟩ := c_passPat (h := h) (F := F) (G := G) s (by rw [hsk]; exact hP) ha hs hN
  refine qy (fun _ _ k9 => z_cv (M1 := M_X4_passPattern) d_X4_readRule_26 lv_X4_130 k_X4_passPattern [] rfl rfl (xput_ob (c := (F 160)) xi_160 rfl (xsh_4 xo_160)) ⟨_, _, rfl⟩ (Nat.le_of_ble_eq_true rfl) (by decide) (by decide) (Nat.le_of_ble_eq_true rfl) hx1 k9) ?_
  refine qy (fun _ _ k9 => z_istore_n (ls' := [qR 160, qI (qif ((seS B N s).2.1 = 0) (seV B N s) (-1)), qU, qU, qU]) d_X4_readRule_29 rfl (by decide) rfl k9) ?_
  refine qy (fun _ _ k9 => z_iload_n d_X4_readRule_30 rfl rfl k9) ?_
  refine qy (fun _ _ k9 => z_iconst d_X4_readRule_31 (by decide) k9) ?_
  refine qy2 (fun _ _ => z_icmp_ne 39 d_X4_readRule_32 (by decide)) (fun q32 => ?_) (fun q32 => ?_)
  · have h1 : (seS B N s).2.1 = 0 := Classical.byContradiction (fun z => q32 (qif_f z))
    refine qy (fun _ _ k9 => z_eq (qc rfl (qc (qi (show (qif ((seS B N s).2.1 = 0) (seV B N s) (-1)) = (seV B N s) from qif_t h1)) rfl)) rfl rfl k9) ?_
    refine qy (fun _ _ k9 => z_aload_n d_X4_readRule_39 rfl rfl k9) ?_
    obtain ⟨F2, ⟨hf2, hy2, hn2⟩, hx2⟩ := c_passPat (h := h) (F := F1) (G := G) (seS B N s) (hy1 h1).2.1 (seS_le ha) h1 hN
    refine qy (fun _ _ k9 => z_cv (M1 := M_X4_passPattern) d_X4_readRule_40 lv_X4_130 k_X4_passPattern [] rfl rfl (xput_ob (c := (F1 160)) xi_160 rfl (xsh_4 xo_160)) ⟨_, _, rfl⟩ (Nat.le_of_ble_eq_true rfl) (by decide) (by decide) (Nat.le_of_ble_eq_true rfl) hx2 k9) ?_
    refine qy (fun _ _ k9 => z_istore_n (ls' := [qR 160, qI (seV B N s), qI (qif ((seS B N (seS B N s)).2.1 = 0) (seV B N (seS B N s)) (-1)), qU, qU]) d_X4_readRule_43 rfl (by decide) rfl k9) ?_
    refine qy (fun _ _ k9 => z_iload_n d_X4_readRule_44 rfl rfl k9) ?_
    refine qy (fun _ _ k9 => z_iconst d_X4_readRule_45 (by decide) k9) ?_
    refine qy2 (fun _ _ => z_icmp_ne 53 d_X4_readRule_46 (by decide)) (fun q46 => ?_) (fun q46 => ?_)
    · have h2 : (seS B N (seS B N s)).2.1 = 0 := Classical.byContradiction (fun z => q46 (qif_f z))
      refine qy (fun _ _ k9 => z_eq (qc rfl (qc rfl (qc (qi (show (qif ((seS B N (seS B N s)).2.1 = 0) (seV B N (seS B N s)) (-1)) = (seV B N (seS B N s)) from qif_t h2)) rfl))) rfl rfl k9) ?_
      refine qy (fun _ _ k9 => z_aload_n d_X4_readRule_53 rfl rfl k9) ?_
      obtain ⟨F3, ⟨hf3, hy3, hn3⟩, hx3⟩ := c_passPat (h := h) (F := F2) (G := G) (seS B N (seS B N s)) (hy2 h2).2.1 (seS_le (seS_le ha)) h2 hN
      refine qy (fun _ _ k9 => z_cv (M1 := M_X4_passPattern) d_X4_readRule_54 lv_X4_130 k_X4_passPattern [] rfl rfl (xput_ob (c := (F2 160)) xi_160 rfl (xsh_4 xo_160)) ⟨_, _, rfl⟩ (Nat.le_of_ble_eq_true rfl) (by decide) (by decide) (Nat.le_of_ble_eq_true rfl) hx3 k9) ?_
      refine qy (fun _ _ k9 => z_istore_n (ls' := [qR 160, qI (seV B N s), qI (seV B N (seS B N s)), qI (qif ((seS B N (seS B N (seS B N s))).2.1 = 0) (seV B N (seS B N (seS B N s))) (-1)), qU]) d_X4_readRule_57 rfl (by decide) rfl k9) ?_
      refine qy (fun _ _ k9 => z_iload_n d_X4_readRule_58 rfl rfl k9) ?_
      refine qy (fun _ _ k9 => z_iconst d_X4_readRule_59 (by decide) k9) ?_
      refine qy2 (fun _ _ => z_icmp_eq 71 d_X4_readRule_60 (by decide)) (fun q60 => ?_) (fun q60 => ?_)
      · have g3 : (seS B N (seS B N (seS B N s))).2.1 ≠ 0 := fun z => by have e9 := q60; rw [qif_t z] at e9; have := (hy3 z).2.2; omega
        have gl : lnS B N s = (seS B N (seS B N (seS B N s))) := ln_3 g3
        refine qy (fun _ _ k9 => z_iconst d_X4_readRule_71 (by decide) k9) ?_
        exact y_ret (hQ F3 G (⟨fun a h1 _ => (rdQ_tr (rdQ_tr hf1 hf2) hf3).1 a h1, (rdQ_tr (rdQ_tr hf1 hf2) hf3).2, fun _ _ => rfl, fun z => absurd z (by rw [gl]; exact g3), fun _ => (by rw [gl]; exact hn3 g3)⟩)) (z_zret d_X4_readRule_72 rfl (by first | exact qb_01 _ | decide | omega) (qsi (qb_f (by rw [gl]; exact g3))) rfl)
      · have h3 : (seS B N (seS B N (seS B N s))).2.1 = 0 := Classical.byContradiction (fun z => q60 (qif_f z))
        refine qy (fun _ _ k9 => z_eq (qc rfl (qc rfl (qc rfl (qc (qi (show (qif ((seS B N (seS B N (seS B N s))).2.1 = 0) (seV B N (seS B N (seS B N s))) (-1)) = (seV B N (seS B N (seS B N s))) from qif_t h3)) rfl)))) rfl rfl k9) ?_
        refine qy (fun _ _ k9 => z_aload_n d_X4_readRule_63 rfl rfl k9) ?_
        refine qy (fun _ _ k9 => z_iconst d_X4_readRule_64 (by decide) k9) ?_
        obtain ⟨F4, ⟨hf4, hy4, hn4⟩, hx4⟩ := c_pass (h := h) (F := F3) (G := G) 5 (hy3 h3).2.1 (by decide)
        refine qy (fun _ _ k9 => z_cv (M1 := M_X4_pass) d_X4_readRule_65 lv_X4_134 k_X4_pass [qI 5] rfl rfl (xput_ob (c := (F3 160)) xi_160 rfl (xsh_4 xo_160)) ⟨_, _, rfl⟩ (Nat.le_of_ble_eq_true rfl) (by decide) (by decide) (Nat.le_of_ble_eq_true rfl) hx4 k9) ?_
        refine qy2 (fun _ _ => z_ifneB 73 d_X4_readRule_68 (by decide)) (fun q68 => ?_) (fun q68 => ?_)
        · have e4 : (lnA B N s) = (sk B N (seS B N (seS B N (seS B N s))).1 + 1, (seS B N (seS B N (seS B N s))).2) := (gn_ok (Or.inr (Or.inr ⟨rfl, rfl⟩)) h3 q68).1
          have h4 : (lnA B N s).2.1 = 0 := by rw [e4]; exact h3
          have hP4 : rdP F4 G B N (sk B N (lnA B N s).1) := by rw [e4]; show rdP F4 G B N (sk B N (sk B N (seS B N (seS B N (seS B N s))).1 + 1)); rw [← (gn_ok (Or.inr (Or.inr ⟨rfl, rfl⟩)) h3 q68).2]; exact (hy4 q68).2
          have hp4 := rdP_sp hP4
          refine qy (fun _ _ k9 => z_aload_n d_X4_readRule_73 rfl rfl k9) ?_
          refine qy (fun _ _ k9 => z_bipush d_X4_readRule_74 (by decide) k9) ?_
          refine qy (fun _ _ k9 => z_bipush d_X4_readRule_76 (by decide) k9) ?_
          obtain ⟨F5, ⟨hf5, hy5, hn5⟩, hx5⟩ := c_passOr (h := h) (F := F4) (G := G) 9 8 hP4 (by decide) (by decide)
          refine qy (fun _ _ k9 => z_cv (M1 := M_X4_passOr) d_X4_readRule_78 lv_X4_137 k_X4_passOr [qI 9, qI 8] rfl rfl (xput_ob (c := (F4 160)) xi_160 rfl (xsh_4 xo_160)) ⟨_, _, rfl⟩ (Nat.le_of_ble_eq_true rfl) (by decide) (by decide) (Nat.le_of_ble_eq_true rfl) hx5 k9) ?_
          refine qy (fun _ _ k9 => z_istore (ls' := [qR 160, qI (seV B N s), qI (seV B N (seS B N s)), qI (seV B N (seS B N (seS B N s))), qI (poV B N 9 8 (sk B N (lnA B N s).1))]) d_X4_readRule_81 (by decide) rfl k9) ?_
          refine qy (fun _ _ k9 => z_iload d_X4_readRule_83 rfl k9) ?_
          refine qy (fun _ _ k9 => z_iconst d_X4_readRule_85 (by decide) k9) ?_
          refine qy2 (fun _ _ => z_icmp_eq 97 d_X4_readRule_86 (by decide)) (fun q86 => ?_) (fun q86 => ?_)
          · have hnk : ¬ poK B N 9 (sk B N (lnA B N s).1) := (poV_1 hp4.1 (by decide)).mp q86
            have e5 : (lnB B N s).2 = (nER B N (sk B N (lnA B N s).1), ((sk B N (lnA B N s).1 : Nat) : Int)) := po_no (lnA_le ha) h4 hnk
            have gl2 : (lnS B N s).2 = (nER B N (sk B N (lnA B N s).1), ((sk B N (lnA B N s).1 : Nat) : Int)) := by unfold lnS; rw [gnS_f (by rw [e5]; exact nER_0)]; exact e5
            have gf : ¬ (lnS B N s).2.1 = 0 := by rw [gl2]; exact nER_0
            refine qy (fun _ _ k9 => z_iconst d_X4_readRule_97 (by decide) k9) ?_
            exact y_ret (hQ F5 G (⟨fun a h1 _ => (rdQ_tr (rdQ_tr (rdQ_tr (rdQ_tr hf1 hf2) hf3) hf4) hf5).1 a h1, (rdQ_tr (rdQ_tr (rdQ_tr (rdQ_tr hf1 hf2) hf3) hf4) hf5).2, fun _ _ => rfl, fun z => absurd z gf, fun _ => (by rw [gl2]; exact hn5 hnk)⟩)) (z_zret d_X4_readRule_98 rfl (by first | exact qb_01 _ | decide | omega) (qsi (qb_f gf)) rfl)
          · have hok : poK B N 9 (sk B N (lnA B N s).1) := Classical.byContradiction (fun z => q86 ((poV_1 hp4.1 (by decide)).mpr z))
            have e5 : (lnB B N s) = (en B N (sk B N (lnA B N s).1), (lnA B N s).2) := po_ok (lnA_le ha) h4 hok
            have h5 : (lnB B N s).2.1 = 0 := by rw [e5]; exact h4
            have hP5 : rdP F5 G B N (sk B N (lnB B N s).1) := by rw [e5]; exact (hy5 hok).2
            have em : poV B N 9 8 (sk B N (lnA B N s).1) = lnM B N s := (po_v (lnA_le ha) h4 hok).symm
            refine qy (fun _ _ k9 => z_eq (qc rfl (qc rfl (qc rfl (qc rfl (qc (qi (show (poV B N 9 8 (sk B N (lnA B N s).1)) = (lnM B N s) from em)) rfl))))) rfl rfl k9) ?_
            refine qy (fun _ _ k9 => z_aload_n d_X4_readRule_89 rfl rfl k9) ?_
            refine qy (fun _ _ k9 => z_iconst d_X4_readRule_90 (by decide) k9) ?_
            obtain ⟨F6, ⟨hf6, hy6, hn6⟩, hx6⟩ := c_pass (h := h) (F := F5) (G := G) 3 hP5 (by decide)
            refine qy (fun _ _ k9 => z_cv (M1 := M_X4_pass) d_X4_readRule_91 lv_X4_134 k_X4_pass [qI 3] rfl rfl (xput_ob (c := (F5 160)) xi_160 rfl (xsh_4 xo_160)) ⟨_, _, rfl⟩ (Nat.le_of_ble_eq_true rfl) (by decide) (by decide) (Nat.le_of_ble_eq_true rfl) hx6 k9) ?_
            refine qy2 (fun _ _ => z_ifneB 99 d_X4_readRule_94 (by decide)) (fun q94 => ?_) (fun q94 => ?_)
            · have e6 : (lnS B N s) = (sk B N (lnB B N s).1 + 1, (lnB B N s).2) := (gn_ok (Or.inl ⟨rfl, rfl⟩) h5 q94).1
              have h6 : (lnS B N s).2.1 = 0 := by rw [e6]; exact h5
              have hP6 : rdP F6 G B N (sk B N (lnS B N s).1) := by rw [e6]; show rdP F6 G B N (sk B N (sk B N (lnB B N s).1 + 1)); rw [← (gn_ok (Or.inl ⟨rfl, rfl⟩) h5 q94).2]; exact (hy6 q94).2
              have hfr6 : ∀ a, a ≠ 160 → F6 a = F a := (rdQ_tr (rdQ_tr (rdQ_tr (rdQ_tr (rdQ_tr hf1 hf2) hf3) hf4) hf5) hf6).1
              refine qy (fun _ _ k9 => z_aload_n d_X4_readRule_99 rfl rfl k9) ?_
              refine qy (fun _ _ k9 => z_getf (v := qR 165) d_X4_readRule_100 fl_X4_43 (xput_ob (c := (F6 160)) xi_160 rfl (xsh_4 xo_160)) rfl k9) ?_
              refine qy (fun _ _ k9 => z_iload_n d_X4_readRule_103 rfl rfl k9) ?_
              refine qy (fun _ _ k9 => z_iload_n d_X4_readRule_104 rfl rfl k9) ?_
              refine qy (fun _ _ k9 => z_iload_n d_X4_readRule_105 rfl rfl k9) ?_
              refine qy (fun _ _ k9 => z_iload d_X4_readRule_106 rfl k9) ?_
              obtain ⟨F7, G7, ⟨hv7, hr7, hz7⟩, hx7⟩ := c_pgAdd (h := h) (F := F6) (G := G) (L := L) (R := R) (seV B N s) (seV B N (seS B N s)) (seV B N (seS B N (seS B N s))) (lnM B N s) (pgR_cg hR (hfr6 165 (by decide) ▸ rfl) (fun _ _ => rfl) (fun _ _ => rfl) (fun _ _ => rfl) (fun _ _ => rfl)) hZ hL2
              refine qy (fun _ _ k9 => z_cv0 (M1 := M_X2_add) d_X4_readRule_108 lv_X4_140 k_X2_add [qI (seV B N s), qI (seV B N (seS B N s)), qI (seV B N (seS B N (seS B N s))), qI (lnM B N s)] rfl rfl (xput_ob (c := (F6 165)) xi_165 rfl (xsh_2 xo_165)) ⟨_, _, rfl⟩ (Nat.le_of_ble_eq_true rfl) (by decide) (by decide) (Nat.le_of_ble_eq_true rfl) hx7 k9) ?_
              refine qy (fun _ _ k9 => z_iconst d_X4_readRule_111 (by decide) k9) ?_
              exact y_ret (hQ F7 G7 (⟨fun a h1 h2 => (xfr_F hv7 h2).trans (hfr6 a h1), fun k hk => (by rw [xfr_F hv7 (by decide)]; exact (rdQ_tr (rdQ_tr (rdQ_tr (rdQ_tr (rdQ_tr hf1 hf2) hf3) hf4) hf5) hf6).2 k hk), fun a h2 => xfr_G hv7 h2, fun _ => ⟨⟨(by rw [xfr_F hv7 (by decide)]; exact (rdK_tr (rdK_tr (rdK_tr (rdK_tr (rdK_tr (hy1 h1).1 (hy2 h2).1) (hy3 h3).1) (hy4 q68).1) (hy5 hok).1) (hy6 q94).1).1), (by rw [xfr_F hv7 (by decide)]; exact (rdK_tr (rdK_tr (rdK_tr (rdK_tr (rdK_tr (hy1 h1).1 (hy2 h2).1) (hy3 h3).1) (hy4 q68).1) (hy5 hok).1) (hy6 q94).1).2)⟩, rdP_cg hP6 (by rw [xfr_F hv7 (by decide)]) (by rw [xfr_F hv7 (by decide)]) (xfr_G hv7 (by decide)) (xfr_G hv7 (by decide)) (xfr_G hv7 (by decide)), hr7, hz7⟩, fun z => absurd h6 z⟩)) (z_zret d_X4_readRule_112 rfl (by first | exact qb_01 _ | decide | omega) (qsi (qb_t h6)) rfl)
            · have gl2 : (lnS B N s).2 = (1, ((sk B N (lnB B N s).1 : Nat) : Int)) := gn_no (Or.inl ⟨rfl, rfl⟩) h5 q94
              have gf : ¬ (lnS B N s).2.1 = 0 := by rw [gl2]; show ¬ ((1 : Int) = 0); decide
              refine qy (fun _ _ k9 => z_iconst d_X4_readRule_97 (by decide) k9) ?_
              exact y_ret (hQ F6 G (⟨fun a h1 _ => (rdQ_tr (rdQ_tr (rdQ_tr (rdQ_tr (rdQ_tr hf1 hf2) hf3) hf4) hf5) hf6).1 a h1, (rdQ_tr (rdQ_tr (rdQ_tr (rdQ_tr (rdQ_tr hf1 hf2) hf3) hf4) hf5) hf6).2, fun _ _ => rfl, fun z => absurd z gf, fun _ => (by rw [gl2]; exact hn6 q94)⟩)) (z_zret d_X4_readRule_98 rfl (by first | exact qb_01 _ | decide | omega) (qsi (qb_f gf)) rfl)
        · have gl2 : (lnS B N s).2 = (1, ((sk B N (seS B N (seS B N (seS B N s))).1 : Nat) : Int)) := by rw [lnA_f (by unfold lnA; rw [gn_no (Or.inr (Or.inr ⟨rfl, rfl⟩)) h3 q68]; show (1 : Int) ≠ 0; decide)]; exact gn_no (Or.inr (Or.inr ⟨rfl, rfl⟩)) h3 q68
          have gf : ¬ (lnS B N s).2.1 = 0 := by rw [gl2]; show ¬ ((1 : Int) = 0); decide
          refine qy (fun _ _ k9 => z_iconst d_X4_readRule_71 (by decide) k9) ?_
          exact y_ret (hQ F4 G (⟨fun a h1 _ => (rdQ_tr (rdQ_tr (rdQ_tr hf1 hf2) hf3) hf4).1 a h1, (rdQ_tr (rdQ_tr (rdQ_tr hf1 hf2) hf3) hf4).2, fun _ _ => rfl, fun z => absurd z gf, fun _ => (by rw [gl2]; exact hn4 q68)⟩)) (z_zret d_X4_readRule_72 rfl (by first | exact qb_01 _ | decide | omega) (qsi (qb_f gf)) rfl)
    · refine qy (fun _ _ k9 => z_iconst d_X4_readRule_49 (by decide) k9) ?_
      refine qy (fun _ _ k9 => z_goto 57 d_X4_readRule_50 (by decide) k9) ?_
      refine qy (fun _ _ k9 => z_istore_n (ls' := [qR 160, qI (seV B N s), qI (qif ((seS B N (seS B N s)).2.1 = 0) (seV B N (seS B N s)) (-1)), qI (-1), qU]) d_X4_readRule_57 rfl (by decide) rfl k9) ?_
      refine qy (fun _ _ k9 => z_iload_n d_X4_readRule_58 rfl rfl k9) ?_
      refine qy (fun _ _ k9 => z_iconst d_X4_readRule_59 (by decide) k9) ?_
      refine qy2 (fun _ _ => z_icmp_eq 71 d_X4_readRule_60 (by decide)) (fun q60 => ?_) (fun q60 => absurd (by decide) q60)
      have g2 : (seS B N (seS B N s)).2.1 ≠ 0 := fun z => by have e9 := (Classical.not_not.mp q46); rw [qif_t z] at e9; have := (hy2 z).2.2; omega
      have gl : lnS B N s = (seS B N (seS B N s)) := ln_2 g2
      refine qy (fun _ _ k9 => z_iconst d_X4_readRule_71 (by decide) k9) ?_
      exact y_ret (hQ F2 G (⟨fun a h1 _ => (rdQ_tr hf1 hf2).1 a h1, (rdQ_tr hf1 hf2).2, fun _ _ => rfl, fun z => absurd z (by rw [gl]; exact g2), fun _ => (by rw [gl]; exact hn2 g2)⟩)) (z_zret d_X4_readRule_72 rfl (by first | exact qb_01 _ | decide | omega) (qsi (qb_f (by rw [gl]; exact g2))) rfl)
  · refine qy (fun _ _ k9 => z_iconst d_X4_readRule_35 (by decide) k9) ?_
    refine qy (fun _ _ k9 => z_goto 43 d_X4_readRule_36 (by decide) k9) ?_
    refine qy (fun _ _ k9 => z_istore_n (ls' := [qR 160, qI (qif ((seS B N s).2.1 = 0) (seV B N s) (-1)), qI (-1), qU, qU]) d_X4_readRule_43 rfl (by decide) rfl k9) ?_
    refine qy (fun _ _ k9 => z_iload_n d_X4_readRule_44 rfl rfl k9) ?_
    refine qy (fun _ _ k9 => z_iconst d_X4_readRule_45 (by decide) k9) ?_
    refine qy2 (fun _ _ => z_icmp_ne 53 d_X4_readRule_46 (by decide)) (fun q46 => absurd q46 (by decide)) (fun q46 => ?_)
    refine qy (fun _ _ k9 => z_iconst d_X4_readRule_49 (by decide) k9) ?_
    refine qy (fun _ _ k9 => z_goto 57 d_X4_readRule_50 (by decide) k9) ?_
    refine qy (fun _ _ k9 => z_istore_n (ls' := [qR 160, qI (qif ((seS B N s).2.1 = 0) (seV B N s) (-1)), qI (-1), qI (-1), qU]) d_X4_readRule_57 rfl (by decide) rfl k9) ?_
    refine qy (fun _ _ k9 => z_iload_n d_X4_readRule_58 rfl rfl k9) ?_
    refine qy (fun _ _ k9 => z_iconst d_X4_readRule_59 (by decide) k9) ?_
    refine qy2 (fun _ _ => z_icmp_eq 71 d_X4_readRule_60 (by decide)) (fun q60 => ?_) (fun q60 => absurd (by decide) q60)
    have g1 : (seS B N s).2.1 ≠ 0 := fun z => by have e9 := (Classical.not_not.mp q32); rw [qif_t z] at e9; have := (hy1 z).2.2; omega
    have gl : lnS B N s = (seS B N s) := ln_1 g1
    refine qy (fun _ _ k9 => z_iconst d_X4_readRule_71 (by decide) k9) ?_
    exact y_ret (hQ F1 G (⟨fun a h1 _ => hf1.1 a h1, hf1.2, fun _ _ => rfl, fun z => absurd z (by rw [gl]; exact g1), fun _ => (by rw [gl]; exact hn1 g1)⟩)) (z_zret d_X4_readRule_72 rfl (by first | exact qb_01 _ | decide | omega) (qsi (qb_f (by rw [gl]; exact g1))) rfl)
