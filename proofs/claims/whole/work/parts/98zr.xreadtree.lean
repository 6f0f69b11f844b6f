/-! ===== CONTRACTS: the reader: readPlanLine (whole), readPlan; isInTree, readTreeLine, readTree ===== -/
theorem c_planLine {h : qH} {F G : Nat → Nat → Int} {B : Nat → Int} {N L : Nat} (s : pS) (hP : rdP F G B N s.1) (ha : s.1 ≤ N) (hsk : sk B N s.1 = s.1) (hs : s.2.1 = 0) (hL : F 170 2 = (L : Int)) (hL2 : L ≤ 16) : ∃ F' G', ((∀ a, a ≠ 160 → a ≠ 170 → F' a = F a) ∧ (∀ k, k < 5 ∨ 8 < k → F' 160 k = F 160 k) ∧ (∀ a, a ≠ 171 → G' a = G a) ∧ ((lqS B N L s).2.1 = 0 → L < 16 ∧ rdK F F' ∧ rdP F' G' B N (sk B N (lqS B N L s).1) ∧ F' 170 2 = (L : Int) + 1 ∧ G' 171 = row4 (G 171) (4 * L) (lqV B N s 0) (lqV B N s 1) (lqV B N s 2) (lqV B N s 3)) ∧ ((lqS B N L s).2.1 ≠ 0 → rdE F' (lqS B N L s).2.1 (lqS B N L s).2.2 ∧ F' 170 2 = F 170 2)) ∧ qEx M_X4_readPlanLine 0 [qR 160, qU, qU, qU, qU] [] (xput h F G) (some (qI (qb ((lqS B N L s).2.1 = 0)))) (xput h F' G') := by
  by_cases hk : kd B N s.1 = 10
  · by_cases hfu : L = 16
    · have e : lqS B N L s = (s.1, 3, (s.1 : Int)) := by unfold lqS ckP; rw [qif_t hk, qif_t hfu, qif_t (by decide)]
      obtain ⟨F1, ⟨h1, h2⟩, hx⟩ := c_plFull (h := h) hP ha hsk hs hL hL2 hk hfu
      refine ⟨F1, G, ⟨fun a z _ => h1.1 a z, h1.2, fun _ _ => rfl, fun z => ?_, fun _ => ?_⟩, ?_⟩
      · rw [e] at z; cases z
      · rw [e]; exact ⟨h2, congrFun (h1.1 170 (by decide)) 2⟩
      · rw [e, qb_f (fun z => absurd z (by first | exact (show ¬ ((3 : Int) = 0) by decide) | exact (show ¬ ((1 : Int) = 0) by decide)))]; exact hx
    · have e : lqS B N L s = plS B N s := by unfold lqS ckP; rw [qif_t hk, qif_f hfu, qif_f (by decide)]
      obtain ⟨F1, G1, ⟨h1, h2, h3, h4, h5⟩, hx⟩ := c_plChain (h := h) hP ha hsk hs hL hL2 hk (by omega)
      rw [e]
      exact ⟨F1, G1, ⟨h1, h2, h3, fun z => ⟨by omega, h4 z⟩, h5⟩, hx⟩
  · have e : lqS B N L s = (s.1, 1, (s.1 : Int)) := by unfold lqS ckP; rw [qif_f hk, qif_t (by decide)]
    obtain ⟨F1, ⟨h1, h2⟩, hx⟩ := c_plNot (h := h) hP ha hsk hs hL hL2 hk
    refine ⟨F1, G, ⟨fun a z _ => h1.1 a z, h1.2, fun _ _ => rfl, fun z => ?_, fun _ => ?_⟩, ?_⟩
    · rw [e] at z; cases z
    · rw [e]; exact ⟨h2, congrFun (h1.1 170 (by decide)) 2⟩
    · rw [e, qb_f (fun z => absurd z (by first | exact (show ¬ ((3 : Int) = 0) by decide) | exact (show ¬ ((1 : Int) = 0) by decide)))]; exact hx
set_option maxRecDepth 20000 in
set_option maxHeartbeats 4000000 in
theorem c_readPlan {h : qH} {F G : Nat → Nat → Int} {B : Nat → Int} {N : Nat} (hP : rdP F G B N (sk B N 0)) (hN : N ≤ 400) (hL0 : F 170 2 = 0) : ∃ F' G', ((∀ a, a ≠ 160 → a ≠ 170 → F' a = F a) ∧ (∀ k, k < 5 ∨ 8 < k → F' 160 k = F 160 k) ∧ (∀ a, a ≠ 171 → G' a = G a) ∧ ((pnS B N (pnJ B N)).2.1 = 0 → rdK F F' ∧ (pnJ B N) ≤ 16 ∧ F' 170 2 = ((pnJ B N) : Int) ∧ ∀ j, j < 4 * (pnJ B N) → G' 171 j = lqV B N (pnS B N (j / 4)) (j % 4)) ∧ ((pnS B N (pnJ B N)).2.1 ≠ 0 → rdE F' (pnS B N (pnJ B N)).2.1 (pnS B N (pnJ B N)).2.2 ∧ ∃ L : Nat, L ≤ 16 ∧ F' 170 2 = (L : Int))) ∧ qEx M_X4_readPlan 0 [qR 160, qU] [] (xput h F G) (some (qI (qb ((pnS B N (pnJ B N)).2.1 = 0)))) (xput h F' G') := by
  refine x_in (fun Q hQ => ?_)
  refine qy (fun _ _ k9 => z_iconst d_X4_readPlan_0 (by decide) k9) ?_
  refine qy (fun _ _ k9 => z_istore_n (ls' := [qR 160, qI 0]) d_X4_readPlan_1 rfl (by decide) rfl k9) ?_
  refine qy (fun _ _ k9 => z_eq (qc rfl (qc (qi (rfl)) rfl)) rfl rfl k9) (y_wh3 (fun (i : Nat) (Fa : Nat → Nat → Int) (Ga : Nat → Nat → Int) => 17 - i) (fun (i : Nat) (Fa : Nat → Nat → Int) (Ga : Nat → Nat → Int) => [qR 160, qI (i : Int)]) (fun (i : Nat) (Fa : Nat → Nat → Int) (Ga : Nat → Nat → Int) => (xput h Fa Ga)) (fun (i : Nat) (Fa : Nat → Nat → Int) (Ga : Nat → Nat → Int) => (i ≤ 16 ∧ (pnS B N i).2.1 = 0 ∧ ∀ k, k < i → gon N (pnS B N k)) ∧ ((∀ a, a ≠ 160 → a ≠ 170 → Fa a = F a) ∧ (∀ k, k < 5 ∨ 8 < k → Fa 160 k = F 160 k) ∧ (∀ a, a ≠ 171 → Ga a = G a)) ∧ rdK F Fa ∧ rdP Fa Ga B N (pnS B N i).1 ∧ Fa 170 2 = (i : Int) ∧ ∀ j, j < 4 * i → Ga 171 j = lqV B N (pnS B N (j / 4)) (j % 4)) 0 F G (⟨⟨by omega, rfl, fun k hk => absurd hk (by omega)⟩, ⟨fun _ _ _ => rfl, fun _ _ => rfl, fun _ _ => rfl⟩, rdK_rf F, hP, hL0, fun j hj => absurd hj (by omega)⟩) (fun i Fa Ga hp kk => ?_))
  obtain ⟨⟨hi, hs0, hgo⟩, hfa, hka, hPa, hLa, hrw⟩ := hp
  show qEy M_X4_readPlan 2 [qR 160, qI (i : Int)] [] (xput h Fa Ga) Q
  have hPa6 := hPa
  obtain ⟨_, _, _, _, _, hPa6⟩ := hPa6
  refine qy (fun _ _ k9 => z_iload_n d_X4_readPlan_2 rfl rfl k9) ?_
  refine qy (fun _ _ k9 => z_bipush d_X4_readPlan_3 (by decide) k9) ?_
  refine qy2 (fun _ _ => z_icmp_gt 30 d_X4_readPlan_5 (by decide)) (fun q5 => absurd q5 (by omega)) (fun q5 => ?_)
  refine qy (fun _ _ k9 => z_aload_n d_X4_readPlan_8 rfl rfl k9) ?_
  refine qy (fun _ _ k9 => z_getf (v := qI ((Fa 160) 6)) d_X4_readPlan_9 fl_X4_31 (xput_ob (c := (Fa 160)) xi_160 rfl (xsh_4 xo_160)) rfl k9) ?_
  refine qy (fun _ _ k9 => z_eq rfl (qc (qi hPa6) rfl) rfl k9) ?_
  refine qy2 (fun _ _ => z_if_eq 30 d_X4_readPlan_12 (by decide)) (fun q12 => ?_) (fun q12 => ?_)
  · have hng : ¬ gon N (pnS B N i) := fun z => absurd (kd_0.mp q12) (by have := z.2; omega)
    refine qy (fun _ _ k9 => z_iconst d_X4_readPlan_30 (by decide) k9) ?_
    exact y_ret (hQ Fa Ga (⟨hfa.1, hfa.2.1, hfa.2.2, fun _ => ⟨hka, (by rw [(show (pnJ B N) = i from utl_at (by omega) (fun k hk z => z (hgo k hk)) hng)]; exact hi), (by rw [(show (pnJ B N) = i from utl_at (by omega) (fun k hk z => z (hgo k hk)) hng)]; exact hLa), (by rw [(show (pnJ B N) = i from utl_at (by omega) (fun k hk z => z (hgo k hk)) hng)]; exact hrw)⟩, fun z => absurd (by rw [(show (pnJ B N) = i from utl_at (by omega) (fun k hk z => z (hgo k hk)) hng)]; exact hs0) z⟩)) (z_zret d_X4_readPlan_31 rfl (by first | exact qb_01 _ | decide | omega) (qsi (qb_t (by rw [(show (pnJ B N) = i from utl_at (by omega) (fun k hk z => z (hgo k hk)) hng)]; exact hs0))) rfl)
  · have hgi : gon N (pnS B N i) := ⟨hs0, Nat.lt_of_not_le (fun z => q12 (kd_0.mpr z))⟩
    refine qy (fun _ _ k9 => z_aload_n d_X4_readPlan_15 rfl rfl k9) ?_
    obtain ⟨F1, G1, ⟨ha1, hb1, hc1, hy1, hn1⟩, hx1⟩ := c_planLine (h := h) (F := Fa) (G := Ga) (B := B) (N := N) (L := i) (pnS B N i) hPa (pnS_le i) (pnS_sk i) hs0 hLa hi
    refine qy (fun _ _ k9 => z_cv (M1 := M_X4_readPlanLine) d_X4_readPlan_16 lv_X4_144 k_X4_readPlanLine [] rfl rfl (xput_ob (c := (Fa 160)) xi_160 rfl (xsh_4 xo_160)) ⟨_, _, rfl⟩ (Nat.le_of_ble_eq_true rfl) (by decide) (by decide) (Nat.le_of_ble_eq_true rfl) hx1 k9) ?_
    refine qy2 (fun _ _ => z_ifneB 24 d_X4_readPlan_19 (by decide)) (fun q19 => ?_) (fun q19 => ?_)
    · refine qy (fun _ _ k9 => z_iinc (ls' := [qR 160, qI ((i : Int) + 1)]) d_X4_readPlan_24 rfl (by decide) (by omega) rfl k9) ?_
      refine qy (fun _ _ k9 => z_goto 2 d_X4_readPlan_27 (by decide) k9) ?_
      exact qy (fun _ _ k9 => z_eq (qc rfl (qc (qi (by omega)) rfl)) rfl rfl k9) (kk (i + 1) F1 G1 (⟨⟨by have := (hy1 q19).1; omega, q19, q_lts hgo hgi⟩, ⟨fun a h1 h2 => (ha1 a h1 h2).trans (hfa.1 a h1 h2), fun k hk => (hb1 k hk).trans (hfa.2.1 k hk), fun a h2 => (hc1 a h2).trans (hfa.2.2 a h2)⟩, rdK_tr hka (hy1 q19).2.1, (hy1 q19).2.2.1, (by rw [(hy1 q19).2.2.2.1]; omega), fun j hj => (by rw [(hy1 q19).2.2.2.2, row4_at]; by_cases z : j / 4 = i; (rw [if_pos z, z]; unfold lqV; have := Nat.mod_lt j (show 0 < 4 by decide); split <;> (try split) <;> (try split) <;> first | rfl | omega); (rw [if_neg z]; exact hrw j (by omega)))⟩) (by omega))
    · refine qy (fun _ _ k9 => z_iconst d_X4_readPlan_22 (by decide) k9) ?_
      exact y_ret (hQ F1 G1 (⟨fun a h1 h2 => (ha1 a h1 h2).trans (hfa.1 a h1 h2), fun k hk => (hb1 k hk).trans (hfa.2.1 k hk), fun a h2 => (hc1 a h2).trans (hfa.2.2 a h2), fun z => absurd z (by rw [(show (pnJ B N) = i + 1 from utl_at (by omega) (fun k hk z => z (q_lts hgo hgi k hk)) (fun z => q19 z.1))]; exact q19), fun _ => ⟨(by rw [(show (pnJ B N) = i + 1 from utl_at (by omega) (fun k hk z => z (q_lts hgo hgi k hk)) (fun z => q19 z.1))]; exact (hn1 q19).1), i, hi, (hn1 q19).2.trans hLa⟩⟩)) (z_zret d_X4_readPlan_23 rfl (by first | exact qb_01 _ | decide | omega) (qsi (qb_f (by rw [(show (pnJ B N) = i + 1 from utl_at (by omega) (fun k hk z => z (q_lts hgo hgi k hk)) (fun z => q19 z.1))]; exact q19))) rfl)
set_option maxRecDepth 20000 in
set_option maxHeartbeats 4000000 in
theorem c_inTree {h : qH} {F G : Nat → Nat → Int} {L : Nat} (K : Int) (hL : F 170 2 = (L : Int)) (hL2 : L ≤ 16) : qEx M_X4_isInTree 0 [qR 160, qI K, qU] [] (xput h F G) (some (qI (qb (∃ i, i < L ∧ G 171 (4 * i) = K)))) (xput h F G) := by
  refine q_gen (fun r hr er eh => ?_)
  refine z_iconst d_X4_isInTree_0 (by decide) ?_
  refine z_istore_n (ls' := [qR 160, qI K, qI 0]) d_X4_isInTree_1 rfl (by decide) rfl ?_
  refine z_eq (qc rfl (qc rfl (qc (qi (rfl)) rfl))) rfl rfl (z_for L (fun i => [qR 160, qI K, qI (i : Int)]) (fun i => (xput h F G)) (fun i => ∀ j, j < i → ¬ G 171 (4 * j) = K) (fun j hj => absurd hj (by omega)) (fun i hii hp9 kki => ?_) (fun hp9 => ?_))
  · show qEx M_X4_isInTree 2 [qR 160, qI K, qI (i : Int)] [] (xput h F G) r hr
    refine z_iload_n d_X4_isInTree_2 rfl rfl ?_
    refine z_aload_n d_X4_isInTree_3 rfl rfl ?_
    refine z_getf (v := qR 170) d_X4_isInTree_4 fl_X4_52 (xput_ob (c := (F 160)) xi_160 rfl (xsh_4 xo_160)) rfl ?_
    refine z_getf (v := qI ((F 170) 2)) d_X4_isInTree_7 fl_X4_165 (xput_ob (c := (F 170)) xi_170 rfl (xsh_6 xo_170)) rfl ?_
    refine z_eq rfl (qc (qi hL) rfl) rfl ?_
    refine z_icmp_ge 34 d_X4_isInTree_10 (by decide) (fun hc1 => absurd hc1 (by omega)) (fun hc1 => ?_)
    refine z_aload_n d_X4_isInTree_13 rfl rfl ?_
    refine z_getf (v := qR 170) d_X4_isInTree_14 fl_X4_52 (xput_ob (c := (F 160)) xi_160 rfl (xsh_4 xo_160)) rfl ?_
    refine z_iload_n d_X4_isInTree_17 rfl rfl ?_
    refine z_iconst d_X4_isInTree_18 (by decide) ?_
    refine z_cv (M1 := M_X6_cell) d_X4_isInTree_19 lv_X4_166 k_X6_cell [qI (i : Int), qI 0] rfl rfl (xput_ob (c := (F 170)) xi_170 rfl (xsh_6 xo_170)) ⟨_, _, rfl⟩ (Nat.le_of_ble_eq_true rfl) (by decide) (by decide) (Nat.le_of_ble_eq_true rfl) (c_rwC (h := h) (F := F) (G := G) (q := 170) (L := L) i 0 (by decide) xo_170 hL (by rw [show xM 170 = 16 by decide]; exact hL2) (by omega) (by decide)) ?_
    refine z_eq rfl (qc (qi (show (G 171 (4 * i)) = (G 171 (4 * i)) from rfl)) rfl) rfl ?_
    refine z_iload_n d_X4_isInTree_22 rfl rfl ?_
    refine z_icmp_ne 28 d_X4_isInTree_23 (by decide) (fun q23 => ?_) (fun q23 => ?_)
    · refine z_iinc (ls' := [qR 160, qI K, qI ((i : Int) + 1)]) d_X4_isInTree_28 rfl (by decide) (by omega) rfl ?_
      refine z_goto 2 d_X4_isInTree_31 (by decide) ?_
      exact z_eq (qc rfl (qc rfl (qc (qi (by omega)) rfl))) rfl rfl (kki (q_lts hp9 q23))
    · have q23 := Classical.not_not.mp q23
      refine z_iconst d_X4_isInTree_26 (by decide) ?_
      exact z_zret d_X4_isInTree_27 rfl (by first | exact qb_01 _ | decide | omega) (qer er (qb_t ⟨i, hii, q23⟩)) eh
  · show qEx M_X4_isInTree 2 [qR 160, qI K, qI (L : Int)] [] (xput h F G) r hr
    refine z_iload_n d_X4_isInTree_2 rfl rfl ?_
    refine z_aload_n d_X4_isInTree_3 rfl rfl ?_
    refine z_getf (v := qR 170) d_X4_isInTree_4 fl_X4_52 (xput_ob (c := (F 160)) xi_160 rfl (xsh_4 xo_160)) rfl ?_
    refine z_getf (v := qI ((F 170) 2)) d_X4_isInTree_7 fl_X4_165 (xput_ob (c := (F 170)) xi_170 rfl (xsh_6 xo_170)) rfl ?_
    refine z_eq rfl (qc (qi hL) rfl) rfl ?_
    refine z_icmp_ge 34 d_X4_isInTree_10 (by decide) (fun hc2 => ?_) (fun hc2 => absurd hc2 (by omega))
    refine z_iconst d_X4_isInTree_34 (by decide) ?_
    exact z_zret d_X4_isInTree_35 rfl (by first | exact qb_01 _ | decide | omega) (qer er (qb_f (fun ⟨i, hi, z⟩ => hp9 i hi z))) eh
theorem trF_rows {C C' Z : Nat → Int} : ∀ i, (∀ j, j < 4 * i → C j = C' j) → trF C Z i = trF C' Z i
  | 0, _ => rfl
  | i + 1, h => by
    show qup (trF C Z i) (C (4 * i)).toNat (C (4 * i + 1)) = qup (trF C' Z i) (C' (4 * i)).toNat (C' (4 * i + 1))
    rw [trF_rows i (fun j hj => h j (by omega)), h (4 * i) (by omega), h (4 * i + 1) (by omega)]
theorem trF_in {C : Nat → Int} : ∀ L, trC C L → ∀ k : Nat, (trF C (fun _ => -1) L k ≠ -1 ↔ ∃ i, i < L ∧ C (4 * i) = (k : Int))
  | 0, _, k => ⟨fun z => absurd rfl z, fun ⟨i, hi, _⟩ => absurd hi (by omega)⟩
  | L + 1, h, k => by
    have hc := h L (by omega)
    have ih := trF_in L (fun i hi => h i (by omega)) k
    show qup (trF C (fun _ => -1) L) (C (4 * L)).toNat (C (4 * L + 1)) k ≠ -1 ↔ _
    by_cases e : k = (C (4 * L)).toNat
    · rw [e, qup_eq]
      exact ⟨fun _ => ⟨L, by omega, by omega⟩, fun _ => by omega⟩
    · rw [qup_ne e, ih]
      exact ⟨fun ⟨i, hi, z⟩ => ⟨i, by omega, z⟩, fun ⟨i, hi, z⟩ => ⟨i, by rcases Nat.lt_or_ge i L with y | y; exact y; exact absurd (show i = L by omega) (fun q => e (by subst q; omega)), z⟩⟩
section TreeWords
variable {B : Nat → Int} {N : Nat} {A : Nat → Int} {s : pS}
theorem tr_f4 (h : (tr4 B N A s).2.1 ≠ 0) : (trS B N A s).2 = (tr4 B N A s).2 := by
  have h5 : (tr5 B N A s).2.1 ≠ 0 := h
  have e6 : tr6 B N A s = tr5 B N A s := by unfold tr6; rw [nuS_f h5]
  have e7 : tr7 B N A s = tr5 B N A s := by unfold tr7; rw [e6, qif_f (fun z => h5 z.1)]
  unfold trS
  rw [e7, gnS_f h5]
  rfl
theorem tr_f3 (h : (tr3 B N A s).2.1 ≠ 0) : (trS B N A s).2 = (tr3 B N A s).2 := by
  have e4 : tr4 B N A s = tr3 B N A s := by
    unfold tr4
    rw [qif_f (fun z => h z.1), tkS_f h]
    unfold wrS
    rw [if_neg h]
  rw [tr_f4 (by rw [e4]; exact h), e4]
theorem tr_f7 (h : (tr7 B N A s).2.1 ≠ 0) : trS B N A s = tr7 B N A s := by unfold trS; rw [gnS_f h]
end TreeWords
set_option maxRecDepth 20000 in
set_option maxHeartbeats 4000000 in
theorem c_trChain {h : qH} {F G : Nat → Nat → Int} {B : Nat → Int} {N L : Nat} {A : Nat → Int} {s : pS} (hP : rdP F G B N s.1) (ha : s.1 ≤ N) (hsk : sk B N s.1 = s.1) (hs : s.2.1 = 0) (hL : F 170 2 = (L : Int)) (hL2 : L ≤ 16) (hk : kd B N s.1 = 17) (hlt : L < 16) (hC : trC (G 171) L) (hA : ∀ k, k < 16 → A k = trF (G 171) (fun _ => -1) L k) : ∃ F' G', ((∀ a, a ≠ 160 → a ≠ 170 → F' a = F a) ∧ (∀ k, k < 5 ∨ 8 < k → F' 160 k = F 160 k) ∧ (∀ a, a ≠ 171 → G' a = G a) ∧ ((trS B N A s).2.1 = 0 → rdK F F' ∧ rdP F' G' B N (sk B N (trS B N A s).1) ∧ F' 170 2 = (L : Int) + 1 ∧ G' 171 = row4 (G 171) (4 * L) (trK B N s) (trU B N A s) 0 0) ∧ ((trS B N A s).2.1 ≠ 0 → rdE F' (trS B N A s).2.1 (trS B N A s).2.2 ∧ F' 170 2 = F 170 2)) ∧ qEx M_X4_readTreeLine 0 [qR 160, qU, qU] [] (xput h F G) (some (qI (qb ((trS B N A s).2.1 = 0)))) (xput h F' G') := by
  refine x_in (fun Q hQ => ?_)
  obtain ⟨t, c, ⟨htc, htp⟩, hT, h5, h6⟩ := id hP
  refine qy (fun _ _ k9 => z_aload_n d_X4_readTreeLine_0 rfl rfl k9) ?_
  refine qy (fun _ _ k9 => z_getf (v := qI ((F 160) 6)) d_X4_readTreeLine_1 fl_X4_31 (xput_ob (c := (F 160)) xi_160 rfl (xsh_4 xo_160)) rfl k9) ?_
  refine qy (fun _ _ k9 => z_eq rfl (qc (qi h6) rfl) rfl k9) ?_
  refine qy (fun _ _ k9 => z_bipush d_X4_readTreeLine_4 (by decide) k9) ?_
  refine qy2 (fun _ _ => z_icmp_ne 25 d_X4_readTreeLine_6 (by decide)) (fun hc1 => absurd hc1 (by omega)) (fun hc1 => ?_)
  refine qy (fun _ _ k9 => z_aload_n d_X4_readTreeLine_9 rfl rfl k9) ?_
  refine qy (fun _ _ k9 => z_getf (v := qR 170) d_X4_readTreeLine_10 fl_X4_52 (xput_ob (c := (F 160)) xi_160 rfl (xsh_4 xo_160)) rfl k9) ?_
  refine qy (fun _ _ k9 => z_cv (M1 := M_X6_isFull) d_X4_readTreeLine_13 lv_X4_147 k_X6_isFull [] rfl rfl (xput_ob (c := (F 170)) xi_170 rfl (xsh_6 xo_170)) ⟨_, _, rfl⟩ (Nat.le_of_ble_eq_true rfl) (by decide) (by decide) (Nat.le_of_ble_eq_true rfl) (by have e9 := c_rwFull (h := h) (F := F) (G := G) (q := 170) (L := L) (by decide) xo_170 hL (by rw [show xM 170 = 16 by decide]; exact hL2); rw [show xM 170 = 16 by decide] at e9; exact e9) k9) ?_
  refine qy2n (fun _ _ => z_ifeqB 25 d_X4_readTreeLine_16 (by decide)) (fun hc2 => ?_) (fun hc2 => absurd hc2 (by omega))
  refine qy (fun _ _ k9 => z_aload_n d_X4_readTreeLine_25 rfl rfl k9) ?_
  refine qy (fun _ _ k9 => z_bipush d_X4_readTreeLine_26 (by decide) k9) ?_
  obtain ⟨F1, ⟨hf1, hy1, hn1⟩, hx1⟩ := c_pass (h := h) (F := F) (G := G) 17 hP (by decide)
  refine qy (fun _ _ k9 => z_cv (M1 := M_X4_pass) d_X4_readTreeLine_28 lv_X4_134 k_X4_pass [qI 17] rfl rfl (xput_ob (c := (F 160)) xi_160 rfl (xsh_4 xo_160)) ⟨_, _, rfl⟩ (Nat.le_of_ble_eq_true rfl) (by decide) (by decide) (Nat.le_of_ble_eq_true rfl) hx1 k9) ?_
  refine qy2 (fun _ _ => z_ifneB 36 d_X4_readTreeLine_31 (by decide)) (fun hc3 => ?_) (fun hc3 => absurd hc3 (by exact not_not_intro hk))
  have e0 : tkS B N 17 s = (en B N s.1, s.2) := by rw [tkS_y hs (by rw [hsk]; exact hk), hsk]
  have e1 : (tr1 B N s) = (nx B N s.1, s.2) := by unfold tr1; rw [e0]; rfl
  have h1 : (tr1 B N s).2.1 = 0 := by rw [e1]; exact hs
  have hP1 : rdP F1 G B N (tr1 B N s).1 := by rw [e1]; exact (hy1 hk).2
  have hp1 := rdP_sp hP1
  have hnu := nu_sk (B := B) (s := (tr1 B N s)) (lo := 1) (hi := 15) hp1.1 h1
  rw [hp1.2] at hnu
  refine qy (fun _ _ k9 => z_aload_n d_X4_readTreeLine_36 rfl rfl k9) ?_
  refine qy (fun _ _ k9 => z_iconst d_X4_readTreeLine_37 (by decide) k9) ?_
  refine qy (fun _ _ k9 => z_bipush d_X4_readTreeLine_38 (by decide) k9) ?_
  obtain ⟨F2, ⟨hf2, hy2, hn2⟩, hx2⟩ := c_numHere (h := h) (F := F1) (G := G) 1 15 hP1 
  refine qy (fun _ _ k9 => z_cv (M1 := M_X4_numberHere) d_X4_readTreeLine_40 lv_X4_117 k_X4_numberHere [qI 1, qI 15] rfl rfl (xput_ob (c := (F1 160)) xi_160 rfl (xsh_4 xo_160)) ⟨_, _, rfl⟩ (Nat.le_of_ble_eq_true rfl) (by decide) (by decide) (Nat.le_of_ble_eq_true rfl) hx2 k9) ?_
  refine qy (fun _ _ k9 => z_istore_n (ls' := [qR 160, qI (nhV B N 1 15 (tr1 B N s).1), qU]) d_X4_readTreeLine_43 rfl (by decide) rfl k9) ?_
  refine qy (fun _ _ k9 => z_iload_n d_X4_readTreeLine_44 rfl rfl k9) ?_
  refine qy (fun _ _ k9 => z_iconst d_X4_readTreeLine_45 (by decide) k9) ?_
  refine qy2 (fun _ _ => z_icmp_ne 51 d_X4_readTreeLine_46 (by decide)) (fun q46 => ?_) (fun q46 => ?_)
  · have hok : nOk B N 1 15 (tr1 B N s).1 := Classical.byContradiction (fun z => q46 ((nhV_1 hp1.1).mpr z))
    have hP2 : rdP F2 G B N (tr1 B N s).1 := (hy2 hok).2
    have hF2 : rdQ F F2 := rdQ_tr hf1 hf2
    have eK : (trK B N s) = vl B N (tr1 B N s).1 := (hnu.1 hok).2
    have e2 : (tr2 B N s) = (en B N (tr1 B N s).1, (tr1 B N s).2) := (hnu.1 hok).1
    have bK : 1 ≤ (trK B N s) ∧ (trK B N s) ≤ 15 := by rw [eK]; exact hok.2
    have hin : A (trK B N s).toNat ≠ -1 ↔ ∃ i, i < L ∧ G 171 (4 * i) = (trK B N s) := by
      rw [hA _ (by omega), trF_in L hC]
      rw [Int.toNat_of_nonneg (by omega)]
    refine qy (fun _ _ k9 => z_eq (qc rfl (qc (qi (show (nhV B N 1 15 (tr1 B N s).1) = (trK B N s) from (by unfold nhV; rw [qif_t hok]; exact eK.symm))) rfl)) rfl rfl k9) ?_
    refine qy (fun _ _ k9 => z_aload_n d_X4_readTreeLine_51 rfl rfl k9) ?_
    refine qy (fun _ _ k9 => z_iload_n d_X4_readTreeLine_52 rfl rfl k9) ?_
    refine qy (fun _ _ k9 => z_cv (M1 := M_X4_isInTree) d_X4_readTreeLine_53 lv_X4_162 k_X4_isInTree [qI (trK B N s)] rfl rfl (xput_ob (c := (F2 160)) xi_160 rfl (xsh_4 xo_160)) ⟨_, _, rfl⟩ (Nat.le_of_ble_eq_true rfl) (by decide) (by decide) (Nat.le_of_ble_eq_true rfl) (c_inTree (h := h) (F := F2) (G := G) (L := L) (trK B N s) (by rw [hF2.1 170 (by decide)]; exact hL) hL2) k9) ?_
    refine qy2n (fun _ _ => z_ifeqB 65 d_X4_readTreeLine_56 (by decide)) (fun q56 => ?_) (fun q56 => ?_)
    · refine qy (fun _ _ k9 => z_aload_n d_X4_readTreeLine_65 rfl rfl k9) ?_
      obtain ⟨F3, ⟨hf3, hk3, hp3⟩, hx3⟩ := c_adv (h := h) (F := F2) (G := G) hP2 (by rw [hok.1]; decide)
      refine qy (fun _ _ k9 => z_cv0 (M1 := M_X4_advance) d_X4_readTreeLine_66 lv_X4_114 k_X4_advance [] rfl rfl (xput_ob (c := (F2 160)) xi_160 rfl (xsh_4 xo_160)) ⟨_, _, rfl⟩ (Nat.le_of_ble_eq_true rfl) (by decide) (by decide) (Nat.le_of_ble_eq_true rfl) hx3 k9) ?_
      have e3 : (tr3 B N A s) = (en B N (tr1 B N s).1, (tr1 B N s).2) := by unfold tr3; rw [qif_f (fun z => q56 (hin.mp z.2))]; exact e2
      have h3 : (tr3 B N A s).2.1 = 0 := by rw [e3]; exact h1
      have hP3 : rdP F3 G B N (sk B N (tr3 B N A s).1) := by rw [e3]; exact hp3
      have hF3 : rdQ F F3 := rdQ_tr hF2 hf3
      have hK3 : rdK F F3 := rdK_tr (rdK_tr (hy1 hk).1 (hy2 hok).1) hk3
      have hl3 : (tr3 B N A s).1 ≤ N := by rw [e3]; exact (en_sp (Nat.lt_of_not_le (fun y => absurd (kd_0.mpr y) (by rw [hok.1]; decide)))).2
      refine qy (fun _ _ k9 => z_aload_n d_X4_readTreeLine_69 rfl rfl k9) ?_
      refine qy (fun _ _ k9 => z_bipush d_X4_readTreeLine_70 (by decide) k9) ?_
      obtain ⟨F4, ⟨hf4, hy4, hn4⟩, hx4⟩ := c_pass (h := h) (F := F3) (G := G) 18 hP3 (by decide)
      refine qy (fun _ _ k9 => z_cv (M1 := M_X4_pass) d_X4_readTreeLine_72 lv_X4_134 k_X4_pass [qI 18] rfl rfl (xput_ob (c := (F3 160)) xi_160 rfl (xsh_4 xo_160)) ⟨_, _, rfl⟩ (Nat.le_of_ble_eq_true rfl) (by decide) (by decide) (Nat.le_of_ble_eq_true rfl) hx4 k9) ?_
      refine qy2 (fun _ _ => z_ifneB 80 d_X4_readTreeLine_75 (by decide)) (fun q75 => ?_) (fun q75 => ?_)
      · have e4 : (tr4 B N A s) = (en B N (sk B N (tr3 B N A s).1), (tr3 B N A s).2) := by unfold tr4; rw [qif_t ⟨h3, q75⟩, tkS_y h3 q75]
        have e5 : (tr5 B N A s) = (nx B N (sk B N (tr3 B N A s).1), (tr3 B N A s).2) := by unfold tr5; rw [e4]; rfl
        have h5 : (tr5 B N A s).2.1 = 0 := by rw [e5]; exact h3
        have hP5 : rdP F4 G B N (tr5 B N A s).1 := by rw [e5]; exact (hy4 q75).2
        have hp5 := rdP_sp hP5
        have hF5 : rdQ F F4 := rdQ_tr hF3 hf4
        have hK5 : rdK F F4 := rdK_tr hK3 (hy4 q75).1
        have hnv := nu_sk (B := B) (s := (tr5 B N A s)) (lo := 0) (hi := 14) hp5.1 h5
        rw [hp5.2] at hnv
        refine qy (fun _ _ k9 => z_aload_n d_X4_readTreeLine_80 rfl rfl k9) ?_
        refine qy (fun _ _ k9 => z_iconst d_X4_readTreeLine_81 (by decide) k9) ?_
        refine qy (fun _ _ k9 => z_iload_n d_X4_readTreeLine_82 rfl rfl k9) ?_
        refine qy (fun _ _ k9 => z_iconst d_X4_readTreeLine_83 (by decide) k9) ?_
        refine qy (fun _ _ k9 => z_isub d_X4_readTreeLine_84 (by omega) k9) ?_
        obtain ⟨F5, ⟨hf5, hy5, hn5⟩, hx5⟩ := c_passNum (h := h) (F := F4) (G := G) 0 ((trK B N s) - 1) hP5
        refine qy (fun _ _ k9 => z_cv (M1 := M_X4_passNumber) d_X4_readTreeLine_85 lv_X4_150 k_X4_passNumber [qI 0, qI ((trK B N s) - 1)] rfl rfl (xput_ob (c := (F4 160)) xi_160 rfl (xsh_4 xo_160)) ⟨_, _, rfl⟩ (Nat.le_of_ble_eq_true rfl) (by decide) (by decide) (Nat.le_of_ble_eq_true rfl) hx5 k9) ?_
        refine qy (fun _ _ k9 => z_istore_n (ls' := [qR 160, qI (trK B N s), qI (nhV B N 0 ((trK B N s) - 1) (tr5 B N A s).1)]) d_X4_readTreeLine_88 rfl (by decide) rfl k9) ?_
        refine qy (fun _ _ k9 => z_iload_n d_X4_readTreeLine_89 rfl rfl k9) ?_
        refine qy (fun _ _ k9 => z_iconst d_X4_readTreeLine_90 (by decide) k9) ?_
        refine qy2 (fun _ _ => z_icmp_eq 102 d_X4_readTreeLine_91 (by decide)) (fun q91 => ?_) (fun q91 => ?_)
        · have hn7 : ¬ nOk B N 0 ((trK B N s) - 1) (tr5 B N A s).1 := (nhV_1 hp5.1).mp q91
          have e7 : (tr7 B N A s).2 = (nER B N (tr5 B N A s).1, ((tr5 B N A s).1 : Int)) := by
            unfold tr7
            by_cases z : nOk B N 0 14 (tr5 B N A s).1
            · have eU : (trU B N A s) = vl B N (tr5 B N A s).1 := (hnv.1 z).2
              have e6 : tr6 B N A s = (en B N (tr5 B N A s).1, (tr5 B N A s).2) := (hnv.1 z).1
              have hge : (trU B N A s) ≥ (trK B N s) := by
                by_cases y : (trU B N A s) < (trK B N s)
                · exact absurd ⟨z.1, z.2.1, by omega⟩ hn7
                · omega
              rw [qif_t ⟨by rw [e6]; exact h5, hge⟩]
              unfold wrS nER
              rw [if_pos (by rw [e6]; exact h5), qif_t z.1]
            · have e6 : (tr6 B N A s).2 = (nER B N (tr5 B N A s).1, ((tr5 B N A s).1 : Int)) := hnv.2 z
              rw [qif_f (fun y => nER_0 (B := B) (N := N) (p := (tr5 B N A s).1) (by have := y.1; rw [e6] at this; exact this)), e6]
          have ex : (trS B N A s).2 = (nER B N (tr5 B N A s).1, ((tr5 B N A s).1 : Int)) := by rw [tr_f7 (by rw [e7]; exact nER_0)]; exact e7
          refine qy (fun _ _ k9 => z_iconst d_X4_readTreeLine_102 (by decide) k9) ?_
          exact y_ret (hQ F5 G (⟨fun a h1 _ => (rdQ_tr hF5 hf5).1 a h1, (rdQ_tr hF5 hf5).2, fun _ _ => rfl, fun z => absurd z (by rw [ex]; first | exact nER_0 | exact (by decide : ¬ (2 : Int) = 0) | exact (by decide : ¬ (1 : Int) = 0)), fun _ => ⟨(by rw [ex]; exact hn5 hn7), congrFun ((rdQ_tr hF5 hf5).1 170 (by decide)) 2⟩⟩)) (z_zret d_X4_readTreeLine_103 rfl (by first | exact qb_01 _ | decide | omega) (qsi (qb_f (by rw [ex]; first | exact nER_0 | exact (by decide : ¬ (2 : Int) = 0) | exact (by decide : ¬ (1 : Int) = 0)))) rfl)
        · have ho7 : nOk B N 0 ((trK B N s) - 1) (tr5 B N A s).1 := Classical.byContradiction (fun z => q91 ((nhV_1 hp5.1).mpr z))
          have ho8 : nOk B N 0 14 (tr5 B N A s).1 := ⟨ho7.1, ho7.2.1, by have := ho7.2.2; omega⟩
          have eU : (trU B N A s) = vl B N (tr5 B N A s).1 := (hnv.1 ho8).2
          have e6 : tr6 B N A s = (en B N (tr5 B N A s).1, (tr5 B N A s).2) := (hnv.1 ho8).1
          have e7 : (tr7 B N A s) = (en B N (tr5 B N A s).1, (tr5 B N A s).2) := by unfold tr7; rw [qif_f (fun y => by have := y.2; have := ho7.2.2; omega)]; exact e6
          have h7 : (tr7 B N A s).2.1 = 0 := by rw [e7]; exact h5
          have hP7 : rdP F5 G B N (sk B N (tr7 B N A s).1) := by rw [e7]; exact (hy5 ho7).2
          have hF7 : rdQ F F5 := rdQ_tr hF5 hf5
          have hK7 : rdK F F5 := rdK_tr hK5 (hy5 ho7).1
          refine qy (fun _ _ k9 => z_eq (qc rfl (qc rfl (qc (qi (show (nhV B N 0 ((trK B N s) - 1) (tr5 B N A s).1) = (trU B N A s) from (by unfold nhV; rw [qif_t ho7]; exact eU.symm))) rfl))) rfl rfl k9) ?_
          refine qy (fun _ _ k9 => z_aload_n d_X4_readTreeLine_94 rfl rfl k9) ?_
          refine qy (fun _ _ k9 => z_iconst d_X4_readTreeLine_95 (by decide) k9) ?_
          obtain ⟨F6, hv6, hx6⟩ := c_gnS (h := h) (F := F5) (G := G) (s := (tr7 B N A s)) (c := 59) (k := 3) (Or.inl ⟨rfl, rfl⟩) hP7 h7
          refine qy (fun _ _ k9 => z_cv (M1 := M_X4_pass) d_X4_readTreeLine_96 lv_X4_134 k_X4_pass [qI 3] rfl rfl (xput_ob (c := (F5 160)) xi_160 rfl (xsh_4 xo_160)) ⟨_, _, rfl⟩ (Nat.le_of_ble_eq_true rfl) (by decide) (by decide) (Nat.le_of_ble_eq_true rfl) hx6 k9) ?_
          refine qy2 (fun _ _ => z_ifneB 104 d_X4_readTreeLine_99 (by decide)) (fun q99 => ?_) (fun q99 => ?_)
          · have hF8 : rdQ F F6 := rdQ_tr hF7 hv6.1
            refine qy (fun _ _ k9 => z_aload_n d_X4_readTreeLine_104 rfl rfl k9) ?_
            refine qy (fun _ _ k9 => z_getf (v := qR 170) d_X4_readTreeLine_105 fl_X4_52 (xput_ob (c := (F6 160)) xi_160 rfl (xsh_4 xo_160)) rfl k9) ?_
            refine qy (fun _ _ k9 => z_iload_n d_X4_readTreeLine_108 rfl rfl k9) ?_
            refine qy (fun _ _ k9 => z_iload_n d_X4_readTreeLine_109 rfl rfl k9) ?_
            refine qy (fun _ _ k9 => z_iconst d_X4_readTreeLine_110 (by decide) k9) ?_
            refine qy (fun _ _ k9 => z_iconst d_X4_readTreeLine_111 (by decide) k9) ?_
            refine qy (fun _ _ k9 => z_cv (M1 := M_X6_add) d_X4_readTreeLine_112 lv_X4_156 k_X6_add [qI (trK B N s), qI (trU B N A s), qI 0, qI 0] rfl rfl (xput_ob (c := (F6 170)) xi_170 rfl (xsh_6 xo_170)) ⟨_, _, rfl⟩ (Nat.le_of_ble_eq_true rfl) (by decide) (by decide) (Nat.le_of_ble_eq_true rfl) (c_rwAdd (h := h) (F := F6) (G := G) (q := 170) (L := L) (trK B N s) (trU B N A s) 0 0 (by decide) xo_170 (by rw [hF8.1 170 (by decide)]; exact hL) (by rw [show xM 170 = 16 by decide]; exact hL2) (by rw [show xM 170 = 16 by decide]; exact hlt)) k9) ?_
            exact y_ret (hQ (gup F6 170 (qup (F6 170) 2 ((L : Int) + 1))) (gup G 171 (row4 (G 171) (4 * L) (trK B N s) (trU B N A s) 0 0)) (⟨fun a h1 h2 => (gup_ne h2).trans (hF8.1 a h1), fun k hk => (by rw [gup_ne (by decide)]; exact hF8.2 k hk), fun a h1 => gup_ne h1, fun _ => ⟨⟨(by rw [gup_ne (by decide)]; exact (rdK_tr hK7 (hv6.2.1 q99).1).1), (by rw [gup_ne (by decide)]; exact (rdK_tr hK7 (hv6.2.1 q99).1).2)⟩, rdP_cg (hv6.2.1 q99).2 (by rw [gup_ne (by decide)]) (by rw [gup_ne (by decide)]) (gup_ne (by decide)) (gup_ne (by decide)) (gup_ne (by decide)), (by rw [gup_eq, qup_eq]), (by rw [gup_eq])⟩, fun z => absurd q99 z⟩)) (z_zret d_X4_readTreeLine_115 rfl (by first | exact qb_01 _ | decide | omega) (qsi (qb_t q99)) rfl)
          · refine qy (fun _ _ k9 => z_iconst d_X4_readTreeLine_102 (by decide) k9) ?_
            exact y_ret (hQ F6 G (⟨fun a h1 _ => (rdQ_tr hF7 hv6.1).1 a h1, (rdQ_tr hF7 hv6.1).2, fun _ _ => rfl, fun z => absurd z q99, fun _ => ⟨hv6.2.2 q99, congrFun ((rdQ_tr hF7 hv6.1).1 170 (by decide)) 2⟩⟩)) (z_zret d_X4_readTreeLine_103 rfl (by first | exact qb_01 _ | decide | omega) (qsi (qb_f q99)) rfl)
      · have e4 : (tr4 B N A s).2 = (1, ((sk B N (tr3 B N A s).1 : Nat) : Int)) := by
          unfold tr4
          rw [qif_f (fun z => q75 z.2), tkS_n h3 q75]
          unfold wrS
          rw [if_pos (show (skS B N (tr3 B N A s)).2.1 = 0 from h3)]
          rfl
        have ex : (trS B N A s).2 = (1, ((sk B N (tr3 B N A s).1 : Nat) : Int)) := by rw [tr_f4 (by rw [e4]; exact (by decide : (1 : Int) ≠ 0))]; exact e4
        refine qy (fun _ _ k9 => z_iconst d_X4_readTreeLine_78 (by decide) k9) ?_
        exact y_ret (hQ F4 G (⟨fun a h1 _ => (rdQ_tr hF3 hf4).1 a h1, (rdQ_tr hF3 hf4).2, fun _ _ => rfl, fun z => absurd z (by rw [ex]; first | exact nER_0 | exact (by decide : ¬ (2 : Int) = 0) | exact (by decide : ¬ (1 : Int) = 0)), fun _ => ⟨(by rw [ex]; exact hn4 q75), congrFun ((rdQ_tr hF3 hf4).1 170 (by decide)) 2⟩⟩)) (z_zret d_X4_readTreeLine_79 rfl (by first | exact qb_01 _ | decide | omega) (qsi (qb_f (by rw [ex]; first | exact nER_0 | exact (by decide : ¬ (2 : Int) = 0) | exact (by decide : ¬ (1 : Int) = 0)))) rfl)
    · have e3 : (tr3 B N A s).2 = (2, ((tr1 B N s).1 : Int)) := by
        unfold tr3
        rw [qif_t ⟨by rw [e2]; exact h1, hin.mpr q56⟩]
        unfold wrS
        rw [if_pos (by rw [e2]; exact h1)]
      have ex : (trS B N A s).2 = (2, ((tr1 B N s).1 : Int)) := by rw [tr_f3 (by rw [e3]; exact (by decide : (2 : Int) ≠ 0))]; exact e3
      refine qy (fun _ _ k9 => z_aload_n d_X4_readTreeLine_59 rfl rfl k9) ?_
      refine qy (fun _ _ k9 => z_iconst d_X4_readTreeLine_60 (by decide) k9) ?_
      obtain ⟨F7, ⟨hf7, he7, hp7⟩, hx7⟩ := c_refuse (h := h) (F := F2) (G := G) 2 hP2
      refine qy (fun _ _ k9 => z_cv (M1 := M_X4_refuse) d_X4_readTreeLine_61 lv_X4_111 k_X4_refuse [qI 2] rfl rfl (xput_ob (c := (F2 160)) xi_160 rfl (xsh_4 xo_160)) ⟨_, _, rfl⟩ (Nat.le_of_ble_eq_true rfl) (by decide) (by decide) (Nat.le_of_ble_eq_true rfl) hx7 k9) ?_
      exact y_ret (hQ F7 G (⟨fun a h1 _ => (rdQ_tr hF2 hf7).1 a h1, (rdQ_tr hF2 hf7).2, fun _ _ => rfl, fun z => absurd z (by rw [ex]; first | exact nER_0 | exact (by decide : ¬ (2 : Int) = 0) | exact (by decide : ¬ (1 : Int) = 0)), fun _ => ⟨(by rw [ex]; exact he7), congrFun ((rdQ_tr hF2 hf7).1 170 (by decide)) 2⟩⟩)) (z_zret d_X4_readTreeLine_64 rfl (by first | exact qb_01 _ | decide | omega) (qsi (qb_f (by rw [ex]; first | exact nER_0 | exact (by decide : ¬ (2 : Int) = 0) | exact (by decide : ¬ (1 : Int) = 0)))) rfl)
  · have hno := (nhV_1 hp1.1).mp (Classical.not_not.mp q46)
    have e2 : (tr2 B N s).2 = (nER B N (tr1 B N s).1, ((tr1 B N s).1 : Int)) := hnu.2 hno
    have e3 : (tr3 B N A s).2 = (nER B N (tr1 B N s).1, ((tr1 B N s).1 : Int)) := by unfold tr3; rw [qif_f (fun z => nER_0 (B := B) (N := N) (p := (tr1 B N s).1) (by have := z.1; rw [e2] at this; exact this))]; exact e2
    have ex : (trS B N A s).2 = (nER B N (tr1 B N s).1, ((tr1 B N s).1 : Int)) := by rw [tr_f3 (by rw [e3]; exact nER_0)]; exact e3
    refine qy (fun _ _ k9 => z_iconst d_X4_readTreeLine_49 (by decide) k9) ?_
    exact y_ret (hQ F2 G (⟨fun a h1 _ => (rdQ_tr hf1 hf2).1 a h1, (rdQ_tr hf1 hf2).2, fun _ _ => rfl, fun z => absurd z (by rw [ex]; first | exact nER_0 | exact (by decide : ¬ (2 : Int) = 0) | exact (by decide : ¬ (1 : Int) = 0)), fun _ => ⟨(by rw [ex]; exact hn2 hno), congrFun ((rdQ_tr hf1 hf2).1 170 (by decide)) 2⟩⟩)) (z_zret d_X4_readTreeLine_50 rfl (by first | exact qb_01 _ | decide | omega) (qsi (qb_f (by rw [ex]; first | exact nER_0 | exact (by decide : ¬ (2 : Int) = 0) | exact (by decide : ¬ (1 : Int) = 0)))) rfl)
theorem c_treeLine {h : qH} {F G : Nat → Nat → Int} {B : Nat → Int} {N L : Nat} {A : Nat → Int} (s : pS) (hP : rdP F G B N s.1) (ha : s.1 ≤ N) (hsk : sk B N s.1 = s.1) (hs : s.2.1 = 0) (hL : F 170 2 = (L : Int)) (hL2 : L ≤ 16) (hC : trC (G 171) L) (hA : ∀ k, k < 16 → A k = trF (G 171) (fun _ => -1) L k) : ∃ F' G', ((∀ a, a ≠ 160 → a ≠ 170 → F' a = F a) ∧ (∀ k, k < 5 ∨ 8 < k → F' 160 k = F 160 k) ∧ (∀ a, a ≠ 171 → G' a = G a) ∧ ((ltS B N A L s).2.1 = 0 → L < 16 ∧ rdK F F' ∧ rdP F' G' B N (sk B N (ltS B N A L s).1) ∧ F' 170 2 = (L : Int) + 1 ∧ trC (G' 171) (L + 1) ∧ ∀ k, k < 16 → ltX B N A L s k = trF (G' 171) (fun _ => -1) (L + 1) k) ∧ ((ltS B N A L s).2.1 ≠ 0 → rdE F' (ltS B N A L s).2.1 (ltS B N A L s).2.2 ∧ F' 170 2 = F 170 2)) ∧ qEx M_X4_readTreeLine 0 [qR 160, qU, qU] [] (xput h F G) (some (qI (qb ((ltS B N A L s).2.1 = 0)))) (xput h F' G') := by
  by_cases hk : kd B N s.1 = 17
  · by_cases hfu : L = 16
    · have e : ltS B N A L s = (s.1, 3, (s.1 : Int)) := by unfold ltS ckP; rw [qif_t hk, qif_t hfu, qif_t (by decide)]
      obtain ⟨F1, ⟨h1, h2⟩, hx⟩ := c_trFull (h := h) hP ha hsk hs hL hL2 hk hfu
      refine ⟨F1, G, ⟨fun a z _ => h1.1 a z, h1.2, fun _ _ => rfl, fun z => ?_, fun _ => ?_⟩, ?_⟩
      · rw [e] at z; cases z
      · rw [e]; exact ⟨h2, congrFun (h1.1 170 (by decide)) 2⟩
      · rw [e, qb_f (fun z => absurd z (by first | exact (show ¬ ((3 : Int) = 0) by decide) | exact (show ¬ ((1 : Int) = 0) by decide)))]; exact hx
    · have ec : ckP B N 17 L s.1 = 0 := by unfold ckP; rw [qif_t hk, qif_f hfu]
      have e : ltS B N A L s = trS B N A s := by unfold ltS; rw [ec, qif_f (by decide)]
      have eX : ltX B N A L s = trX B N A s := by unfold ltX; rw [ec, qif_f (by decide)]
      obtain ⟨F1, G1, ⟨h1, h2, h3, h4, h5⟩, hx⟩ := c_trChain (h := h) hP ha hsk hs hL hL2 hk (by omega) hC hA
      rw [e, eX]
      refine ⟨F1, G1, ⟨h1, h2, h3, fun z => ?_, h5⟩, hx⟩
      obtain ⟨a1, a2, a3, a4⟩ := h4 z
      have hb := trS_0 z
      have er : ∀ j, j < 4 * L → G1 171 j = G 171 j := fun j hj => by rw [a4, row4_at, if_neg (by omega)]
      have ek : G1 171 (4 * L) = trK B N s := by rw [a4, row4_at, if_pos (by omega), if_pos (by omega)]
      have eu : G1 171 (4 * L + 1) = trU B N A s := by rw [a4, row4_at, if_pos (by omega), if_neg (by omega), if_pos (by omega)]
      refine ⟨by omega, a1, a2, a3, fun i hi => ?_, fun k hk9 => ?_⟩
      · by_cases y : i = L
        · subst y
          rw [ek, eu]
          exact ⟨⟨hb.2.2.2.2.2.1, hb.2.2.2.2.2.2.1⟩, hb.2.2.2.2.2.2.2.1, hb.2.2.2.2.2.2.2.2⟩
        · rw [er _ (by omega), er _ (by omega)]; exact hC i (by omega)
      · unfold trX
        rw [qif_t z]
        show _ = qup (trF (G1 171) (fun _ => -1) L) (G1 171 (4 * L)).toNat (G1 171 (4 * L + 1)) k
        rw [trF_rows L er, ek, eu]
        by_cases y : k = (trK B N s).toNat
        · rw [y, qup_eq, qup_eq]
        · rw [qup_ne y, qup_ne y]; exact hA k hk9
  · have e : ltS B N A L s = (s.1, 1, (s.1 : Int)) := by unfold ltS ckP; rw [qif_f hk, qif_t (by decide)]
    obtain ⟨F1, ⟨h1, h2⟩, hx⟩ := c_trNot (h := h) hP ha hsk hs hL hL2 hk
    refine ⟨F1, G, ⟨fun a z _ => h1.1 a z, h1.2, fun _ _ => rfl, fun z => ?_, fun _ => ?_⟩, ?_⟩
    · rw [e] at z; cases z
    · rw [e]; exact ⟨h2, congrFun (h1.1 170 (by decide)) 2⟩
    · rw [e, qb_f (fun z => absurd z (by first | exact (show ¬ ((3 : Int) = 0) by decide) | exact (show ¬ ((1 : Int) = 0) by decide)))]; exact hx
set_option maxRecDepth 20000 in
set_option maxHeartbeats 4000000 in
theorem c_readTree {h : qH} {F G : Nat → Nat → Int} {B : Nat → Int} {N : Nat} {A0 : Nat → Int} (hP : rdP F G B N (sk B N 0)) (hN : N ≤ 400) (hL0 : F 170 2 = 0) (hA0 : ∀ k, k < 16 → A0 k = -1) : ∃ F' G', ((∀ a, a ≠ 160 → a ≠ 170 → F' a = F a) ∧ (∀ k, k < 5 ∨ 8 < k → F' 160 k = F 160 k) ∧ (∀ a, a ≠ 171 → G' a = G a) ∧ ((tnX B N A0 (tnJ B N A0)).1.2.1 = 0 → rdK F F' ∧ (tnJ B N A0) ≤ 16 ∧ F' 170 2 = ((tnJ B N A0) : Int) ∧ trC (G' 171) (tnJ B N A0) ∧ ∀ k, k < 16 → (tnX B N A0 (tnJ B N A0)).2 k = trF (G' 171) (fun _ => -1) (tnJ B N A0) k) ∧ ((tnX B N A0 (tnJ B N A0)).1.2.1 ≠ 0 → rdE F' (tnX B N A0 (tnJ B N A0)).1.2.1 (tnX B N A0 (tnJ B N A0)).1.2.2 ∧ ∃ L : Nat, L ≤ 16 ∧ F' 170 2 = (L : Int))) ∧ qEx M_X4_readTree 0 [qR 160, qU] [] (xput h F G) (some (qI (qb ((tnX B N A0 (tnJ B N A0)).1.2.1 = 0)))) (xput h F' G') := by
  refine x_in (fun Q hQ => ?_)
  refine qy (fun _ _ k9 => z_iconst d_X4_readTree_0 (by decide) k9) ?_
  refine qy (fun _ _ k9 => z_istore_n (ls' := [qR 160, qI 0]) d_X4_readTree_1 rfl (by decide) rfl k9) ?_
  refine qy (fun _ _ k9 => z_eq (qc rfl (qc (qi (rfl)) rfl)) rfl rfl k9) (y_wh3 (fun (i : Nat) (Fa : Nat → Nat → Int) (Ga : Nat → Nat → Int) => 17 - i) (fun (i : Nat) (Fa : Nat → Nat → Int) (Ga : Nat → Nat → Int) => [qR 160, qI (i : Int)]) (fun (i : Nat) (Fa : Nat → Nat → Int) (Ga : Nat → Nat → Int) => (xput h Fa Ga)) (fun (i : Nat) (Fa : Nat → Nat → Int) (Ga : Nat → Nat → Int) => (i ≤ 16 ∧ (tnX B N A0 i).1.2.1 = 0 ∧ ∀ k, k < i → gon N (tnX B N A0 k).1) ∧ ((∀ a, a ≠ 160 → a ≠ 170 → Fa a = F a) ∧ (∀ k, k < 5 ∨ 8 < k → Fa 160 k = F 160 k) ∧ (∀ a, a ≠ 171 → Ga a = G a)) ∧ rdK F Fa ∧ rdP Fa Ga B N (tnX B N A0 i).1.1 ∧ Fa 170 2 = (i : Int) ∧ trC (Ga 171) i ∧ ∀ k, k < 16 → (tnX B N A0 i).2 k = trF (Ga 171) (fun _ => -1) i k) 0 F G (⟨⟨by omega, rfl, fun k hk => absurd hk (by omega)⟩, ⟨fun _ _ _ => rfl, fun _ _ => rfl, fun _ _ => rfl⟩, rdK_rf F, hP, hL0, ⟨fun i hi => absurd hi (by omega), fun k hk => hA0 k hk⟩⟩) (fun i Fa Ga hp kk => ?_))
  obtain ⟨⟨hi, hs0, hgo⟩, hfa, hka, hPa, hLa, hrw⟩ := hp
  show qEy M_X4_readTree 2 [qR 160, qI (i : Int)] [] (xput h Fa Ga) Q
  have hPa6 := hPa
  obtain ⟨_, _, _, _, _, hPa6⟩ := hPa6
  refine qy (fun _ _ k9 => z_iload_n d_X4_readTree_2 rfl rfl k9) ?_
  refine qy (fun _ _ k9 => z_bipush d_X4_readTree_3 (by decide) k9) ?_
  refine qy2 (fun _ _ => z_icmp_gt 30 d_X4_readTree_5 (by decide)) (fun q5 => absurd q5 (by omega)) (fun q5 => ?_)
  refine qy (fun _ _ k9 => z_aload_n d_X4_readTree_8 rfl rfl k9) ?_
  refine qy (fun _ _ k9 => z_getf (v := qI ((Fa 160) 6)) d_X4_readTree_9 fl_X4_31 (xput_ob (c := (Fa 160)) xi_160 rfl (xsh_4 xo_160)) rfl k9) ?_
  refine qy (fun _ _ k9 => z_eq rfl (qc (qi hPa6) rfl) rfl k9) ?_
  refine qy2 (fun _ _ => z_if_eq 30 d_X4_readTree_12 (by decide)) (fun q12 => ?_) (fun q12 => ?_)
  · have hng : ¬ gon N (tnX B N A0 i).1 := fun z => absurd (kd_0.mp q12) (by have := z.2; omega)
    refine qy (fun _ _ k9 => z_iconst d_X4_readTree_30 (by decide) k9) ?_
    exact y_ret (hQ Fa Ga (⟨hfa.1, hfa.2.1, hfa.2.2, fun _ => ⟨hka, (by rw [(show (tnJ B N A0) = i from utl_at (by omega) (fun k hk z => z (hgo k hk)) hng)]; exact hi), (by rw [(show (tnJ B N A0) = i from utl_at (by omega) (fun k hk z => z (hgo k hk)) hng)]; exact hLa), (by rw [(show (tnJ B N A0) = i from utl_at (by omega) (fun k hk z => z (hgo k hk)) hng)]; exact hrw)⟩, fun z => absurd (by rw [(show (tnJ B N A0) = i from utl_at (by omega) (fun k hk z => z (hgo k hk)) hng)]; exact hs0) z⟩)) (z_zret d_X4_readTree_31 rfl (by first | exact qb_01 _ | decide | omega) (qsi (qb_t (by rw [(show (tnJ B N A0) = i from utl_at (by omega) (fun k hk z => z (hgo k hk)) hng)]; exact hs0))) rfl)
  · have hgi : gon N (tnX B N A0 i).1 := ⟨hs0, Nat.lt_of_not_le (fun z => q12 (kd_0.mpr z))⟩
    refine qy (fun _ _ k9 => z_aload_n d_X4_readTree_15 rfl rfl k9) ?_
    obtain ⟨F1, G1, ⟨ha1, hb1, hc1, hy1, hn1⟩, hx1⟩ := c_treeLine (h := h) (F := Fa) (G := Ga) (B := B) (N := N) (L := i) (A := (tnX B N A0 i).2) (tnX B N A0 i).1 hPa (tnX_le i) (tnX_sk i) hs0 hLa hi hrw.1 hrw.2
    refine qy (fun _ _ k9 => z_cv (M1 := M_X4_readTreeLine) d_X4_readTree_16 lv_X4_159 k_X4_readTreeLine [] rfl rfl (xput_ob (c := (Fa 160)) xi_160 rfl (xsh_4 xo_160)) ⟨_, _, rfl⟩ (Nat.le_of_ble_eq_true rfl) (by decide) (by decide) (Nat.le_of_ble_eq_true rfl) hx1 k9) ?_
    refine qy2 (fun _ _ => z_ifneB 24 d_X4_readTree_19 (by decide)) (fun q19 => ?_) (fun q19 => ?_)
    · refine qy (fun _ _ k9 => z_iinc (ls' := [qR 160, qI ((i : Int) + 1)]) d_X4_readTree_24 rfl (by decide) (by omega) rfl k9) ?_
      refine qy (fun _ _ k9 => z_goto 2 d_X4_readTree_27 (by decide) k9) ?_
      exact qy (fun _ _ k9 => z_eq (qc rfl (qc (qi (by omega)) rfl)) rfl rfl k9) (kk (i + 1) F1 G1 (⟨⟨by have := (hy1 q19).1; omega, q19, q_lts hgo hgi⟩, ⟨fun a h1 h2 => (ha1 a h1 h2).trans (hfa.1 a h1 h2), fun k hk => (hb1 k hk).trans (hfa.2.1 k hk), fun a h2 => (hc1 a h2).trans (hfa.2.2 a h2)⟩, rdK_tr hka (hy1 q19).2.1, (hy1 q19).2.2.1, (by rw [(hy1 q19).2.2.2.1]; omega), ⟨(hy1 q19).2.2.2.2.1, (hy1 q19).2.2.2.2.2⟩⟩) (by omega))
    · refine qy (fun _ _ k9 => z_iconst d_X4_readTree_22 (by decide) k9) ?_
      exact y_ret (hQ F1 G1 (⟨fun a h1 h2 => (ha1 a h1 h2).trans (hfa.1 a h1 h2), fun k hk => (hb1 k hk).trans (hfa.2.1 k hk), fun a h2 => (hc1 a h2).trans (hfa.2.2 a h2), fun z => absurd z (by rw [(show (tnJ B N A0) = i + 1 from utl_at (by omega) (fun k hk z => z (q_lts hgo hgi k hk)) (fun z => q19 z.1))]; exact q19), fun _ => ⟨(by rw [(show (tnJ B N A0) = i + 1 from utl_at (by omega) (fun k hk z => z (q_lts hgo hgi k hk)) (fun z => q19 z.1))]; exact (hn1 q19).1), i, hi, (hn1 q19).2.trans hLa⟩⟩)) (z_zret d_X4_readTree_23 rfl (by first | exact qb_01 _ | decide | omega) (qsi (qb_f (by rw [(show (tnJ B N A0) = i + 1 from utl_at (by omega) (fun k hk z => z (q_lts hgo hgi k hk)) (fun z => q19 z.1))]; exact q19))) rfl)
