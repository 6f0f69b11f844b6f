/-! ===== CONTRACTS: a run in thought: what it shows ===== -/
set_option maxRecDepth 20000 in
set_option maxHeartbeats 4000000 in
theorem c_rnLeast {h : qH} {F G : Nat → Nat → Int} {u n rg t : Nat} {tr df lt ch : Int} {M : Nat → Int} (hu2 : 2 ≤ u) (hu : xk u = 7) (hn : n ≤ 32) (hS : rnS F G u n rg tr df t lt ch M) : qEx M_X7_leastUnlit 0 [qR u, qU] [] (xput h F G) (some (qI (fst (fun k => ¬ M k = 7) n))) (xput h F G) := by
  refine q_gen (fun r hr er eh => ?_)
  refine z_iconst d_X7_leastUnlit_0 (by decide) ?_
  refine z_istore_n (ls' := [qR u, qI 0]) d_X7_leastUnlit_1 rfl (by decide) rfl ?_
  refine z_eq (qc rfl (qc (qi (rfl)) rfl)) rfl rfl (z_for n (fun i => [qR u, qI (i : Int)]) (fun i => (xput h F G)) (fun i => ∀ k, k < i → ¬ ¬ M k = 7) (fun k hk => absurd hk (by omega)) (fun i hii hp kki => ?_) (fun hp => ?_))
  · show qEx M_X7_leastUnlit 2 [qR u, qI (i : Int)] [] (xput h F G) r hr
    refine z_iload_n d_X7_leastUnlit_2 rfl rfl ?_
    refine z_aload_n d_X7_leastUnlit_3 rfl rfl ?_
    refine z_getf (v := qI ((F u) 3)) d_X7_leastUnlit_4 fl_X7_21 (xput_ob (c := (F u)) (rux_in hu2 hu) rfl (xsh_7 hu)) rfl ?_
    refine z_eq rfl (qc (qi hS.1.1) rfl) rfl ?_
    refine z_icmp_ge 29 d_X7_leastUnlit_7 (by decide) (fun hc1 => absurd hc1 (by omega)) (fun hc1 => ?_)
    refine z_aload_n d_X7_leastUnlit_10 rfl rfl ?_
    refine z_getf (v := qR (u + 1)) d_X7_leastUnlit_11 fl_X7_9 (xput_ob (c := (F u)) (rux_in hu2 hu) rfl (xsh_7 hu)) rfl ?_
    refine z_iload_n d_X7_leastUnlit_14 rfl rfl ?_
    refine z_ild i d_X7_leastUnlit_15 (xput_ar (g := (G (u + 1))) (rux_1 hu2 hu) rfl) rfl (by omega) ?_
    refine z_eq rfl (qc (qi (hS.2.2 i (by omega))) rfl) rfl ?_
    refine z_bipush d_X7_leastUnlit_16 (by decide) ?_
    refine z_icmp_eq 23 d_X7_leastUnlit_18 (by decide) (fun q1 => ?_) (fun q1 => ?_)
    · refine z_iinc (ls' := [qR u, qI ((i : Int) + 1)]) d_X7_leastUnlit_23 rfl (by decide) (by omega) rfl ?_
      refine z_goto 2 d_X7_leastUnlit_26 (by decide) ?_
      exact z_eq (qc rfl (qc (qi (by omega)) rfl)) rfl rfl (kki (q_lts hp (not_not_intro q1)))
    · refine z_iload_n d_X7_leastUnlit_21 rfl rfl ?_
      exact z_iret d_X7_leastUnlit_22 rfl (qer er (fst_at hii hp (fun z => q1 z))) eh
  · show qEx M_X7_leastUnlit 2 [qR u, qI (n : Int)] [] (xput h F G) r hr
    refine z_iload_n d_X7_leastUnlit_2 rfl rfl ?_
    refine z_aload_n d_X7_leastUnlit_3 rfl rfl ?_
    refine z_getf (v := qI ((F u) 3)) d_X7_leastUnlit_4 fl_X7_21 (xput_ob (c := (F u)) (rux_in hu2 hu) rfl (xsh_7 hu)) rfl ?_
    refine z_eq rfl (qc (qi hS.1.1) rfl) rfl ?_
    refine z_icmp_ge 29 d_X7_leastUnlit_7 (by decide) (fun hc2 => ?_) (fun hc2 => absurd hc2 (by omega))
    refine z_iconst d_X7_leastUnlit_29 (by decide) ?_
    exact z_iret d_X7_leastUnlit_30 rfl (qer er (fst_none hp)) eh
set_option maxRecDepth 20000 in
set_option maxHeartbeats 4000000 in
theorem c_rnOut0 {h : qH} {F G : Nat → Nat → Int} {u n rg t : Nat} {tr df lt ch : Int} {M : Nat → Int} (hu2 : 2 ≤ u) (hu : xk u = 7) (hn : n ≤ 32) (hS : rnS F G u n rg tr df t lt ch M) : qEx M_X7_outcome 0 [qR u, qI 0] [] (xput h F G) (some (qI (qif (lt ≠ 0) (t : Int) (-1)))) (xput h F G) := by
  refine q_gen (fun r hr er eh => ?_)
  refine z_iload_n d_X7_outcome_0 rfl rfl ?_
  refine z_tableIn 28 d_X7_outcome_1 (by decide) (by decide) (off := 27) rfl (by decide) ?_
  refine z_aload_n d_X7_outcome_28 rfl rfl ?_
  refine z_getf (v := qI ((F u) 9)) d_X7_outcome_29 fl_X7_41 (xput_ob (c := (F u)) (rux_in hu2 hu) rfl (xsh_7 hu)) rfl ?_
  refine z_eq rfl (qc (qi hS.2.1.2.2.1) rfl) rfl ?_
  suffices kJ32 : qEx M_X7_outcome 43 [qR u, qI 0] [qI (qif (lt ≠ 0) (t : Int) (-1))] (xput h F G) r hr by
    refine z_if_ne 39 d_X7_outcome_32 (by decide) (fun hc1 => ?_) (fun hc1 => ?_)
    · refine z_aload_n d_X7_outcome_39 rfl rfl ?_
      refine z_getf (v := qI ((F u) 8)) d_X7_outcome_40 fl_X7_38 (xput_ob (c := (F u)) (rux_in hu2 hu) rfl (xsh_7 hu)) rfl ?_
      refine z_eq rfl (qc (qi hS.2.1.2.1) rfl) rfl ?_
      exact z_eq rfl (qc (qi (qif_t hc1).symm) rfl) rfl kJ32
    · refine z_iconst d_X7_outcome_35 (by decide) ?_
      refine z_goto 43 d_X7_outcome_36 (by decide) ?_
      exact z_eq rfl (qc (qi (qif_f hc1).symm) rfl) rfl kJ32
  exact z_iret d_X7_outcome_43 rfl er eh
set_option maxRecDepth 20000 in
set_option maxHeartbeats 4000000 in
theorem c_rnOut1 {h : qH} {F G : Nat → Nat → Int} {u n rg t : Nat} {tr df lt ch : Int} {M : Nat → Int} (hu2 : 2 ≤ u) (hu : xk u = 7) (hn : n ≤ 32) (hS : rnS F G u n rg tr df t lt ch M) : qEx M_X7_outcome 0 [qR u, qI 1] [] (xput h F G) (some (qI lt)) (xput h F G) := by
  refine q_gen (fun r hr er eh => ?_)
  refine z_iload_n d_X7_outcome_0 rfl rfl ?_
  refine z_tableIn 44 d_X7_outcome_1 (by decide) (by decide) (off := 43) rfl (by decide) ?_
  refine z_aload_n d_X7_outcome_44 rfl rfl ?_
  refine z_getf (v := qI ((F u) 9)) d_X7_outcome_45 fl_X7_41 (xput_ob (c := (F u)) (rux_in hu2 hu) rfl (xsh_7 hu)) rfl ?_
  refine z_eq rfl (qc (qi hS.2.1.2.2.1) rfl) rfl ?_
  exact z_iret d_X7_outcome_48 rfl er eh
set_option maxRecDepth 20000 in
set_option maxHeartbeats 4000000 in
theorem c_rnOut2 {h : qH} {F G : Nat → Nat → Int} {u n rg t : Nat} {tr df lt ch : Int} {M : Nat → Int} (hu2 : 2 ≤ u) (hu : xk u = 7) (hn : n ≤ 32) (hS : rnS F G u n rg tr df t lt ch M) : qEx M_X7_outcome 0 [qR u, qI 2] [] (xput h F G) (some (qI (fst (fun k => ¬ M k = 7) n))) (xput h F G) := by
  refine q_gen (fun r hr er eh => ?_)
  refine z_iload_n d_X7_outcome_0 rfl rfl ?_
  refine z_tableIn 49 d_X7_outcome_1 (by decide) (by decide) (off := 48) rfl (by decide) ?_
  refine z_aload_n d_X7_outcome_49 rfl rfl ?_
  refine z_cv (M1 := M_X7_leastUnlit) d_X7_outcome_50 lv_X7_85 k_X7_leastUnlit [] rfl rfl (xput_ob (c := (F u)) (rux_in hu2 hu) rfl (xsh_7 hu)) ⟨_, _, rfl⟩ (Nat.le_of_ble_eq_true rfl) (by decide) (by decide) (Nat.le_of_ble_eq_true rfl) (c_rnLeast hu2 hu hn hS) ?_
  exact z_iret d_X7_outcome_53 rfl er eh
set_option maxRecDepth 20000 in
set_option maxHeartbeats 4000000 in
theorem c_rnOutN {h : qH} {F G : Nat → Nat → Int} {u : Nat} (what : Int) (hu2 : 2 ≤ u) (hu : xk u = 7) (hw : ¬ (0 ≤ what ∧ what ≤ 2)) : qEx M_X7_outcome 0 [qR u, qI what] [] (xput h F G) (some (qI (-1))) (xput h F G) := by
  refine q_gen (fun r hr er eh => ?_)
  refine z_iload_n d_X7_outcome_0 rfl rfl ?_
  refine z_tableOut 54 d_X7_outcome_1 (by omega) (by decide) ?_
  refine z_iconst d_X7_outcome_54 (by decide) ?_
  exact z_iret d_X7_outcome_55 rfl er eh
set_option maxRecDepth 20000 in
set_option maxHeartbeats 4000000 in
theorem c_rnGood {h : qH} {F G : Nat → Nat → Int} {u n rg t : Nat} {tr df lt ch : Int} {M : Nat → Int} (hu2 : 2 ≤ u) (hu : xk u = 7) (hS : rnS F G u n rg tr df t lt ch M) : qEx M_X7_isGood 0 [qR u] [] (xput h F G) (some (qI (qb (lt = (n : Int))))) (xput h F G) := by
  refine q_gen (fun r hr er eh => ?_)
  refine z_aload_n d_X7_isGood_0 rfl rfl ?_
  refine z_getf (v := qI ((F u) 9)) d_X7_isGood_1 fl_X7_41 (xput_ob (c := (F u)) (rux_in hu2 hu) rfl (xsh_7 hu)) rfl ?_
  refine z_eq rfl (qc (qi hS.2.1.2.2.1) rfl) rfl ?_
  refine z_aload_n d_X7_isGood_4 rfl rfl ?_
  refine z_getf (v := qI ((F u) 3)) d_X7_isGood_5 fl_X7_21 (xput_ob (c := (F u)) (rux_in hu2 hu) rfl (xsh_7 hu)) rfl ?_
  refine z_eq rfl (qc (qi hS.1.1) rfl) rfl ?_
  suffices kJ8 : qEx M_X7_isGood 16 [qR u] [qI (qb (lt = (n : Int)))] (xput h F G) r hr by
    refine z_icmp_ne 15 d_X7_isGood_8 (by decide) (fun hc1 => ?_) (fun hc1 => ?_)
    · refine z_iconst d_X7_isGood_15 (by decide) ?_
      exact z_eq rfl (qc (qi (qb_f (by omega)).symm) rfl) rfl kJ8
    · refine z_iconst d_X7_isGood_11 (by decide) ?_
      refine z_goto 16 d_X7_isGood_12 (by decide) ?_
      exact z_eq rfl (qc (qi (qb_t (by omega)).symm) rfl) rfl kJ8
  exact z_zret d_X7_isGood_16 rfl (by first | exact qb_01 _ | decide | omega) er eh
set_option maxRecDepth 20000 in
set_option maxHeartbeats 4000000 in
theorem c_rnGoes {h : qH} {F G : Nat → Nat → Int} {u n rg t : Nat} {tr df lt ch : Int} {M : Nat → Int} (hu2 : 2 ≤ u) (hu : xk u = 7) (hS : rnS F G u n rg tr df t lt ch M) : qEx M_X7_goesOn 0 [qR u] [] (xput h F G) (some (qI (qb (t < 3 * n + 20 ∧ lt = 0)))) (xput h F G) := by
  refine q_gen (fun r hr er eh => ?_)
  refine z_aload_n d_X7_goesOn_0 rfl rfl ?_
  refine z_getf (v := qI ((F u) 8)) d_X7_goesOn_1 fl_X7_38 (xput_ob (c := (F u)) (rux_in hu2 hu) rfl (xsh_7 hu)) rfl ?_
  refine z_eq rfl (qc (qi hS.2.1.2.1) rfl) rfl ?_
  refine z_aload_n d_X7_goesOn_4 rfl rfl ?_
  refine z_getf (v := qI ((F u) 7)) d_X7_goesOn_5 fl_X7_35 (xput_ob (c := (F u)) (rux_in hu2 hu) rfl (xsh_7 hu)) rfl ?_
  refine z_eq rfl (qc (qi hS.2.1.1) rfl) rfl ?_
  suffices kJ8 : qEx M_X7_goesOn 23 [qR u] [qI (qb (((t : Int) < (3 * (n : Int) + 20)) ∧ (lt = 0)))] (xput h F G) r hr by
    refine z_icmp_ge 22 d_X7_goesOn_8 (by decide) (fun hc1 => ?_) (fun hc1 => ?_)
    · refine z_iconst d_X7_goesOn_22 (by decide) ?_
      exact z_eq rfl (qc (qi (qb_f (by omega)).symm) rfl) rfl kJ8
    · refine z_aload_n d_X7_goesOn_11 rfl rfl ?_
      refine z_getf (v := qI ((F u) 9)) d_X7_goesOn_12 fl_X7_41 (xput_ob (c := (F u)) (rux_in hu2 hu) rfl (xsh_7 hu)) rfl ?_
      refine z_eq rfl (qc (qi hS.2.1.2.2.1) rfl) rfl ?_
      suffices kJ15 : qEx M_X7_goesOn 23 [qR u] [qI (qb (lt = 0))] (xput h F G) r hr by
        refine z_if_ne 22 d_X7_goesOn_15 (by decide) (fun hc2 => ?_) (fun hc2 => ?_)
        · refine z_iconst d_X7_goesOn_22 (by decide) ?_
          exact z_eq rfl (qc (qi (qb_f (by omega)).symm) rfl) rfl kJ15
        · refine z_iconst d_X7_goesOn_18 (by decide) ?_
          refine z_goto 23 d_X7_goesOn_19 (by decide) ?_
          exact z_eq rfl (qc (qi (qb_t (by omega)).symm) rfl) rfl kJ15
      exact z_eq rfl (qc (qi (qb_congr (by omega))) rfl) rfl kJ8
  exact z_zret d_X7_goesOn_23 rfl (by first | exact qb_01 _ | decide | omega) (qer er (qb_congr (by omega))) eh
set_option maxRecDepth 20000 in
set_option maxHeartbeats 4000000 in
theorem c_rnWho {h : qH} {F G : Nat → Nat → Int} {u n rg t : Nat} {tr df lt ch : Int} {M : Nat → Int} (md : Int) (hu2 : 2 ≤ u) (hu : xk u = 7) (hn : n ≤ 32) (hS : rnS F G u n rg tr df t lt ch M) : qEx M_X7_whoHas 0 [qR u, qI md, qU, qU] [] (xput h F G) (some (qI (bst (fun k => k < n ∧ M k = md)))) (xput h F G) := by
  refine q_gen (fun r hr er eh => ?_)
  refine z_iconst d_X7_whoHas_0 (by decide) ?_
  refine z_istore_n (ls' := [qR u, qI md, qI 0, qU]) d_X7_whoHas_1 rfl (by decide) rfl ?_
  refine z_iconst d_X7_whoHas_2 (by decide) ?_
  refine z_istore_n (ls' := [qR u, qI md, qI 0, qI 0]) d_X7_whoHas_3 rfl (by decide) rfl ?_
  refine z_eq (qc rfl (qc rfl (qc (qi (bst_0.trans (bst_cg (fun k _ => ⟨False.elim, fun z => absurd z.1 (by omega)⟩)))) (qc (qi (rfl)) rfl)))) rfl rfl (z_for n (fun i => [qR u, qI md, qI (bst (fun k => k < i ∧ M k = md)), qI (i : Int)]) (fun i => (xput h F G)) (fun i => True) trivial (fun i hii hp kki => ?_) (fun hp => ?_))
  · show qEx M_X7_whoHas 4 [qR u, qI md, qI (bst (fun k => k < i ∧ M k = md)), qI (i : Int)] [] (xput h F G) r hr
    refine z_iload_n d_X7_whoHas_4 rfl rfl ?_
    refine z_aload_n d_X7_whoHas_5 rfl rfl ?_
    refine z_getf (v := qI ((F u) 3)) d_X7_whoHas_6 fl_X7_21 (xput_ob (c := (F u)) (rux_in hu2 hu) rfl (xsh_7 hu)) rfl ?_
    refine z_eq rfl (qc (qi hS.1.1) rfl) rfl ?_
    refine z_icmp_ge 34 d_X7_whoHas_9 (by decide) (fun hc1 => absurd hc1 (by omega)) (fun hc1 => ?_)
    refine z_aload_n d_X7_whoHas_12 rfl rfl ?_
    refine z_getf (v := qR (u + 1)) d_X7_whoHas_13 fl_X7_9 (xput_ob (c := (F u)) (rux_in hu2 hu) rfl (xsh_7 hu)) rfl ?_
    refine z_iload_n d_X7_whoHas_16 rfl rfl ?_
    refine z_ild i d_X7_whoHas_17 (xput_ar (g := (G (u + 1))) (rux_1 hu2 hu) rfl) rfl (by omega) ?_
    refine z_eq rfl (qc (qi (hS.2.2 i (by omega))) rfl) rfl ?_
    refine z_iload_n d_X7_whoHas_18 rfl rfl ?_
    refine z_icmp_ne 28 d_X7_whoHas_19 (by decide) (fun q1 => ?_) (fun q1 => ?_)
    · refine z_iinc (ls' := [qR u, qI md, qI (bst (fun k => k < i ∧ M k = md)), qI ((i : Int) + 1)]) d_X7_whoHas_28 rfl (by decide) (by omega) rfl ?_
      refine z_goto 4 d_X7_whoHas_31 (by decide) ?_
      exact z_eq (qc rfl (qc rfl (qc (qi (bst_cg (fun k _ => ⟨fun z => ⟨by omega, z.2⟩, fun z => ⟨by rcases Nat.lt_or_ge k i with y | y; exact y; exact absurd (show M i = md by rw [show i = k by omega]; exact z.2) q1, z.2⟩⟩))) (qc (qi (by omega)) rfl)))) rfl rfl (kki trivial)
    · refine z_iload_n d_X7_whoHas_22 rfl rfl ?_
      refine z_iconst d_X7_whoHas_23 (by decide) ?_
      refine z_iload_n d_X7_whoHas_24 rfl rfl ?_
      refine z_ishl d_X7_whoHas_25 ?_
      refine z_ior d_X7_whoHas_26 ?_
      refine z_istore_n (ls' := [qR u, qI md, qI (qOr (bst (fun k => k < i ∧ M k = md)) (qShl 1 (i : Int))), qI (i : Int)]) d_X7_whoHas_27 rfl (by decide) rfl ?_
      refine z_iinc (ls' := [qR u, qI md, qI (qOr (bst (fun k => k < i ∧ M k = md)) (qShl 1 (i : Int))), qI ((i : Int) + 1)]) d_X7_whoHas_28 rfl (by decide) (by omega) rfl ?_
      refine z_goto 4 d_X7_whoHas_31 (by decide) ?_
      exact z_eq (qc rfl (qc rfl (qc (qi ((bst_or (by omega) (by omega)).trans (bst_cg (fun k _ => ⟨fun z => z.elim (fun y => ⟨by omega, y.2⟩) (fun y => ⟨by omega, (show i = k by omega) ▸ Classical.not_not.mp q1⟩), fun z => by rcases Nat.lt_or_ge k i with y | y; exact Or.inl ⟨y, z.2⟩; exact Or.inr (by omega)⟩)))) (qc (qi (by omega)) rfl)))) rfl rfl (kki trivial)
  · show qEx M_X7_whoHas 4 [qR u, qI md, qI (bst (fun k => k < n ∧ M k = md)), qI (n : Int)] [] (xput h F G) r hr
    refine z_iload_n d_X7_whoHas_4 rfl rfl ?_
    refine z_aload_n d_X7_whoHas_5 rfl rfl ?_
    refine z_getf (v := qI ((F u) 3)) d_X7_whoHas_6 fl_X7_21 (xput_ob (c := (F u)) (rux_in hu2 hu) rfl (xsh_7 hu)) rfl ?_
    refine z_eq rfl (qc (qi hS.1.1) rfl) rfl ?_
    refine z_icmp_ge 34 d_X7_whoHas_9 (by decide) (fun hc2 => ?_) (fun hc2 => absurd hc2 (by omega))
    refine z_iload_n d_X7_whoHas_34 rfl rfl ?_
    exact z_iret d_X7_whoHas_35 rfl er eh
set_option maxRecDepth 20000 in
set_option maxHeartbeats 4000000 in
theorem c_rnSet {h : qH} {F G : Nat → Nat → Int} {u n rg t : Nat} {tr df lt ch : Int} {M : Nat → Int} (hu2 : 2 ≤ u) (hu : xk u = 7) (hn : n ≤ 32) (hM : ∀ k, k < n → 0 ≤ M k ∧ M k ≤ 7) (hS : rnS F G u n rg tr df t lt ch M) : qEx M_X7_mindSet 0 [qR u, qU, qU] [] (xput h F G) (some (qI (bst (fun m => ∃ k, k < n ∧ M k = (m : Int))))) (xput h F G) := by
  refine q_gen (fun r hr er eh => ?_)
  refine z_iconst d_X7_mindSet_0 (by decide) ?_
  refine z_istore_n (ls' := [qR u, qI 0, qU]) d_X7_mindSet_1 rfl (by decide) rfl ?_
  refine z_iconst d_X7_mindSet_2 (by decide) ?_
  refine z_istore_n (ls' := [qR u, qI 0, qI 0]) d_X7_mindSet_3 rfl (by decide) rfl ?_
  refine z_eq (qc rfl (qc (qi (bst_0.trans (bst_cg (fun k _ => ⟨False.elim, fun z => z.elim (fun y hy => absurd hy.1 (by omega))⟩)))) (qc (qi (rfl)) rfl))) rfl rfl (z_for n (fun i => [qR u, qI (bst (fun m => ∃ k, k < i ∧ M k = (m : Int))), qI (i : Int)]) (fun i => (xput h F G)) (fun i => True) trivial (fun i hii hp kki => ?_) (fun hp => ?_))
  · show qEx M_X7_mindSet 4 [qR u, qI (bst (fun m => ∃ k, k < i ∧ M k = (m : Int))), qI (i : Int)] [] (xput h F G) r hr
    have hMi := hM i hii
    refine z_iload_n d_X7_mindSet_4 rfl rfl ?_
    refine z_aload_n d_X7_mindSet_5 rfl rfl ?_
    refine z_getf (v := qI ((F u) 3)) d_X7_mindSet_6 fl_X7_21 (xput_ob (c := (F u)) (rux_in hu2 hu) rfl (xsh_7 hu)) rfl ?_
    refine z_eq rfl (qc (qi hS.1.1) rfl) rfl ?_
    refine z_icmp_ge 29 d_X7_mindSet_9 (by decide) (fun hc1 => absurd hc1 (by omega)) (fun hc1 => ?_)
    refine z_iload_n d_X7_mindSet_12 rfl rfl ?_
    refine z_iconst d_X7_mindSet_13 (by decide) ?_
    refine z_aload_n d_X7_mindSet_14 rfl rfl ?_
    refine z_getf (v := qR (u + 1)) d_X7_mindSet_15 fl_X7_9 (xput_ob (c := (F u)) (rux_in hu2 hu) rfl (xsh_7 hu)) rfl ?_
    refine z_iload_n d_X7_mindSet_18 rfl rfl ?_
    refine z_ild i d_X7_mindSet_19 (xput_ar (g := (G (u + 1))) (rux_1 hu2 hu) rfl) rfl (by omega) ?_
    refine z_eq rfl (qc (qi (hS.2.2 i (by omega))) rfl) rfl ?_
    refine z_ishl d_X7_mindSet_20 ?_
    refine z_ior d_X7_mindSet_21 ?_
    refine z_istore_n (ls' := [qR u, qI (qOr (bst (fun m => ∃ k, k < i ∧ M k = (m : Int))) (qShl 1 (M i))), qI (i : Int)]) d_X7_mindSet_22 rfl (by decide) rfl ?_
    refine z_iinc (ls' := [qR u, qI (qOr (bst (fun m => ∃ k, k < i ∧ M k = (m : Int))) (qShl 1 (M i))), qI ((i : Int) + 1)]) d_X7_mindSet_23 rfl (by decide) (by omega) rfl ?_
    refine z_goto 4 d_X7_mindSet_26 (by decide) ?_
    exact z_eq (qc rfl (qc (qi ((bst_or (by omega) (by omega)).trans (bst_cg (fun m _ => ⟨fun z => z.elim (fun ⟨k, h1, h2⟩ => ⟨k, by omega, h2⟩) (fun y => ⟨i, by omega, y⟩), fun ⟨k, h1, h2⟩ => by rcases Nat.lt_or_ge k i with y | y; exact Or.inl ⟨k, y, h2⟩; exact Or.inr (by rw [show i = k by omega]; exact h2)⟩)))) (qc (qi (by omega)) rfl))) rfl rfl (kki trivial)
  · show qEx M_X7_mindSet 4 [qR u, qI (bst (fun m => ∃ k, k < n ∧ M k = (m : Int))), qI (n : Int)] [] (xput h F G) r hr
    refine z_iload_n d_X7_mindSet_4 rfl rfl ?_
    refine z_aload_n d_X7_mindSet_5 rfl rfl ?_
    refine z_getf (v := qI ((F u) 3)) d_X7_mindSet_6 fl_X7_21 (xput_ob (c := (F u)) (rux_in hu2 hu) rfl (xsh_7 hu)) rfl ?_
    refine z_eq rfl (qc (qi hS.1.1) rfl) rfl ?_
    refine z_icmp_ge 29 d_X7_mindSet_9 (by decide) (fun hc2 => ?_) (fun hc2 => absurd hc2 (by omega))
    refine z_iload_n d_X7_mindSet_29 rfl rfl ?_
    exact z_iret d_X7_mindSet_30 rfl er eh
/-- the cases that a row asks, put into A -/
noncomputable def ncF (n : Nat) (M A : Nat → Int) (i : Nat) : Nat → Int := fun c => qif (∃ k, k < i ∧ (stC n 0 M k).toNat = c) 1 (A c)
theorem ncF_0 {n : Nat} {M A : Nat → Int} : ncF n M A 0 = A := by
  funext c
  exact qif_f (fun ⟨k, h, _⟩ => absurd h (by omega))
theorem ncF_s {n i : Nat} {M A : Nat → Int} : qup (ncF n M A i) (stC n 0 M i).toNat 1 = ncF n M A (i + 1) := by
  funext c
  unfold qup
  by_cases e : c = (stC n 0 M i).toNat
  · rw [if_pos e]
    exact (qif_t ⟨i, by omega, e.symm⟩).symm
  · rw [if_neg e]
    exact qif_cg ⟨fun ⟨k, h1, h2⟩ => ⟨k, by omega, h2⟩, fun ⟨k, h1, h2⟩ => by
      rcases Nat.lt_or_ge k i with y | y
      · exact ⟨k, y, h2⟩
      · rw [show k = i by omega] at h2; exact absurd h2.symm e⟩ rfl rfl
set_option maxRecDepth 20000 in
set_option maxHeartbeats 4000000 in
theorem c_rnNote {h : qH} {F G : Nat → Nat → Int} {u d n rg t : Nat} {tr df lt ch : Int} {M : Nat → Int} (hu2 : 2 ≤ u) (hu : xk u = 7) (hs : xAr d 0 648) (hd : d < u ∨ u + 3 < d) (hn : n ≤ 32) (hM : ∀ k, k < n → 0 ≤ M k ∧ M k ≤ 7) (hS : rnS F G u n rg tr df t lt ch M) : qEx M_X7_noteCases 0 [qR u, qR d, qU, qU, qU] [] (xput h F G) none (xput h F (gup G d (ncF n M (G d) n))) := by
  refine q_gen (fun r hr er eh => ?_)
  have hd2 := hs.1.1
  refine z_bipush d_X7_noteCases_0 (by decide) ?_
  refine z_istore_n (ls' := [qR u, qR d, qI 8, qU, qU]) d_X7_noteCases_2 rfl (by decide) rfl ?_
  refine z_iconst d_X7_noteCases_3 (by decide) ?_
  refine z_istore_n (ls' := [qR u, qR d, qI 8, qI 0, qU]) d_X7_noteCases_4 rfl (by decide) rfl ?_
  refine z_eq (qc rfl (qc rfl (qc (qi (by unfold stL; rw [qif_t (by decide)]; rfl)) (qc (qi (rfl)) (qc rfl rfl))))) rfl (xput_cg rfl (by rw [ncF_0, gup_self rfl])) (z_for n (fun i => [qR u, qR d, qI (stL n 0 M i), qI (i : Int), qU]) (fun i => (xput h F (gup G d (ncF n M (G d) i)))) (fun i => True) trivial (fun i hii hp kki => ?_) (fun hp => ?_))
  · show qEx M_X7_noteCases 5 [qR u, qR d, qI (stL n 0 M i), qI (i : Int), qU] [] (xput h F (gup G d (ncF n M (G d) i))) r hr
    have e1 := stL_bd (rg := 0) hii hM
    have e2 := stR_bd (rg := 0) hii hM
    have e3 := stC_bd (rg := 0) hii hM
    have e4 := hM i hii
    refine z_iload_n d_X7_noteCases_5 rfl rfl ?_
    refine z_aload_n d_X7_noteCases_6 rfl rfl ?_
    refine z_getf (v := qI ((F u) 3)) d_X7_noteCases_7 fl_X7_21 (xput_ob (c := (F u)) (rux_in hu2 hu) rfl (xsh_7 hu)) rfl ?_
    refine z_eq rfl (qc (qi hS.1.1) rfl) rfl ?_
    refine z_icmp_ge 66 d_X7_noteCases_10 (by decide) (fun hc1 => absurd hc1 (by omega)) (fun hc1 => ?_)
    refine z_iload_n d_X7_noteCases_13 rfl rfl ?_
    refine z_iconst d_X7_noteCases_14 (by decide) ?_
    refine z_iadd d_X7_noteCases_15 (by omega) ?_
    refine z_aload_n d_X7_noteCases_16 rfl rfl ?_
    refine z_getf (v := qI ((F u) 3)) d_X7_noteCases_17 fl_X7_21 (xput_ob (c := (F u)) (rux_in hu2 hu) rfl (xsh_7 hu)) rfl ?_
    refine z_eq rfl (qc (qi hS.1.1) rfl) rfl ?_
    suffices kJ20 : qEx M_X7_noteCases 36 [qR u, qR d, qI (stL n 0 M i), qI (i : Int), qU] [qI (qif (((i : Int) + 1) ≥ (n : Int)) 8 (M (i + 1)))] (xput h F (gup G d (ncF n M (G d) i))) r hr by
      refine z_icmp_ge 34 d_X7_noteCases_20 (by decide) (fun hc2 => ?_) (fun hc2 => ?_)
      · refine z_bipush d_X7_noteCases_34 (by decide) ?_
        exact z_eq rfl (qc (qi (qif_t hc2).symm) rfl) rfl kJ20
      · refine z_aload_n d_X7_noteCases_23 rfl rfl ?_
        refine z_getf (v := qR (u + 1)) d_X7_noteCases_24 fl_X7_9 (xput_ob (c := (F u)) (rux_in hu2 hu) rfl (xsh_7 hu)) rfl ?_
        refine z_iload_n d_X7_noteCases_27 rfl rfl ?_
        refine z_iconst d_X7_noteCases_28 (by decide) ?_
        refine z_iadd d_X7_noteCases_29 (by omega) ?_
        refine z_ild (i + 1) d_X7_noteCases_30 (xput_ar (g := (G (u + 1))) (rux_1 hu2 hu) (gup_ne (by omega))) rfl (by omega) ?_
        refine z_eq rfl (qc (qi (hS.2.2 (i + 1) (by omega))) rfl) rfl ?_
        refine z_goto 36 d_X7_noteCases_31 (by decide) ?_
        exact z_eq rfl (qc (qi (qif_f hc2).symm) rfl) rfl kJ20
    refine z_istore (ls' := [qR u, qR d, qI (stL n 0 M i), qI (i : Int), qI (qif (((i : Int) + 1) ≥ (n : Int)) 8 (M (i + 1)))]) d_X7_noteCases_36 (by decide) rfl ?_
    refine z_eq (qc rfl (qc rfl (qc rfl (qc rfl (qc (qi (show (qif (((i : Int) + 1) ≥ (n : Int)) 8 (M (i + 1))) = (stR n 0 M i) from rfl)) rfl))))) rfl rfl ?_
    refine z_aload_n d_X7_noteCases_38 rfl rfl ?_
    refine z_aload_n d_X7_noteCases_39 rfl rfl ?_
    refine z_getf (v := qR (u + 1)) d_X7_noteCases_40 fl_X7_9 (xput_ob (c := (F u)) (rux_in hu2 hu) rfl (xsh_7 hu)) rfl ?_
    refine z_iload_n d_X7_noteCases_43 rfl rfl ?_
    refine z_ild i d_X7_noteCases_44 (xput_ar (g := (G (u + 1))) (rux_1 hu2 hu) (gup_ne (by omega))) rfl (by omega) ?_
    refine z_eq rfl (qc (qi (hS.2.2 i (by omega))) rfl) rfl ?_
    refine z_iload_n d_X7_noteCases_45 rfl rfl ?_
    refine z_iload d_X7_noteCases_46 rfl ?_
    refine z_cs (M1 := M_X11_caseOf) d_X7_noteCases_48 ls_X7_81 k_X11_caseOf [qI (M i), qI (stL n 0 M i), qI (stR n 0 M i)] rfl rfl (Nat.le_of_ble_eq_true rfl) (by decide) (by decide) (Nat.le_of_ble_eq_true rfl) (c_caseOf (M i) (stL n 0 M i) (stR n 0 M i) (by omega) (by omega) (by omega)) ?_
    refine z_eq rfl (qc (qi (show (81 * (M i) + 9 * (stL n 0 M i) + (stR n 0 M i)) = (stC n 0 M i) from rfl)) rfl) rfl ?_
    refine z_iconst d_X7_noteCases_51 (by decide) ?_
    refine z_ist ((stC n 0 M i).toNat) d_X7_noteCases_52 (xput_ar (g := (ncF n M (G d) i)) hs (gup_eq _ _)) (by omega) (by omega) (by omega) ?_
    refine z_eq rfl rfl ((xput_sa hs).trans (xput_cg rfl (gup_gup _ _ _))) ?_
    refine z_aload_n d_X7_noteCases_53 rfl rfl ?_
    refine z_getf (v := qR (u + 1)) d_X7_noteCases_54 fl_X7_9 (xput_ob (c := (F u)) (rux_in hu2 hu) rfl (xsh_7 hu)) rfl ?_
    refine z_iload_n d_X7_noteCases_57 rfl rfl ?_
    refine z_ild i d_X7_noteCases_58 (xput_ar (g := (G (u + 1))) (rux_1 hu2 hu) (gup_ne (by omega))) rfl (by omega) ?_
    refine z_eq rfl (qc (qi (hS.2.2 i (by omega))) rfl) rfl ?_
    refine z_istore_n (ls' := [qR u, qR d, qI (M i), qI (i : Int), qI (stR n 0 M i)]) d_X7_noteCases_59 rfl (by decide) rfl ?_
    refine z_iinc (ls' := [qR u, qR d, qI (M i), qI ((i : Int) + 1), qI (stR n 0 M i)]) d_X7_noteCases_60 rfl (by decide) (by omega) rfl ?_
    refine z_goto 5 d_X7_noteCases_63 (by decide) ?_
    exact z_dr (qle_k rfl (qle_k rfl (qle_k (qi (by unfold stL; rw [qif_f (by omega)]; rfl)) (qle_k (qi (by omega)) (qle_d qle_n))))) rfl (xput_cg rfl (gup_cg rfl ncF_s)) (kki trivial)
  · show qEx M_X7_noteCases 5 [qR u, qR d, qI (stL n 0 M n), qI (n : Int), qU] [] (xput h F (gup G d (ncF n M (G d) n))) r hr
    refine z_iload_n d_X7_noteCases_5 rfl rfl ?_
    refine z_aload_n d_X7_noteCases_6 rfl rfl ?_
    refine z_getf (v := qI ((F u) 3)) d_X7_noteCases_7 fl_X7_21 (xput_ob (c := (F u)) (rux_in hu2 hu) rfl (xsh_7 hu)) rfl ?_
    refine z_eq rfl (qc (qi hS.1.1) rfl) rfl ?_
    refine z_icmp_ge 66 d_X7_noteCases_10 (by decide) (fun hc3 => ?_) (fun hc3 => absurd hc3 (by omega))
    exact z_vret d_X7_noteCases_66 rfl er eh
