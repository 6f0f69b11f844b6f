/-! ===== CONTRACTS: books, whole ===== -/
theorem cnt_t {p : Nat → Prop} {n : Nat} (h : p n) : cnt p (n + 1) = cnt p n + 1 := by show cnt p n + qb (p n) = _; rw [qb_t h]
theorem cnt_f {p : Nat → Prop} {n : Nat} (h : ¬ p n) : cnt p (n + 1) = cnt p n := by show cnt p n + qb (p n) = _; rw [qb_f h, Int.add_zero]
theorem bkR_C {F G : Nat → Nat → Int} {b : Nat} {R C : Nat → Int} (h : bkR F G b R C) {k : Nat} (hk : k < 4) : F (b + 4 + 5 * k) 4 = C k ∧ 0 ≤ C k ∧ C k ≤ 24 := ⟨(h k hk).1, (h k hk).2.1, (h k hk).2.2.1⟩
set_option maxRecDepth 20000 in
set_option maxHeartbeats 4000000 in
theorem c_bkHas {h : qH} {F G : Nat → Nat → Int} {b : Nat} {R C : Nat → Int} (i : Nat) (hb2 : 2 ≤ b) (hb : xk b = 0) (hi : i < 96) (hR : bkR F G b R C) : qEx M_X0_has 0 [qR b, qI (i : Int)] [] (xput h F G) (some (qI (qb (rlP C i)))) (xput h F G) := by
  refine q_gen (fun r hr er eh => ?_)
  have hin := (bkp hb2 hb).2.1
  refine z_iload_n d_X0_has_0 rfl rfl ?_
  refine z_iconst d_X0_has_1 (by decide) ?_
  refine z_bipush d_X0_has_2 (by decide) ?_
  refine z_cs (M1 := M_X11_isWithin) d_X0_has_4 ls_X0_57 k_X11_isWithin [qI (i : Int), qI 0, qI 95] rfl rfl (Nat.le_of_ble_eq_true rfl) (by decide) (by decide) (Nat.le_of_ble_eq_true rfl) (c_isWithin (i : Int) 0 95) ?_
  refine z_ifeqB 33 d_X0_has_7 (by decide) (fun hc1 => absurd hc1 (by omega)) (fun hc1 => ?_)
  refine z_aload_n d_X0_has_10 rfl rfl ?_
  refine z_getf (v := qR (b + 1)) d_X0_has_11 fl_X0_11 (xput_ob (c := (F b)) (bkx_in hb2 hb) rfl (xsh_0 hb)) rfl ?_
  refine z_iload_n d_X0_has_14 rfl rfl ?_
  refine z_bipush d_X0_has_15 (by decide) ?_
  refine z_idiv d_X0_has_17 (by omega) ?_
  refine z_eq rfl (qc (qi (by rw [Int.tdiv_eq_ediv_of_nonneg (by omega)] <;> omega)) rfl) rfl ?_
  refine z_ald (i / 24) d_X0_has_18 (Or.inl ⟨rfl, rfl, rfl⟩) (xput_ob ⟨by omega, by have := (bkp hb2 hb).2.1; omega⟩ rfl (xsh_20 (bkp hb2 hb).1)) rfl (by omega) (show (if (i / 24) < 4 then some ((b + 1) + 3 + 5 * (i / 24)) else none) = some (b + 4 + 5 * (i / 24)) from (if_pos (by omega)).trans (congrArg some (by omega))) ?_
  refine z_iload_n d_X0_has_19 rfl rfl ?_
  refine z_bipush d_X0_has_20 (by decide) ?_
  refine z_irem d_X0_has_22 (by omega) ?_
  refine z_eq rfl (qc (qi (by rw [Int.tmod_eq_emod_of_nonneg (by omega)] <;> omega)) rfl) rfl ?_
  have hCk := bkR_C hR (k := (i / 24)) (by omega)
  refine z_cv (M1 := M_X2_has) d_X0_has_23 lv_X0_61 k_X2_has [qI (((i % 24) : Nat) : Int)] rfl rfl (xput_ob (c := (F (b + 4 + 5 * (i / 24)))) (pgx_in (by omega) ((bkp hb2 hb).2.2 (i / 24) (by omega))) rfl (xsh_2 ((bkp hb2 hb).2.2 (i / 24) (by omega)))) ⟨_, _, rfl⟩ (Nat.le_of_ble_eq_true rfl) (by decide) (by decide) (Nat.le_of_ble_eq_true rfl) (z_end (c_pgHas (((i % 24) : Nat) : Int) (by omega) ((bkp hb2 hb).2.2 (i / 24) (by omega)) (by rw [hCk.1]; exact hCk.2)) (show _ = some (qI (qb ((((i % 24) : Nat) : Int) < C (i / 24)))) by rw [hCk.1]; exact congrArg (fun z => some (qI z)) (qb_congr (by omega))) rfl) ?_
  suffices kJ26 : qEx M_X0_has 34 [qR b, qI (i : Int)] [qI (qb ((((i % 24) : Nat) : Int) < C (i / 24)))] (xput h F G) r hr by
    refine z_ifeqB 33 d_X0_has_26 (by decide) (fun hc2 => ?_) (fun hc2 => ?_)
    · refine z_iconst d_X0_has_33 (by decide) ?_
      exact z_eq rfl (qc (qi (qb_f (by omega)).symm) rfl) rfl kJ26
    · refine z_iconst d_X0_has_29 (by decide) ?_
      refine z_goto 34 d_X0_has_30 (by decide) ?_
      exact z_eq rfl (qc (qi (qb_t (by omega)).symm) rfl) rfl kJ26
  exact z_zret d_X0_has_34 rfl (by first | exact qb_01 _ | decide | omega) (qer er (qb_congr (by unfold rlP; exact Iff.rfl))) eh
set_option maxRecDepth 20000 in
set_option maxHeartbeats 4000000 in
theorem c_bkHasNo {h : qH} {F G : Nat → Nat → Int} {b : Nat} (i : Int) (hb2 : 2 ≤ b) (hb : xk b = 0) (hi : ¬ (0 ≤ i ∧ i ≤ 95)) : qEx M_X0_has 0 [qR b, qI i] [] (xput h F G) (some (qI 0)) (xput h F G) := by
  refine q_gen (fun r hr er eh => ?_)
  refine z_iload_n d_X0_has_0 rfl rfl ?_
  refine z_iconst d_X0_has_1 (by decide) ?_
  refine z_bipush d_X0_has_2 (by decide) ?_
  refine z_cs (M1 := M_X11_isWithin) d_X0_has_4 ls_X0_57 k_X11_isWithin [qI i, qI 0, qI 95] rfl rfl (Nat.le_of_ble_eq_true rfl) (by decide) (by decide) (Nat.le_of_ble_eq_true rfl) (c_isWithin i 0 95) ?_
  refine z_ifeqB 33 d_X0_has_7 (by decide) (fun hc1 => ?_) (fun hc1 => absurd hc1 (by omega))
  refine z_iconst d_X0_has_33 (by decide) ?_
  exact z_zret d_X0_has_34 rfl (by first | exact qb_01 _ | decide | omega) er eh
theorem c_bkHasI {h : qH} {F G : Nat → Nat → Int} {b : Nat} {R C : Nat → Int} (i : Int) (hb2 : 2 ≤ b) (hb : xk b = 0) (hR : bkR F G b R C) : qEx M_X0_has 0 [qR b, qI i] [] (xput h F G) (some (qI (qb (0 ≤ i ∧ i ≤ 95 ∧ i % 24 < C (i.toNat / 24))))) (xput h F G) := by
  by_cases c : 0 ≤ i ∧ i ≤ 95
  · obtain ⟨k, rfl⟩ : ∃ k : Nat, i = (k : Int) := ⟨i.toNat, by omega⟩
    refine z_end (c_bkHas k hb2 hb (by omega) hR) (congrArg (fun z => some (qI z)) (qb_congr ?_)) rfl
    unfold rlP
    rw [Int.toNat_natCast]
    constructor
    · intro z; refine ⟨by omega, by omega, ?_⟩; omega
    · intro z; omega
  · rw [qb_f (fun z => c ⟨z.1, z.2.1⟩)]
    exact c_bkHasNo i hb2 hb c
set_option maxRecDepth 20000 in
set_option maxHeartbeats 4000000 in
theorem c_bkCount {h : qH} {F G : Nat → Nat → Int} {b : Nat} {R C : Nat → Int} (hb2 : 2 ≤ b) (hb : xk b = 0) (hR : bkR F G b R C) : qEx M_X0_ruleCount 0 [qR b, qU, qU] [] (xput h F G) (some (qI (sm C 4))) (xput h F G) := by
  refine q_gen (fun r hr er eh => ?_)
  have hin := (bkp hb2 hb).2.1
  refine z_iconst d_X0_ruleCount_0 (by decide) ?_
  refine z_istore_n (ls' := [qR b, qI 0, qU]) d_X0_ruleCount_1 rfl (by decide) rfl ?_
  refine z_iconst d_X0_ruleCount_2 (by decide) ?_
  refine z_istore_n (ls' := [qR b, qI 0, qI 0]) d_X0_ruleCount_3 rfl (by decide) rfl ?_
  refine z_eq (qc rfl (qc (qi (rfl)) (qc (qi (rfl)) rfl))) rfl rfl (z_for 4 (fun k => [qR b, qI (sm C k), qI (k : Int)]) (fun k => (xput h F G)) (fun k => True) trivial (fun k hik hp9 kkk => ?_) (fun hp9 => ?_))
  · show qEx M_X0_ruleCount 4 [qR b, qI (sm C k), qI (k : Int)] [] (xput h F G) r hr
    have hCk := bkR_C hR (k := k) (by omega)
    have hsm := sm_bd (f := C) (B := 24) k (fun q hq => (bkR_C hR (by omega)).2)
    refine z_iload_n d_X0_ruleCount_4 rfl rfl ?_
    refine z_iconst d_X0_ruleCount_5 (by decide) ?_
    refine z_icmp_ge 27 d_X0_ruleCount_6 (by decide) (fun hc1 => absurd hc1 (by omega)) (fun hc1 => ?_)
    refine z_iload_n d_X0_ruleCount_9 rfl rfl ?_
    refine z_aload_n d_X0_ruleCount_10 rfl rfl ?_
    refine z_getf (v := qR (b + 1)) d_X0_ruleCount_11 fl_X0_11 (xput_ob (c := (F b)) (bkx_in hb2 hb) rfl (xsh_0 hb)) rfl ?_
    refine z_iload_n d_X0_ruleCount_14 rfl rfl ?_
    refine z_ald k d_X0_ruleCount_15 (Or.inl ⟨rfl, rfl, rfl⟩) (xput_ob ⟨by omega, by have := (bkp hb2 hb).2.1; omega⟩ rfl (xsh_20 (bkp hb2 hb).1)) rfl (by omega) (show (if k < 4 then some ((b + 1) + 3 + 5 * k) else none) = some (b + 4 + 5 * k) from (if_pos (by omega)).trans (congrArg some (by omega))) ?_
    refine z_getf (v := qI ((F (b + 4 + 5 * k)) 4)) d_X0_ruleCount_16 fl_X0_65 (xput_ob (c := (F (b + 4 + 5 * k))) (pgx_in (by omega) ((bkp hb2 hb).2.2 k (by omega))) rfl (xsh_2 ((bkp hb2 hb).2.2 k (by omega)))) rfl ?_
    refine z_iadd d_X0_ruleCount_19 (by omega) ?_
    refine z_istore_n (ls' := [qR b, qI ((sm C k) + ((F (b + 4 + 5 * k)) 4)), qI (k : Int)]) d_X0_ruleCount_20 rfl (by decide) rfl ?_
    refine z_iinc (ls' := [qR b, qI ((sm C k) + ((F (b + 4 + 5 * k)) 4)), qI ((k : Int) + 1)]) d_X0_ruleCount_21 rfl (by decide) (by omega) rfl ?_
    refine z_goto 4 d_X0_ruleCount_24 (by decide) ?_
    exact z_eq (qc rfl (qc (qi (by rw [hCk.1]; rfl)) (qc (qi (by omega)) rfl))) rfl rfl (kkk trivial)
  · show qEx M_X0_ruleCount 4 [qR b, qI (sm C 4), qI (4 : Int)] [] (xput h F G) r hr
    refine z_iload_n d_X0_ruleCount_4 rfl rfl ?_
    refine z_iconst d_X0_ruleCount_5 (by decide) ?_
    refine z_icmp_ge 27 d_X0_ruleCount_6 (by decide) (fun hc2 => ?_) (fun hc2 => absurd hc2 (by omega))
    refine z_iload_n d_X0_ruleCount_27 rfl rfl ?_
    exact z_iret d_X0_ruleCount_28 rfl er eh
set_option maxRecDepth 20000 in
set_option maxHeartbeats 4000000 in
theorem c_bkMir {h : qH} {F G : Nat → Nat → Int} {b : Nat} (hb2 : 2 ≤ b) (hb : xk b = 0) : qEx M_X0_unmirrored 0 [qR b, qU, qU] [] (xput h F G) (some (qI (cnt (umP (G (b + 2))) 648))) (xput h F G) := by
  refine q_gen (fun r hr er eh => ?_)
  have hin := (bkp hb2 hb).2.1
  refine z_iconst d_X0_unmirrored_0 (by decide) ?_
  refine z_istore_n (ls' := [qR b, qI 0, qU]) d_X0_unmirrored_1 rfl (by decide) rfl ?_
  refine z_iconst d_X0_unmirrored_2 (by decide) ?_
  refine z_istore_n (ls' := [qR b, qI 0, qI 0]) d_X0_unmirrored_3 rfl (by decide) rfl ?_
  refine z_eq (qc rfl (qc (qi (rfl)) (qc (qi (rfl)) rfl))) rfl rfl (z_for 648 (fun k => [qR b, qI (cnt (umP (G (b + 2))) k), qI (k : Int)]) (fun k => (xput h F G)) (fun k => True) trivial (fun k hik hp9 kkk => ?_) (fun hp9 => ?_))
  · show qEx M_X0_unmirrored 4 [qR b, qI (cnt (umP (G (b + 2))) k), qI (k : Int)] [] (xput h F G) r hr
    have hcn := cnt_bd (umP (G (b + 2))) k
    refine z_iload_n d_X0_unmirrored_4 rfl rfl ?_
    refine z_sipush d_X0_unmirrored_5 (by decide) ?_
    refine z_icmp_ge 49 d_X0_unmirrored_8 (by decide) (fun hc1 => absurd hc1 (by omega)) (fun hc1 => ?_)
    refine z_aload_n d_X0_unmirrored_11 rfl rfl ?_
    refine z_getf (v := qR (b + 2)) d_X0_unmirrored_12 fl_X0_17 (xput_ob (c := (F b)) (bkx_in hb2 hb) rfl (xsh_0 hb)) rfl ?_
    refine z_iload_n d_X0_unmirrored_15 rfl rfl ?_
    refine z_ild k d_X0_unmirrored_16 (xput_ar (g := (G (b + 2))) (bkx_2 hb2 hb) rfl) rfl (by omega) ?_
    refine z_aload_n d_X0_unmirrored_17 rfl rfl ?_
    refine z_getf (v := qR (b + 2)) d_X0_unmirrored_18 fl_X0_17 (xput_ob (c := (F b)) (bkx_in hb2 hb) rfl (xsh_0 hb)) rfl ?_
    refine z_iload_n d_X0_unmirrored_21 rfl rfl ?_
    refine z_cs (M1 := M_X11_ownOf) d_X0_unmirrored_22 ls_X0_35 k_X11_ownOf [qI (k : Int)] rfl rfl (Nat.le_of_ble_eq_true rfl) (by decide) (by decide) (Nat.le_of_ble_eq_true rfl) (z_end (c_ownOf (k : Int) (by omega)) (show _ = some (qI (((k / 81) : Nat) : Int)) from congrArg (fun z => some (qI z)) (by omega)) rfl) ?_
    refine z_iload_n d_X0_unmirrored_25 rfl rfl ?_
    refine z_cs (M1 := M_X11_rightOf) d_X0_unmirrored_26 ls_X0_42 k_X11_rightOf [qI (k : Int)] rfl rfl (Nat.le_of_ble_eq_true rfl) (by decide) (by decide) (Nat.le_of_ble_eq_true rfl) (z_end (c_rightOf (k : Int) (by omega)) (show _ = some (qI (((k % 9) : Nat) : Int)) from congrArg (fun z => some (qI z)) (by omega)) rfl) ?_
    refine z_iload_n d_X0_unmirrored_29 rfl rfl ?_
    refine z_cs (M1 := M_X11_leftOf) d_X0_unmirrored_30 ls_X0_39 k_X11_leftOf [qI (k : Int)] rfl rfl (Nat.le_of_ble_eq_true rfl) (by decide) (by decide) (Nat.le_of_ble_eq_true rfl) (z_end (c_leftOf (k : Int) (by omega)) (show _ = some (qI (((k / 9 % 9) : Nat) : Int)) from congrArg (fun z => some (qI z)) (by omega)) rfl) ?_
    refine z_cs (M1 := M_X11_caseOf) d_X0_unmirrored_33 ls_X0_77 k_X11_caseOf [qI (((k / 81) : Nat) : Int), qI (((k % 9) : Nat) : Int), qI (((k / 9 % 9) : Nat) : Int)] rfl rfl (Nat.le_of_ble_eq_true rfl) (by decide) (by decide) (Nat.le_of_ble_eq_true rfl) (c_caseOf (((k / 81) : Nat) : Int) (((k % 9) : Nat) : Int) (((k / 9 % 9) : Nat) : Int) (by omega) (by omega) (by omega)) ?_
    refine z_ild (81 * (k / 81) + 9 * (k % 9) + (k / 9 % 9)) d_X0_unmirrored_36 (xput_ar (g := (G (b + 2))) (bkx_2 hb2 hb) rfl) rfl (by omega) ?_
    refine z_icmp_eq 43 d_X0_unmirrored_37 (by decide) (fun q1 => ?_) (fun q1 => ?_)
    · refine z_iinc (ls' := [qR b, qI (cnt (umP (G (b + 2))) k), qI ((k : Int) + 1)]) d_X0_unmirrored_43 rfl (by decide) (by omega) rfl ?_
      refine z_goto 4 d_X0_unmirrored_46 (by decide) ?_
      exact z_eq (qc rfl (qc (qi ((cnt_f (p := umP (G (b + 2))) (fun z => z q1)).symm)) (qc (qi (by omega)) rfl))) rfl rfl (kkk trivial)
    · refine z_iinc (ls' := [qR b, qI ((cnt (umP (G (b + 2))) k) + 1), qI (k : Int)]) d_X0_unmirrored_40 rfl (by decide) (by omega) rfl ?_
      refine z_iinc (ls' := [qR b, qI ((cnt (umP (G (b + 2))) k) + 1), qI ((k : Int) + 1)]) d_X0_unmirrored_43 rfl (by decide) (by omega) rfl ?_
      refine z_goto 4 d_X0_unmirrored_46 (by decide) ?_
      exact z_eq (qc rfl (qc (qi ((cnt_t (show umP (G (b + 2)) k from q1)).symm)) (qc (qi (by omega)) rfl))) rfl rfl (kkk trivial)
  · show qEx M_X0_unmirrored 4 [qR b, qI (cnt (umP (G (b + 2))) 648), qI (648 : Int)] [] (xput h F G) r hr
    refine z_iload_n d_X0_unmirrored_4 rfl rfl ?_
    refine z_sipush d_X0_unmirrored_5 (by decide) ?_
    refine z_icmp_ge 49 d_X0_unmirrored_8 (by decide) (fun hc2 => ?_) (fun hc2 => absurd hc2 (by omega))
    refine z_iload_n d_X0_unmirrored_49 rfl rfl ?_
    exact z_iret d_X0_unmirrored_50 rfl er eh
set_option maxRecDepth 20000 in
set_option maxHeartbeats 4000000 in
theorem c_bkCopy {h : qH} {F G : Nat → Nat → Int} {b c : Nat} {R C : Nat → Int} (hb2 : 2 ≤ b) (hb : xk b = 0) (hc2 : 2 ≤ c) (hc : xk c = 0) (hd : b + 23 < c ∨ c + 23 < b) (hS : bkR F G c R C) : ∃ F' G', (xfr b (b + 23) F G F' G' ∧ bkR F' G' b R C ∧ (∀ j, j < 648 → G' (b + 2) j = G (c + 2) j) ∧ ∀ j, j < 648 → G' (b + 3) j = G (c + 3) j) ∧ qEx M_X0_copyFrom 0 [qR b, qR c, qU] [] (xput h F G) none (xput h F' G') := by
  refine x_in (fun Q hQ => ?_)
  have hinb := (bkp hb2 hb).2.1
  have hinc := (bkp hc2 hc).2.1
  refine qy (fun _ _ k9 => z_iconst d_X0_copyFrom_0 (by decide) k9) ?_
  refine qy (fun _ _ k9 => z_istore_n (ls' := [qR b, qR c, qI 0]) d_X0_copyFrom_1 rfl (by decide) rfl k9) ?_
  refine qy (fun _ _ k9 => z_eq (qc rfl (qc rfl (qc (qi (rfl)) rfl))) rfl rfl k9) (y_wh3 (fun (k : Nat) (Fa : Nat → Nat → Int) (Ga : Nat → Nat → Int) => 4 - k) (fun (k : Nat) (Fa : Nat → Nat → Int) (Ga : Nat → Nat → Int) => [qR b, qR c, qI (k : Int)]) (fun (k : Nat) (Fa : Nat → Nat → Int) (Ga : Nat → Nat → Int) => (xput h Fa Ga)) (fun (k : Nat) (Fa : Nat → Nat → Int) (Ga : Nat → Nat → Int) => k ≤ 4 ∧ xfr b (b + 23) F G Fa Ga ∧ ∀ q, q < k → pgR Fa Ga (b + 4 + 5 * q) (fun j => R (96 * q + j)) (C q)) 0 F G (⟨by omega, xfr_rf _ _ _ _, fun q hq => absurd hq (by omega)⟩) (fun k Fa Ga hp kk => ?_))
  obtain ⟨hk4, hfr, hpg⟩ := hp
  show qEy M_X0_copyFrom 2 [qR b, qR c, qI (k : Int)] [] (xput h Fa Ga) Q
  have hS1 : bkR Fa Ga c R C := bkR_cg hS (fun a h1 h2 => hfr a (by omega))
  refine qy (fun _ _ k9 => z_iload_n d_X0_copyFrom_2 rfl rfl k9) ?_
  refine qy (fun _ _ k9 => z_iconst d_X0_copyFrom_3 (by decide) k9) ?_
  refine qy2 (fun _ _ => z_icmp_ge 28 d_X0_copyFrom_4 (by decide)) (fun hc1 => ?_) (fun hc1 => ?_)
  · refine qy (fun _ _ k9 => z_aload_n d_X0_copyFrom_28 rfl rfl k9) ?_
    refine qy (fun _ _ k9 => z_getf (v := qR (c + 2)) d_X0_copyFrom_29 fl_X0_17 (xput_ob (c := (Fa c)) (bkx_in hc2 hc) rfl (xsh_0 hc)) rfl k9) ?_
    refine qy (fun _ _ k9 => z_iconst d_X0_copyFrom_32 (by decide) k9) ?_
    refine qy (fun _ _ k9 => z_aload_n d_X0_copyFrom_33 rfl rfl k9) ?_
    refine qy (fun _ _ k9 => z_getf (v := qR (b + 2)) d_X0_copyFrom_34 fl_X0_17 (xput_ob (c := (Fa b)) (bkx_in hb2 hb) rfl (xsh_0 hb)) rfl k9) ?_
    refine qy (fun _ _ k9 => z_iconst d_X0_copyFrom_37 (by decide) k9) ?_
    refine qy (fun _ _ k9 => z_sipush d_X0_copyFrom_38 (by decide) k9) ?_
    refine qy (fun _ _ k9 => z_copy d_X0_copyFrom_41 lc_X0_29 (by decide) (Nat.le_of_ble_eq_true rfl) (xput_ar (g := (Ga (c + 2))) (bkx_2 hc2 hc) rfl) (xput_ar (g := (Ga (b + 2))) (bkx_2 hb2 hb) rfl) (by omega) (by omega) (by omega) (by omega) (by omega) (by omega) (by omega) k9) ?_
    refine qy (fun _ _ k9 => z_eq rfl rfl (xput_sa (bkx_2 hb2 hb)) k9) ?_
    refine qy (fun _ _ k9 => z_aload_n d_X0_copyFrom_44 rfl rfl k9) ?_
    refine qy (fun _ _ k9 => z_getf (v := qR (c + 3)) d_X0_copyFrom_45 fl_X0_21 (xput_ob (c := (Fa c)) (bkx_in hc2 hc) rfl (xsh_0 hc)) rfl k9) ?_
    refine qy (fun _ _ k9 => z_iconst d_X0_copyFrom_48 (by decide) k9) ?_
    refine qy (fun _ _ k9 => z_aload_n d_X0_copyFrom_49 rfl rfl k9) ?_
    refine qy (fun _ _ k9 => z_getf (v := qR (b + 3)) d_X0_copyFrom_50 fl_X0_21 (xput_ob (c := (Fa b)) (bkx_in hb2 hb) rfl (xsh_0 hb)) rfl k9) ?_
    refine qy (fun _ _ k9 => z_iconst d_X0_copyFrom_53 (by decide) k9) ?_
    refine qy (fun _ _ k9 => z_sipush d_X0_copyFrom_54 (by decide) k9) ?_
    refine qy (fun _ _ k9 => z_copy d_X0_copyFrom_57 lc_X0_29 (by decide) (Nat.le_of_ble_eq_true rfl) (xput_ar (g := (Ga (c + 3))) (bkx_3 hc2 hc) (gup_ne (by omega))) (xput_ar (g := (Ga (b + 3))) (bkx_3 hb2 hb) (gup_ne (by omega))) (by omega) (by omega) (by omega) (by omega) (by omega) (by omega) (by omega) k9) ?_
    refine qy (fun _ _ k9 => z_eq rfl rfl (xput_sa (bkx_3 hb2 hb)) k9) ?_
    exact y_ret (hQ Fa (gup (gup Ga (b + 2) (qcpy (Ga (c + 2)) (Ga (b + 2)) (Int.toNat 0) (Int.toNat 0) (Int.toNat 648))) (b + 3) (qcpy (Ga (c + 3)) (Ga (b + 3)) (Int.toNat 0) (Int.toNat 0) (Int.toNat 648))) (⟨xfr_g (xfr_g hfr (by omega) (by omega)) (by omega) (by omega), fun q hq => pgR_cg (hpg q (by omega)) rfl (fun s _ => by rw [gup_ne (by omega), gup_ne (by omega)]) (fun s _ => by rw [gup_ne (by omega), gup_ne (by omega)]) (fun s _ => by rw [gup_ne (by omega), gup_ne (by omega)]) (fun s _ => by rw [gup_ne (by omega), gup_ne (by omega)]), fun j hj => by rw [gup_ne (by omega), gup_eq, ← xfr_G hfr (show c + 2 < b ∨ b + 23 < c + 2 by omega)]; exact qcpy0 hj, fun j hj => by rw [gup_eq, ← xfr_G hfr (show c + 3 < b ∨ b + 23 < c + 3 by omega)]; exact qcpy0 hj⟩)) (z_vret d_X0_copyFrom_60 rfl rfl rfl)
  · refine qy (fun _ _ k9 => z_aload_n d_X0_copyFrom_7 rfl rfl k9) ?_
    refine qy (fun _ _ k9 => z_getf (v := qR (b + 1)) d_X0_copyFrom_8 fl_X0_11 (xput_ob (c := (Fa b)) (bkx_in hb2 hb) rfl (xsh_0 hb)) rfl k9) ?_
    refine qy (fun _ _ k9 => z_iload_n d_X0_copyFrom_11 rfl rfl k9) ?_
    refine qy (fun _ _ k9 => z_ald k d_X0_copyFrom_12 (Or.inl ⟨rfl, rfl, rfl⟩) (xput_ob ⟨by omega, by have := (bkp hb2 hb).2.1; omega⟩ rfl (xsh_20 (bkp hb2 hb).1)) rfl (by omega) (show (if k < 4 then some ((b + 1) + 3 + 5 * k) else none) = some (b + 4 + 5 * k) from (if_pos (by omega)).trans (congrArg some (by omega))) k9) ?_
    refine qy (fun _ _ k9 => z_aload_n d_X0_copyFrom_13 rfl rfl k9) ?_
    refine qy (fun _ _ k9 => z_getf (v := qR (c + 1)) d_X0_copyFrom_14 fl_X0_11 (xput_ob (c := (Fa c)) (bkx_in hc2 hc) rfl (xsh_0 hc)) rfl k9) ?_
    refine qy (fun _ _ k9 => z_iload_n d_X0_copyFrom_17 rfl rfl k9) ?_
    refine qy (fun _ _ k9 => z_ald k d_X0_copyFrom_18 (Or.inl ⟨rfl, rfl, rfl⟩) (xput_ob ⟨by omega, by have := (bkp hc2 hc).2.1; omega⟩ rfl (xsh_20 (bkp hc2 hc).1)) rfl (by omega) (show (if k < 4 then some ((c + 1) + 3 + 5 * k) else none) = some (c + 4 + 5 * k) from (if_pos (by omega)).trans (congrArg some (by omega))) k9) ?_
    obtain ⟨F1, G1, ⟨hv1, hw1⟩, hx1⟩ := c_pgCopy (h := h) (F := Fa) (G := Ga) (p := (b + 4 + 5 * k)) (q := (c + 4 + 5 * k)) (R := (fun j => R (96 * k + j))) (c := C k) (by omega) ((bkp hb2 hb).2.2 k (by omega)) (by omega) ((bkp hc2 hc).2.2 k (by omega)) (by omega) (hS1 k (by omega))
    refine qy (fun _ _ k9 => z_cv0 (M1 := M_X2_copyFrom) d_X0_copyFrom_19 lv_X0_25 k_X2_copyFrom [qR (c + 4 + 5 * k)] rfl rfl (xput_ob (c := (Fa (b + 4 + 5 * k))) (pgx_in (by omega) ((bkp hb2 hb).2.2 k (by omega))) rfl (xsh_2 ((bkp hb2 hb).2.2 k (by omega)))) ⟨_, _, rfl⟩ (Nat.le_of_ble_eq_true rfl) (by decide) (by decide) (Nat.le_of_ble_eq_true rfl) hx1 k9) ?_
    refine qy (fun _ _ k9 => z_iinc (ls' := [qR b, qR c, qI ((k : Int) + 1)]) d_X0_copyFrom_22 rfl (by decide) (by omega) rfl k9) ?_
    refine qy (fun _ _ k9 => z_goto 2 d_X0_copyFrom_25 (by decide) k9) ?_
    exact qy (fun _ _ k9 => z_eq (qc rfl (qc rfl (qc (qi (by omega)) rfl))) rfl rfl k9) (kk (k + 1) F1 G1 (⟨by omega, xfr_tr hfr (xfr_wd hv1 (by omega) (by omega)), q_lts (fun q hq => pgR_cg (hpg q hq) (by rw [xfr_F hv1 (by omega)]) (fun s _ => by rw [xfr_G hv1 (by omega)]) (fun s _ => by rw [xfr_G hv1 (by omega)]) (fun s _ => by rw [xfr_G hv1 (by omega)]) (fun s _ => by rw [xfr_G hv1 (by omega)])) hw1⟩) (by omega))
