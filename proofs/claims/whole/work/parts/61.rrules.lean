/-! ===== CONTRACTS: the reference: saysBy, isClash, clashes, rules ===== -/
noncomputable def sbR (R : Nat → Int) (i : Nat) (o : Int) : Int := qif (R (4 * i + 3) ≠ 8) (R (4 * i + 3)) o
def clO (R : Nat → Int) (i j o : Nat) : Prop := tb (qAnd (R (4 * i)) (R (4 * j))) o = true ∧ sbR R i o ≠ sbR R j o
def clP (R : Nat → Int) (i j : Nat) : Prop := (qAnd (R (4 * i + 1)) (R (4 * j + 1)) ≠ 0 ∧ qAnd (R (4 * i + 2)) (R (4 * j + 2)) ≠ 0) ∧ ∃ o, o < 7 ∧ clO R i j o
def clQ (R C : Nat → Int) (i k : Nat) : Prop := i < k ∧ rlP C i ∧ rlP C k ∧ clP R i k
noncomputable def clS (R C : Nat → Int) : Nat → Int
  | 0 => 0
  | i + 1 => clS R C i + cnt (clQ R C i) 96
theorem clS_bd {R C : Nat → Int} : ∀ i : Nat, 0 ≤ clS R C i ∧ clS R C i ≤ 96 * i
  | 0 => by show 0 ≤ (0 : Int) ∧ (0 : Int) ≤ 96 * ((0 : Nat) : Int); omega
  | i + 1 => by
    have h := clS_bd (R := R) (C := C) i
    have h2 := cnt_bd (clQ R C i) 96
    show 0 ≤ clS R C i + cnt (clQ R C i) 96 ∧ clS R C i + cnt (clQ R C i) 96 ≤ 96 * ((i + 1 : Nat) : Int)
    omega
theorem clQ_0 {R C : Nat → Int} {i : Nat} : ∀ j, j ≤ i + 1 → cnt (clQ R C i) j = 0 := fun j hj => cnt_0.mpr (fun k hk z => by have := z.1; omega)
set_option maxRecDepth 20000 in
set_option maxHeartbeats 4000000 in
theorem c_saysBy {h : qH} {m : Nat} {f : Nat → Int} {g : Nat → Nat → Int} {i : Nat} (o : Int) (hm : 2 ≤ m) (hi : i < 96) : qEx M_X12_saysBy 0 [qR m, qI (i : Int), qI o] [] (rput h m f g) (some (qI (sbR (g 2) i o))) (rput h m f g) := by
  refine q_gen (fun r hr er eh => ?_)
  refine z_aload_n d_X12_saysBy_0 rfl rfl ?_
  refine z_getf (v := qR (m + 2)) d_X12_saysBy_1 fl_X12_17 rput_o rfl ?_
  refine z_iconst d_X12_saysBy_4 (by decide) ?_
  refine z_iload_n d_X12_saysBy_5 rfl rfl ?_
  refine z_imul d_X12_saysBy_6 (by omega) ?_
  refine z_iconst d_X12_saysBy_7 (by decide) ?_
  refine z_iadd d_X12_saysBy_8 (by omega) ?_
  refine z_ild ((4 * i) + 3) d_X12_saysBy_9 (rput_a2 2 (t := 0) (n := 384) (F := (g 2)) rfl rfl rfl (by decide) (by decide)) rfl (by omega) ?_
  refine z_bipush d_X12_saysBy_10 (by decide) ?_
  suffices kJ12 : qEx M_X12_saysBy 29 [qR m, qI (i : Int), qI o] [qI (qif (((g 2) ((4 * i) + 3)) ≠ 8) ((g 2) ((4 * i) + 3)) o)] (rput h m f g) r hr by
    refine z_icmp_ne 19 d_X12_saysBy_12 (by decide) (fun hc1 => ?_) (fun hc1 => ?_)
    · refine z_aload_n d_X12_saysBy_19 rfl rfl ?_
      refine z_getf (v := qR (m + 2)) d_X12_saysBy_20 fl_X12_17 rput_o rfl ?_
      refine z_iconst d_X12_saysBy_23 (by decide) ?_
      refine z_iload_n d_X12_saysBy_24 rfl rfl ?_
      refine z_imul d_X12_saysBy_25 (by omega) ?_
      refine z_iconst d_X12_saysBy_26 (by decide) ?_
      refine z_iadd d_X12_saysBy_27 (by omega) ?_
      refine z_ild ((4 * i) + 3) d_X12_saysBy_28 (rput_a2 2 (t := 0) (n := 384) (F := (g 2)) rfl rfl rfl (by decide) (by decide)) rfl (by omega) ?_
      exact z_eq rfl (qc (qi (qif_t hc1).symm) rfl) rfl kJ12
    · refine z_iload_n d_X12_saysBy_15 rfl rfl ?_
      refine z_goto 29 d_X12_saysBy_16 (by decide) ?_
      exact z_eq rfl (qc (qi (qif_f hc1).symm) rfl) rfl kJ12
  exact z_iret d_X12_saysBy_29 rfl er eh
set_option maxRecDepth 20000 in
set_option maxHeartbeats 4000000 in
theorem c_isClash {h : qH} {m : Nat} {f : Nat → Int} {g : Nat → Nat → Int} {i j : Nat} (hm : 2 ≤ m) (hi : i < 96) (hj : j < 96) : qEx M_X12_isClash 0 [qR m, qI (i : Int), qI (j : Int), qU] [] (rput h m f g) (some (qI (qb (clP (g 2) i j)))) (rput h m f g) := by
  refine q_gen (fun r hr er eh => ?_)
  refine z_aload_n d_X12_isClash_0 rfl rfl ?_
  refine z_getf (v := qR (m + 2)) d_X12_isClash_1 fl_X12_17 rput_o rfl ?_
  refine z_iconst d_X12_isClash_4 (by decide) ?_
  refine z_iload_n d_X12_isClash_5 rfl rfl ?_
  refine z_imul d_X12_isClash_6 (by omega) ?_
  refine z_iconst d_X12_isClash_7 (by decide) ?_
  refine z_iadd d_X12_isClash_8 (by omega) ?_
  refine z_ild ((4 * i) + 1) d_X12_isClash_9 (rput_a2 2 (t := 0) (n := 384) (F := (g 2)) rfl rfl rfl (by decide) (by decide)) rfl (by omega) ?_
  refine z_aload_n d_X12_isClash_10 rfl rfl ?_
  refine z_getf (v := qR (m + 2)) d_X12_isClash_11 fl_X12_17 rput_o rfl ?_
  refine z_iconst d_X12_isClash_14 (by decide) ?_
  refine z_iload_n d_X12_isClash_15 rfl rfl ?_
  refine z_imul d_X12_isClash_16 (by omega) ?_
  refine z_iconst d_X12_isClash_17 (by decide) ?_
  refine z_iadd d_X12_isClash_18 (by omega) ?_
  refine z_ild ((4 * j) + 1) d_X12_isClash_19 (rput_a2 2 (t := 0) (n := 384) (F := (g 2)) rfl rfl rfl (by decide) (by decide)) rfl (by omega) ?_
  refine z_iand d_X12_isClash_20 ?_
  refine z_if_eq 48 d_X12_isClash_21 (by decide) (fun q1 => ?_) (fun q1 => ?_)
  · refine z_iconst d_X12_isClash_48 (by decide) ?_
    exact z_zret d_X12_isClash_49 rfl (by first | exact qb_01 _ | decide | omega) (qer er (qb_f (fun z9 => by first | exact z9.1.1 q1 | exact q2 z9.1.2))) eh
  · refine z_aload_n d_X12_isClash_24 rfl rfl ?_
    refine z_getf (v := qR (m + 2)) d_X12_isClash_25 fl_X12_17 rput_o rfl ?_
    refine z_iconst d_X12_isClash_28 (by decide) ?_
    refine z_iload_n d_X12_isClash_29 rfl rfl ?_
    refine z_imul d_X12_isClash_30 (by omega) ?_
    refine z_iconst d_X12_isClash_31 (by decide) ?_
    refine z_iadd d_X12_isClash_32 (by omega) ?_
    refine z_ild ((4 * i) + 2) d_X12_isClash_33 (rput_a2 2 (t := 0) (n := 384) (F := (g 2)) rfl rfl rfl (by decide) (by decide)) rfl (by omega) ?_
    refine z_aload_n d_X12_isClash_34 rfl rfl ?_
    refine z_getf (v := qR (m + 2)) d_X12_isClash_35 fl_X12_17 rput_o rfl ?_
    refine z_iconst d_X12_isClash_38 (by decide) ?_
    refine z_iload_n d_X12_isClash_39 rfl rfl ?_
    refine z_imul d_X12_isClash_40 (by omega) ?_
    refine z_iconst d_X12_isClash_41 (by decide) ?_
    refine z_iadd d_X12_isClash_42 (by omega) ?_
    refine z_ild ((4 * j) + 2) d_X12_isClash_43 (rput_a2 2 (t := 0) (n := 384) (F := (g 2)) rfl rfl rfl (by decide) (by decide)) rfl (by omega) ?_
    refine z_iand d_X12_isClash_44 ?_
    refine z_if_ne 50 d_X12_isClash_45 (by decide) (fun q2 => ?_) (fun q2 => ?_)
    · refine z_iconst d_X12_isClash_50 (by decide) ?_
      refine z_istore_n (ls' := [qR m, qI (i : Int), qI (j : Int), qI 0]) d_X12_isClash_51 rfl (by decide) rfl ?_
      refine z_eq (qc rfl (qc rfl (qc rfl (qc (qi (by omega)) rfl)))) rfl rfl (z_for 7 (fun k => [qR m, qI (i : Int), qI (j : Int), qI (k : Int)]) (fun k => (rput h m f g)) (fun k => ∀ o, o < k → ¬ clO (g 2) i j o) (fun o ho => absurd ho (by omega)) (fun k hik hp kkk => ?_) (fun hp => ?_))
      · show qEx M_X12_isClash 52 [qR m, qI (i : Int), qI (j : Int), qI (k : Int)] [] (rput h m f g) r hr
        refine z_iload_n d_X12_isClash_52 rfl rfl ?_
        refine z_bipush d_X12_isClash_53 (by decide) ?_
        refine z_icmp_ge 105 d_X12_isClash_55 (by decide) (fun hc1 => absurd hc1 (by omega)) (fun hc1 => ?_)
        refine z_aload_n d_X12_isClash_58 rfl rfl ?_
        refine z_getf (v := qR (m + 2)) d_X12_isClash_59 fl_X12_17 rput_o rfl ?_
        refine z_iconst d_X12_isClash_62 (by decide) ?_
        refine z_iload_n d_X12_isClash_63 rfl rfl ?_
        refine z_imul d_X12_isClash_64 (by omega) ?_
        refine z_ild (4 * i) d_X12_isClash_65 (rput_a2 2 (t := 0) (n := 384) (F := (g 2)) rfl rfl rfl (by decide) (by decide)) rfl (by omega) ?_
        refine z_aload_n d_X12_isClash_66 rfl rfl ?_
        refine z_getf (v := qR (m + 2)) d_X12_isClash_67 fl_X12_17 rput_o rfl ?_
        refine z_iconst d_X12_isClash_70 (by decide) ?_
        refine z_iload_n d_X12_isClash_71 rfl rfl ?_
        refine z_imul d_X12_isClash_72 (by omega) ?_
        refine z_ild (4 * j) d_X12_isClash_73 (rput_a2 2 (t := 0) (n := 384) (F := (g 2)) rfl rfl rfl (by decide) (by decide)) rfl (by omega) ?_
        refine z_iand d_X12_isClash_74 ?_
        refine z_iload_n d_X12_isClash_75 rfl rfl ?_
        refine z_cs (M1 := M_X12_has) d_X12_isClash_76 ls_X12_259 k_X12_has [qI (qAnd ((g 2) (4 * i)) ((g 2) (4 * j))), qI (k : Int)] rfl rfl (Nat.le_of_ble_eq_true rfl) (by decide) (by decide) (Nat.le_of_ble_eq_true rfl) (c_has (qAnd ((g 2) (4 * i)) ((g 2) (4 * j))) k (by omega)) ?_
        refine z_ifeqB 99 d_X12_isClash_79 (by decide) (fun q3 => ?_) (fun q3 => ?_)
        · refine z_iinc (ls' := [qR m, qI (i : Int), qI (j : Int), qI ((k : Int) + 1)]) d_X12_isClash_99 rfl (by decide) (by omega) rfl ?_
          refine z_goto 52 d_X12_isClash_102 (by decide) ?_
          exact z_eq (qc rfl (qc rfl (qc rfl (qc (qi (by omega)) rfl)))) rfl rfl (kkk (q_lts hp (fun z9 => by first | exact q3 z9.1 | exact z9.2 q4)))
        · refine z_aload_n d_X12_isClash_82 rfl rfl ?_
          refine z_iload_n d_X12_isClash_83 rfl rfl ?_
          refine z_iload_n d_X12_isClash_84 rfl rfl ?_
          refine z_cv (M1 := M_X12_saysBy) d_X12_isClash_85 lv_X12_392 k_X12_saysBy [qI (i : Int), qI (k : Int)] rfl rfl rput_o ⟨_, _, rfl⟩ (Nat.le_of_ble_eq_true rfl) (by decide) (by decide) (Nat.le_of_ble_eq_true rfl) (c_saysBy (i := i) (k : Int) hm (by omega)) ?_
          refine z_aload_n d_X12_isClash_88 rfl rfl ?_
          refine z_iload_n d_X12_isClash_89 rfl rfl ?_
          refine z_iload_n d_X12_isClash_90 rfl rfl ?_
          refine z_cv (M1 := M_X12_saysBy) d_X12_isClash_91 lv_X12_392 k_X12_saysBy [qI (j : Int), qI (k : Int)] rfl rfl rput_o ⟨_, _, rfl⟩ (Nat.le_of_ble_eq_true rfl) (by decide) (by decide) (Nat.le_of_ble_eq_true rfl) (c_saysBy (i := j) (k : Int) hm (by omega)) ?_
          refine z_icmp_eq 99 d_X12_isClash_94 (by decide) (fun q4 => ?_) (fun q4 => ?_)
          · refine z_iinc (ls' := [qR m, qI (i : Int), qI (j : Int), qI ((k : Int) + 1)]) d_X12_isClash_99 rfl (by decide) (by omega) rfl ?_
            refine z_goto 52 d_X12_isClash_102 (by decide) ?_
            exact z_eq (qc rfl (qc rfl (qc rfl (qc (qi (by omega)) rfl)))) rfl rfl (kkk (q_lts hp (fun z9 => by first | exact q3 z9.1 | exact z9.2 q4)))
          · refine z_iconst d_X12_isClash_97 (by decide) ?_
            exact z_zret d_X12_isClash_98 rfl (by first | exact qb_01 _ | decide | omega) (qer er (qb_t ⟨⟨q1, q2⟩, k, hik, q3, q4⟩)) eh
      · show qEx M_X12_isClash 52 [qR m, qI (i : Int), qI (j : Int), qI (7 : Int)] [] (rput h m f g) r hr
        refine z_iload_n d_X12_isClash_52 rfl rfl ?_
        refine z_bipush d_X12_isClash_53 (by decide) ?_
        refine z_icmp_ge 105 d_X12_isClash_55 (by decide) (fun hc2 => ?_) (fun hc2 => absurd hc2 (by omega))
        refine z_iconst d_X12_isClash_105 (by decide) ?_
        exact z_zret d_X12_isClash_106 rfl (by first | exact qb_01 _ | decide | omega) (qer er (qb_f (fun z9 => by obtain ⟨-, o, ho, z9⟩ := z9; exact hp o ho z9))) eh
    · refine z_iconst d_X12_isClash_48 (by decide) ?_
      exact z_zret d_X12_isClash_49 rfl (by first | exact qb_01 _ | decide | omega) (qer er (qb_f (fun z9 => by first | exact z9.1.1 q1 | exact q2 z9.1.2))) eh
set_option maxRecDepth 20000 in
set_option maxHeartbeats 4000000 in
theorem c_clashes {h : qH} {m : Nat} {f : Nat → Int} {g : Nat → Nat → Int}  (hm : 2 ≤ m)  : qEx M_X12_clashes 0 [qR m, qU, qU, qU] [] (rput h m f g) (some (qI (clS (g 2) (g 5) 96))) (rput h m f g) := by
  refine q_gen (fun r hr er eh => ?_)
  refine z_iconst d_X12_clashes_0 (by decide) ?_
  refine z_istore_n (ls' := [qR m, qI 0, qU, qU]) d_X12_clashes_1 rfl (by decide) rfl ?_
  refine z_iconst d_X12_clashes_2 (by decide) ?_
  refine z_istore_n (ls' := [qR m, qI 0, qI 0, qU]) d_X12_clashes_3 rfl (by decide) rfl ?_
  refine z_eq (qc rfl (qc (qi (rfl)) (qc (qi (by omega)) (qc rfl rfl)))) rfl rfl (z_for 96 (fun i => [qR m, qI (clS (g 2) (g 5) i), qI (i : Int), qU]) (fun i => (rput h m f g)) (fun i => True) trivial (fun i hii hp kki => ?_) (fun hp => ?_))
  · show qEx M_X12_clashes 4 [qR m, qI (clS (g 2) (g 5) i), qI (i : Int), qU] [] (rput h m f g) r hr
    refine z_iload_n d_X12_clashes_4 rfl rfl ?_
    refine z_bipush d_X12_clashes_5 (by decide) ?_
    refine z_icmp_ge 65 d_X12_clashes_7 (by decide) (fun hc1 => absurd hc1 (by omega)) (fun hc1 => ?_)
    refine z_iload_n d_X12_clashes_10 rfl rfl ?_
    refine z_iconst d_X12_clashes_11 (by decide) ?_
    refine z_iadd d_X12_clashes_12 (by omega) ?_
    refine z_istore_n (ls' := [qR m, qI (clS (g 2) (g 5) i), qI (i : Int), qI ((i : Int) + 1)]) d_X12_clashes_13 rfl (by decide) rfl ?_
    refine z_eq (qc rfl (qc (qi (by rw [clQ_0 (0 + i + 1) (by omega)]; omega)) (qc rfl (qc (qi (by omega)) rfl)))) rfl rfl (z_for (95 - i) (fun d => [qR m, qI (clS (g 2) (g 5) i + cnt (clQ (g 2) (g 5) i) (d + i + 1)), qI (i : Int), qI (((d : Nat) : Int) + i + 1)]) (fun d => (rput h m f g)) (fun d => True) trivial (fun d hid hpd kkd => ?_) (fun hpd => ?_))
    · show qEx M_X12_clashes 14 [qR m, qI (clS (g 2) (g 5) i + cnt (clQ (g 2) (g 5) i) (d + i + 1)), qI (i : Int), qI (((d : Nat) : Int) + i + 1)] [] (rput h m f g) r hr
      have hcb := cnt_bd (clQ (g 2) (g 5) i) (d + i + 1)
      have hcc := clS_bd (R := g 2) (C := g 5) i
      have hqb := qb_bd ((clQ (g 2) (g 5) i) (d + i + 1))
      refine z_iload_n d_X12_clashes_14 rfl rfl ?_
      refine z_bipush d_X12_clashes_15 (by decide) ?_
      refine z_icmp_ge 59 d_X12_clashes_17 (by decide) (fun hc2 => absurd hc2 (by omega)) (fun hc2 => ?_)
      refine z_iload_n d_X12_clashes_20 rfl rfl ?_
      refine z_aload_n d_X12_clashes_21 rfl rfl ?_
      refine z_iload_n d_X12_clashes_22 rfl rfl ?_
      refine z_cv (M1 := M_X12_isRule) d_X12_clashes_23 lv_X12_366 k_X12_isRule [qI (i : Int)] rfl rfl rput_o ⟨_, _, rfl⟩ (Nat.le_of_ble_eq_true rfl) (by decide) (by decide) (Nat.le_of_ble_eq_true rfl) (c_isRule (i : Int) hm) ?_
      refine z_eq rfl (qc (qi (show (qb (0 ≤ (i : Int) ∧ (i : Int) ≤ 95 ∧ (i : Int) % 24 < (g 5) ((i : Int).toNat / 24))) = (qb (rlP (g 5) i)) from qb_congr (rl_iff rfl (by omega)))) rfl) rfl ?_
      refine z_ifeqB 50 d_X12_clashes_26 (by decide) (fun q1 => ?_) (fun q1 => ?_)
      · refine z_iconst d_X12_clashes_50 (by decide) ?_
        refine z_iadd d_X12_clashes_51 (by omega) ?_
        refine z_istore_n (ls' := [qR m, qI ((clS (g 2) (g 5) i + cnt (clQ (g 2) (g 5) i) (d + i + 1)) + 0), qI (i : Int), qI (((d : Nat) : Int) + i + 1)]) d_X12_clashes_52 rfl (by decide) rfl ?_
        refine z_iinc (ls' := [qR m, qI ((clS (g 2) (g 5) i + cnt (clQ (g 2) (g 5) i) (d + i + 1)) + 0), qI (i : Int), qI ((((d : Nat) : Int) + i + 1) + 1)]) d_X12_clashes_53 rfl (by decide) (by omega) rfl ?_
        refine z_goto 14 d_X12_clashes_56 (by decide) ?_
        exact z_eq (qc rfl (qc (qi (by rw [show d + 1 + i + 1 = d + i + 1 + 1 by omega, show cnt (clQ (g 2) (g 5) i) (d + i + 1 + 1) = cnt (clQ (g 2) (g 5) i) (d + i + 1) + qb ((clQ (g 2) (g 5) i) (d + i + 1)) from rfl]; first | (rw [qb_t (show (clQ (g 2) (g 5) i) (d + i + 1) from ⟨by omega, q1, q2, q3⟩)]; omega) | (rw [qb_f (show ¬ (clQ (g 2) (g 5) i) (d + i + 1) from fun z9 => by first | exact q1 z9.2.1 | exact q2 z9.2.2.1 | exact q3 z9.2.2.2)]; omega))) (qc rfl (qc (qi (by omega)) rfl)))) rfl rfl (kkd trivial)
      · refine z_aload_n d_X12_clashes_29 rfl rfl ?_
        refine z_iload_n d_X12_clashes_30 rfl rfl ?_
        refine z_cv (M1 := M_X12_isRule) d_X12_clashes_31 lv_X12_366 k_X12_isRule [qI (((d : Nat) : Int) + i + 1)] rfl rfl rput_o ⟨_, _, rfl⟩ (Nat.le_of_ble_eq_true rfl) (by decide) (by decide) (Nat.le_of_ble_eq_true rfl) (c_isRule (((d : Nat) : Int) + i + 1) hm) ?_
        refine z_eq rfl (qc (qi (show (qb (0 ≤ (((d : Nat) : Int) + i + 1) ∧ (((d : Nat) : Int) + i + 1) ≤ 95 ∧ (((d : Nat) : Int) + i + 1) % 24 < (g 5) ((((d : Nat) : Int) + i + 1).toNat / 24))) = (qb (rlP (g 5) (d + i + 1))) from qb_congr (rl_iff rfl (by omega)))) rfl) rfl ?_
        refine z_ifeqB 50 d_X12_clashes_34 (by decide) (fun q2 => ?_) (fun q2 => ?_)
        · refine z_iconst d_X12_clashes_50 (by decide) ?_
          refine z_iadd d_X12_clashes_51 (by omega) ?_
          refine z_istore_n (ls' := [qR m, qI ((clS (g 2) (g 5) i + cnt (clQ (g 2) (g 5) i) (d + i + 1)) + 0), qI (i : Int), qI (((d : Nat) : Int) + i + 1)]) d_X12_clashes_52 rfl (by decide) rfl ?_
          refine z_iinc (ls' := [qR m, qI ((clS (g 2) (g 5) i + cnt (clQ (g 2) (g 5) i) (d + i + 1)) + 0), qI (i : Int), qI ((((d : Nat) : Int) + i + 1) + 1)]) d_X12_clashes_53 rfl (by decide) (by omega) rfl ?_
          refine z_goto 14 d_X12_clashes_56 (by decide) ?_
          exact z_eq (qc rfl (qc (qi (by rw [show d + 1 + i + 1 = d + i + 1 + 1 by omega, show cnt (clQ (g 2) (g 5) i) (d + i + 1 + 1) = cnt (clQ (g 2) (g 5) i) (d + i + 1) + qb ((clQ (g 2) (g 5) i) (d + i + 1)) from rfl]; first | (rw [qb_t (show (clQ (g 2) (g 5) i) (d + i + 1) from ⟨by omega, q1, q2, q3⟩)]; omega) | (rw [qb_f (show ¬ (clQ (g 2) (g 5) i) (d + i + 1) from fun z9 => by first | exact q1 z9.2.1 | exact q2 z9.2.2.1 | exact q3 z9.2.2.2)]; omega))) (qc rfl (qc (qi (by omega)) rfl)))) rfl rfl (kkd trivial)
        · refine z_aload_n d_X12_clashes_37 rfl rfl ?_
          refine z_iload_n d_X12_clashes_38 rfl rfl ?_
          refine z_iload_n d_X12_clashes_39 rfl rfl ?_
          refine z_cv (M1 := M_X12_isClash) d_X12_clashes_40 lv_X12_395 k_X12_isClash [qI (i : Int), qI (((d : Nat) : Int) + i + 1)] rfl rfl rput_o ⟨_, _, rfl⟩ (Nat.le_of_ble_eq_true rfl) (by decide) (by decide) (Nat.le_of_ble_eq_true rfl) (c_isClash (i := i) (j := (d + i + 1)) hm (by omega) (by omega)) ?_
          refine z_ifeqB 50 d_X12_clashes_43 (by decide) (fun q3 => ?_) (fun q3 => ?_)
          · refine z_iconst d_X12_clashes_50 (by decide) ?_
            refine z_iadd d_X12_clashes_51 (by omega) ?_
            refine z_istore_n (ls' := [qR m, qI ((clS (g 2) (g 5) i + cnt (clQ (g 2) (g 5) i) (d + i + 1)) + 0), qI (i : Int), qI (((d : Nat) : Int) + i + 1)]) d_X12_clashes_52 rfl (by decide) rfl ?_
            refine z_iinc (ls' := [qR m, qI ((clS (g 2) (g 5) i + cnt (clQ (g 2) (g 5) i) (d + i + 1)) + 0), qI (i : Int), qI ((((d : Nat) : Int) + i + 1) + 1)]) d_X12_clashes_53 rfl (by decide) (by omega) rfl ?_
            refine z_goto 14 d_X12_clashes_56 (by decide) ?_
            exact z_eq (qc rfl (qc (qi (by rw [show d + 1 + i + 1 = d + i + 1 + 1 by omega, show cnt (clQ (g 2) (g 5) i) (d + i + 1 + 1) = cnt (clQ (g 2) (g 5) i) (d + i + 1) + qb ((clQ (g 2) (g 5) i) (d + i + 1)) from rfl]; first | (rw [qb_t (show (clQ (g 2) (g 5) i) (d + i + 1) from ⟨by omega, q1, q2, q3⟩)]; omega) | (rw [qb_f (show ¬ (clQ (g 2) (g 5) i) (d + i + 1) from fun z9 => by first | exact q1 z9.2.1 | exact q2 z9.2.2.1 | exact q3 z9.2.2.2)]; omega))) (qc rfl (qc (qi (by omega)) rfl)))) rfl rfl (kkd trivial)
          · refine z_iconst d_X12_clashes_46 (by decide) ?_
            refine z_goto 51 d_X12_clashes_47 (by decide) ?_
            refine z_iadd d_X12_clashes_51 (by omega) ?_
            refine z_istore_n (ls' := [qR m, qI ((clS (g 2) (g 5) i + cnt (clQ (g 2) (g 5) i) (d + i + 1)) + 1), qI (i : Int), qI (((d : Nat) : Int) + i + 1)]) d_X12_clashes_52 rfl (by decide) rfl ?_
            refine z_iinc (ls' := [qR m, qI ((clS (g 2) (g 5) i + cnt (clQ (g 2) (g 5) i) (d + i + 1)) + 1), qI (i : Int), qI ((((d : Nat) : Int) + i + 1) + 1)]) d_X12_clashes_53 rfl (by decide) (by omega) rfl ?_
            refine z_goto 14 d_X12_clashes_56 (by decide) ?_
            exact z_eq (qc rfl (qc (qi (by rw [show d + 1 + i + 1 = d + i + 1 + 1 by omega, show cnt (clQ (g 2) (g 5) i) (d + i + 1 + 1) = cnt (clQ (g 2) (g 5) i) (d + i + 1) + qb ((clQ (g 2) (g 5) i) (d + i + 1)) from rfl]; first | (rw [qb_t (show (clQ (g 2) (g 5) i) (d + i + 1) from ⟨by omega, q1, q2, q3⟩)]; omega) | (rw [qb_f (show ¬ (clQ (g 2) (g 5) i) (d + i + 1) from fun z9 => by first | exact q1 z9.2.1 | exact q2 z9.2.2.1 | exact q3 z9.2.2.2)]; omega))) (qc rfl (qc (qi (by omega)) rfl)))) rfl rfl (kkd trivial)
    · show qEx M_X12_clashes 14 [qR m, qI (clS (g 2) (g 5) i + cnt (clQ (g 2) (g 5) i) ((95 - i) + i + 1)), qI (i : Int), qI ((((95 - i) : Nat) : Int) + i + 1)] [] (rput h m f g) r hr
      refine z_iload_n d_X12_clashes_14 rfl rfl ?_
      refine z_bipush d_X12_clashes_15 (by decide) ?_
      refine z_icmp_ge 59 d_X12_clashes_17 (by decide) (fun hc3 => ?_) (fun hc3 => absurd hc3 (by omega))
      refine z_iinc (ls' := [qR m, qI (clS (g 2) (g 5) i + cnt (clQ (g 2) (g 5) i) ((95 - i) + i + 1)), qI ((i : Int) + 1), qI ((((95 - i) : Nat) : Int) + i + 1)]) d_X12_clashes_59 rfl (by decide) (by omega) rfl ?_
      refine z_goto 4 d_X12_clashes_62 (by decide) ?_
      exact z_dr (qle_k rfl (qle_k (qi (by rw [show 95 - i + i + 1 = 96 by omega]; rfl)) (qle_k (qi (by omega)) (qle_d qle_n)))) rfl rfl (kki trivial)
  · show qEx M_X12_clashes 4 [qR m, qI (clS (g 2) (g 5) 96), qI (96 : Int), qU] [] (rput h m f g) r hr
    refine z_iload_n d_X12_clashes_4 rfl rfl ?_
    refine z_bipush d_X12_clashes_5 (by decide) ?_
    refine z_icmp_ge 65 d_X12_clashes_7 (by decide) (fun hc4 => ?_) (fun hc4 => absurd hc4 (by omega))
    refine z_iload_n d_X12_clashes_65 rfl rfl ?_
    exact z_iret d_X12_clashes_66 rfl er eh
set_option maxRecDepth 20000 in
set_option maxHeartbeats 4000000 in
theorem c_rules0 {h : qH} {m : Nat} {f : Nat → Int} {g : Nat → Nat → Int}  (hm : 2 ≤ m) (h0 : f 0 = 0) : qEx M_X12_rules 0 [qR m, qI 0, qU, qU, qU, qU] [] (rput h m f g) (some (qI (clS (g 2) (g 5) 96))) (rput h m f g) := by
  refine q_gen (fun r hr er eh => ?_)
  refine z_aload_n d_X12_rules_0 rfl rfl ?_
  refine z_iconst d_X12_rules_1 (by decide) ?_
  refine z_putf (fs' := [qI 0, qI (f 1), qI (f 2), qI (f 3), qI (f 4), qI (f 5), qI (f 6), qI (f 7), qR (m + 1), qR (m + 2), qR (m + 3), qR (m + 4), qR (m + 5), qR (m + 6), qR (m + 7), qR (m + 8), qR (m + 9), qR (m + 10), qI (f 18), qI (f 19), qI (f 20), qR (m + 11), qR (m + 12), qR (m + 13), qR (m + 14), qI (f 25), qR (m + 15), qI (f 27), qR (m + 16), qR (m + 17), qR (m + 18), qR (m + 19), qR (m + 20), qR (m + 21), qR (m + 22), qR (m + 23), qR (m + 24), qI (f 37), qI (f 38), qI (f 39), qI (f 40), qR (m + 25), qR (m + 26), qR (m + 27), qR (m + 28), qR (m + 29), qR (m + 30), qR (m + 31), qI (f 48), qR (m + 32), qR (m + 33), qR (m + 34), qR (m + 35), qR (m + 36), qR (m + 37)]) d_X12_rules_2 fp_X12_127 rput_o (fun _ => rfl) (fun _ => rfl) (Nat.le_of_ble_eq_true rfl) rfl ?_
  refine z_eq rfl rfl ((rput_sf (f' := qup f 0 0) rfl).trans (rput_cg (qup_self h0) rfl)) ?_
  refine z_iload_n d_X12_rules_5 rfl rfl ?_
  refine z_iconst d_X12_rules_6 (by decide) ?_
  refine z_iconst d_X12_rules_7 (by decide) ?_
  refine z_cs (M1 := M_X12_in) d_X12_rules_8 ls_X12_137 k_X12_in [qI 0, qI 0, qI 4] rfl rfl (Nat.le_of_ble_eq_true rfl) (by decide) (by decide) (Nat.le_of_ble_eq_true rfl) (c_in 0 0 4) ?_
  refine z_ifneB 16 d_X12_rules_11 (by decide) (fun hc1 => ?_) (fun hc1 => absurd hc1 (by exact fun z => z (by decide)))
  refine z_iload_n d_X12_rules_16 rfl rfl ?_
  refine z_if_ne 25 d_X12_rules_17 (by decide) (fun hc2 => absurd hc2 (by decide)) (fun hc2 => ?_)
  refine z_aload_n d_X12_rules_20 rfl rfl ?_
  refine z_cv (M1 := M_X12_clashes) d_X12_rules_21 lv_X12_398 k_X12_clashes [] rfl rfl rput_o ⟨_, _, rfl⟩ (Nat.le_of_ble_eq_true rfl) (by decide) (by decide) (Nat.le_of_ble_eq_true rfl) (c_clashes hm) ?_
  exact z_iret d_X12_rules_24 rfl er eh
set_option maxRecDepth 20000 in
set_option maxHeartbeats 4000000 in
theorem c_rules_no {h : qH} {m : Nat} {f : Nat → Int} {g : Nat → Nat → Int} (what : Int) (hm : 2 ≤ m) (h0 : f 0 = 0) (hno : ¬ (0 ≤ what ∧ what ≤ 4)) : qEx M_X12_rules 0 [qR m, qI what, qU, qU, qU, qU] [] (rput h m f g) (some (qI (-1))) (rput h m f g) := by
  refine q_gen (fun r hr er eh => ?_)
  refine z_aload_n d_X12_rules_0 rfl rfl ?_
  refine z_iconst d_X12_rules_1 (by decide) ?_
  refine z_putf (fs' := [qI 0, qI (f 1), qI (f 2), qI (f 3), qI (f 4), qI (f 5), qI (f 6), qI (f 7), qR (m + 1), qR (m + 2), qR (m + 3), qR (m + 4), qR (m + 5), qR (m + 6), qR (m + 7), qR (m + 8), qR (m + 9), qR (m + 10), qI (f 18), qI (f 19), qI (f 20), qR (m + 11), qR (m + 12), qR (m + 13), qR (m + 14), qI (f 25), qR (m + 15), qI (f 27), qR (m + 16), qR (m + 17), qR (m + 18), qR (m + 19), qR (m + 20), qR (m + 21), qR (m + 22), qR (m + 23), qR (m + 24), qI (f 37), qI (f 38), qI (f 39), qI (f 40), qR (m + 25), qR (m + 26), qR (m + 27), qR (m + 28), qR (m + 29), qR (m + 30), qR (m + 31), qI (f 48), qR (m + 32), qR (m + 33), qR (m + 34), qR (m + 35), qR (m + 36), qR (m + 37)]) d_X12_rules_2 fp_X12_127 rput_o (fun _ => rfl) (fun _ => rfl) (Nat.le_of_ble_eq_true rfl) rfl ?_
  refine z_eq rfl rfl ((rput_sf (f' := qup f 0 0) rfl).trans (rput_cg (qup_self h0) rfl)) ?_
  refine z_iload_n d_X12_rules_5 rfl rfl ?_
  refine z_iconst d_X12_rules_6 (by decide) ?_
  refine z_iconst d_X12_rules_7 (by decide) ?_
  refine z_cs (M1 := M_X12_in) d_X12_rules_8 ls_X12_137 k_X12_in [qI what, qI 0, qI 4] rfl rfl (Nat.le_of_ble_eq_true rfl) (by decide) (by decide) (Nat.le_of_ble_eq_true rfl) (c_in what 0 4) ?_
  refine z_ifneB 16 d_X12_rules_11 (by decide) (fun hc1 => ?_) (fun hc1 => ?_)
  · exact absurd (by omega) hno
  · refine z_iconst d_X12_rules_14 (by decide) ?_
    exact z_iret d_X12_rules_15 rfl er eh
/-- the case seen from the other side; rules that decide some case -/
def mir (c : Nat) : Nat := 81 * (c / 81) + 9 * (c % 9) + c / 9 % 9
def dcV (Y : Nat → Int) (_ c : Nat) : Int := Y c
def dcR (Y : Nat → Int) : Nat → Nat → Prop := fun j => ex2 (fun _ => False) (dcV Y) 0 0 j
def umP (T : Nat → Int) (c : Nat) : Prop := T c ≠ T (mir c)
set_option maxRecDepth 20000 in
set_option maxHeartbeats 1000000 in
theorem c_rules {h : qH} {m : Nat} {f : Nat → Int} {g : Nat → Nat → Int} (what : Int) (hm : 2 ≤ m) (h0 : f 0 = 0) (hw : 1 ≤ what ∧ what ≤ 4) (hO : bkOk (g 2) (g 5)) : ∃ g', (sq g g') ∧ qEx M_X12_rules 0 [qR m, qI what, qU, qU, qU, qU] [] (rput h m f g) (some (qI (qif (what ≠ 1) (qif (what ≠ 2) (qif (what ≠ 3) (cnt (umP (ownT g)) 648) (qb (cnt (umP (ownT g)) 648 = 0))) (fst (fun q9 => rlP (g 5) q9 ∧ ¬ dcR (ownF g) 648 q9) 96)) (cnt (fun q9 => rlP (g 5) q9 ∧ ¬ dcR (ownF g) 648 q9) 96)))) (rput h m f g') := by
  refine y_in (fun Q hQ => ?_)
  have hOB := ownT_bd hO
  refine qy (fun _ _ k9 => z_aload_n d_X12_rules_0 rfl rfl k9) ?_
  refine qy (fun _ _ k9 => z_iconst d_X12_rules_1 (by decide) k9) ?_
  refine qy (fun _ _ k9 => z_putf (fs' := [qI 0, qI (f 1), qI (f 2), qI (f 3), qI (f 4), qI (f 5), qI (f 6), qI (f 7), qR (m + 1), qR (m + 2), qR (m + 3), qR (m + 4), qR (m + 5), qR (m + 6), qR (m + 7), qR (m + 8), qR (m + 9), qR (m + 10), qI (f 18), qI (f 19), qI (f 20), qR (m + 11), qR (m + 12), qR (m + 13), qR (m + 14), qI (f 25), qR (m + 15), qI (f 27), qR (m + 16), qR (m + 17), qR (m + 18), qR (m + 19), qR (m + 20), qR (m + 21), qR (m + 22), qR (m + 23), qR (m + 24), qI (f 37), qI (f 38), qI (f 39), qI (f 40), qR (m + 25), qR (m + 26), qR (m + 27), qR (m + 28), qR (m + 29), qR (m + 30), qR (m + 31), qI (f 48), qR (m + 32), qR (m + 33), qR (m + 34), qR (m + 35), qR (m + 36), qR (m + 37)]) d_X12_rules_2 fp_X12_127 rput_o (fun _ => rfl) (fun _ => rfl) (Nat.le_of_ble_eq_true rfl) rfl k9) ?_
  refine qy (fun _ _ k9 => z_eq rfl rfl ((rput_sf (f' := qup f 0 0) rfl).trans (rput_cg (qup_self h0) rfl)) k9) ?_
  refine qy (fun _ _ k9 => z_iload_n d_X12_rules_5 rfl rfl k9) ?_
  refine qy (fun _ _ k9 => z_iconst d_X12_rules_6 (by decide) k9) ?_
  refine qy (fun _ _ k9 => z_iconst d_X12_rules_7 (by decide) k9) ?_
  refine qy (fun _ _ k9 => z_cs (M1 := M_X12_in) d_X12_rules_8 ls_X12_137 k_X12_in [qI what, qI 0, qI 4] rfl rfl (Nat.le_of_ble_eq_true rfl) (by decide) (by decide) (Nat.le_of_ble_eq_true rfl) (c_in what 0 4) k9) ?_
  refine qy2 (fun _ _ => z_ifneB 16 d_X12_rules_11 (by decide)) (fun hc1 => ?_) (fun hc1 => absurd hc1 (by exact fun z => z (by omega)))
  refine qy (fun _ _ k9 => z_iload_n d_X12_rules_16 rfl rfl k9) ?_
  refine qy2 (fun _ _ => z_if_ne 25 d_X12_rules_17 (by decide)) (fun hc2 => ?_) (fun hc2 => absurd hc2 (by exact fun z => z (by omega)))
  refine qy (fun _ _ k9 => z_aload_n d_X12_rules_25 rfl rfl k9) ?_
  obtain ⟨y1, ⟨hlf, hlT, hlF⟩, hx1⟩ := y_laysOwn hm
  refine qy (fun _ _ k9 => z_cv0 (M1 := M_X12_laysOwn) d_X12_rules_26 lv_X12_275 k_X12_laysOwn [] rfl rfl rput_o ⟨_, _, rfl⟩ (Nat.le_of_ble_eq_true rfl) (by decide) (by decide) (Nat.le_of_ble_eq_true rfl) hx1 k9) ?_
  refine qy (fun _ _ k9 => z_iconst d_X12_rules_29 (by decide) k9) ?_
  refine qy (fun _ _ k9 => z_istore_n (ls' := [qR m, qI what, qI 0, qU, qU, qU]) d_X12_rules_30 rfl (by decide) rfl k9) ?_
  refine qy (fun _ _ k9 => z_eq (qc rfl (qc rfl (qc (qi (by omega)) (qc rfl (qc rfl (qc rfl rfl)))))) rfl rfl k9) (y_wh2 (fun (i : Nat) (x : Nat → Nat → Int) => 96 - i) (fun (i : Nat) (x : Nat → Nat → Int) => [qR m, qI what, qI (i : Int), qU, qU, qU]) (fun (i : Nat) (x : Nat → Nat → Int) => (rput h m f x)) (fun (i : Nat) (x : Nat → Nat → Int) => i ≤ 96 ∧ sq g x ∧ (∀ c, c < 648 → x 25 c = (ownT g) c) ∧ (∀ c, c < 648 → x 26 c = (ownF g) c) ∧ ∀ q, q < i → x 31 q = 0) 0 y1 (⟨by omega, sq_fr hlf (by decide), hlT, hlF, fun k hk => absurd hk (by omega)⟩) (fun i x hp kk => ?_))
  obtain ⟨hi, hs, hT, hY, hZ⟩ := hp
  show qEy M_X12_rules 31 [qR m, qI what, qI (i : Int), qU, qU, qU] [] (rput h m f x) Q
  refine qy (fun _ _ k9 => z_iload_n d_X12_rules_31 rfl rfl k9) ?_
  refine qy (fun _ _ k9 => z_bipush d_X12_rules_32 (by decide) k9) ?_
  refine qy2 (fun _ _ => z_icmp_ge 50 d_X12_rules_34 (by decide)) (fun hc3 => ?_) (fun hc3 => ?_)
  · refine qy (fun _ _ k9 => z_iconst d_X12_rules_50 (by decide) k9) ?_
    refine qy (fun _ _ k9 => z_istore_n (ls' := [qR m, qI what, qI 0, qU, qU, qU]) d_X12_rules_51 rfl (by decide) rfl k9) ?_
    refine qy (fun _ _ k9 => z_iconst d_X12_rules_52 (by decide) k9) ?_
    refine qy (fun _ _ k9 => z_istore_n (ls' := [qR m, qI what, qI 0, qI 0, qU, qU]) d_X12_rules_53 rfl (by decide) rfl k9) ?_
    refine qy (fun _ _ k9 => z_iconst d_X12_rules_54 (by decide) k9) ?_
    refine qy (fun _ _ k9 => z_istore (ls' := [qR m, qI what, qI 0, qI 0, qI (-1), qU]) d_X12_rules_55 (by decide) rfl k9) ?_
    refine qy (fun _ _ k9 => z_iconst d_X12_rules_57 (by decide) k9) ?_
    refine qy (fun _ _ k9 => z_istore (ls' := [qR m, qI what, qI 0, qI 0, qI (-1), qI 0]) d_X12_rules_58 (by decide) rfl k9) ?_
    refine qy (fun _ _ k9 => z_eq (qc rfl (qc rfl (qc (qi (rfl)) (qc rfl (qc rfl (qc (qi (by omega)) rfl)))))) rfl rfl k9) (y_wh2 (fun (i : Nat) (x : Nat → Nat → Int) => 648 - i) (fun (i : Nat) (x : Nat → Nat → Int) => [qR m, qI what, qI (cnt (umP (ownT g)) i), qI 0, qI (-1), qI (i : Int)]) (fun (i : Nat) (x : Nat → Nat → Int) => (rput h m f x)) (fun (i : Nat) (x : Nat → Nat → Int) => i ≤ 648 ∧ sq g x ∧ (∀ c, c < 648 → x 25 c = (ownT g) c) ∧ (∀ c, c < 648 → x 26 c = (ownF g) c) ∧ ∀ q, q < 96 → x 31 q = qb (dcR (ownF g) i q)) 0 x (⟨by omega, hs, hT, hY, fun q hq => (hZ q (by omega)).trans (qb_f (fun z9 => ex2_0.mp z9)).symm⟩) (fun i x hp kk => ?_))
    obtain ⟨hi, hs, hT, hY, hD⟩ := hp
    show qEy M_X12_rules 60 [qR m, qI what, qI (cnt (umP (ownT g)) i), qI 0, qI (-1), qI (i : Int)] [] (rput h m f x) Q
    have hcb := cnt_bd (umP (ownT g)) i
    have hqb := qb_bd ((ownT g) i ≠ (ownT g) (mir i))
    refine qy (fun _ _ k9 => z_iload d_X12_rules_60 rfl k9) ?_
    refine qy (fun _ _ k9 => z_sipush d_X12_rules_62 (by decide) k9) ?_
    refine qy2 (fun _ _ => z_icmp_ge 142 d_X12_rules_65 (by decide)) (fun hc4 => ?_) (fun hc4 => ?_)
    · refine qy (fun _ _ k9 => z_bipush d_X12_rules_142 (by decide) k9) ?_
      refine qy (fun _ _ k9 => z_istore (ls' := [qR m, qI what, qI (cnt (umP (ownT g)) i), qI 0, qI (-1), qI 95]) d_X12_rules_144 (by decide) rfl k9) ?_
      refine qy (fun _ _ k9 => z_eq (qc rfl (qc rfl (qc (qi (by rw [show i = 648 by omega])) (qc (qi (by show (0 : Int) = cnt _ 96 - cnt _ 96; omega)) (qc (qi (rfl)) (qc (qi (by omega)) rfl)))))) rfl rfl k9) (y_wh1 (fun (j : Nat) => 96 - j) (fun (j : Nat) => [qR m, qI what, qI (cnt (umP (ownT g)) 648), qI (cnt (fun q9 => rlP (g 5) q9 ∧ ¬ dcR (ownF g) 648 q9) 96 - cnt (fun q9 => rlP (g 5) q9 ∧ ¬ dcR (ownF g) 648 q9) (96 - j)), qI (fstF (fun q9 => rlP (g 5) q9 ∧ ¬ dcR (ownF g) 648 q9) j (96 - j)), qI (95 - (j : Int))]) (fun (j : Nat) => (rput h m f x)) (fun (j : Nat) => j ≤ 96) 0 (Nat.zero_le 96) (fun j hj kkj => ?_))
      show qEy M_X12_rules 146 [qR m, qI what, qI (cnt (umP (ownT g)) 648), qI (cnt (fun q9 => rlP (g 5) q9 ∧ ¬ dcR (ownF g) 648 q9) 96 - cnt (fun q9 => rlP (g 5) q9 ∧ ¬ dcR (ownF g) 648 q9) (96 - j)), qI (fstF (fun q9 => rlP (g 5) q9 ∧ ¬ dcR (ownF g) 648 q9) j (96 - j)), qI (95 - (j : Int))] [] (rput h m f x) Q
      have hc1 := cnt_bd (fun q9 => rlP (g 5) q9 ∧ ¬ dcR (ownF g) 648 q9) 96
      have hc2 := cnt_bd (fun q9 => rlP (g 5) q9 ∧ ¬ dcR (ownF g) 648 q9) (96 - j)
      refine qy (fun _ _ k9 => z_iload d_X12_rules_146 rfl k9) ?_
      refine qy2 (fun _ _ => z_if_lt 186 d_X12_rules_148 (by decide)) (fun hc5 => ?_) (fun hc5 => ?_)
      · refine qy (fun _ _ k9 => z_iload_n d_X12_rules_186 rfl rfl k9) ?_
        refine qy (fun _ _ k9 => z_iconst d_X12_rules_187 (by decide) k9) ?_
        suffices kJ188 : qEy M_X12_rules 223 [qR m, qI what, qI (cnt (umP (ownT g)) 648), qI (cnt (fun q9 => rlP (g 5) q9 ∧ ¬ dcR (ownF g) 648 q9) 96 - cnt (fun q9 => rlP (g 5) q9 ∧ ¬ dcR (ownF g) 648 q9) (96 - j)), qI (fstF (fun q9 => rlP (g 5) q9 ∧ ¬ dcR (ownF g) 648 q9) j (96 - j)), qI (95 - (j : Int))] [qI (qif (what ≠ 1) (qif (what ≠ 2) (qif (what ≠ 3) (cnt (umP (ownT g)) 648) (qb ((cnt (umP (ownT g)) 648) = 0))) (fstF (fun q9 => rlP (g 5) q9 ∧ ¬ dcR (ownF g) 648 q9) j (96 - j))) (cnt (fun q9 => rlP (g 5) q9 ∧ ¬ dcR (ownF g) 648 q9) 96 - cnt (fun q9 => rlP (g 5) q9 ∧ ¬ dcR (ownF g) 648 q9) (96 - j)))] (rput h m f x) Q by
          refine qy2 (fun _ _ => z_icmp_ne 195 d_X12_rules_188 (by decide)) (fun hc6 => ?_) (fun hc6 => ?_)
          · refine qy (fun _ _ k9 => z_iload_n d_X12_rules_195 rfl rfl k9) ?_
            refine qy (fun _ _ k9 => z_iconst d_X12_rules_196 (by decide) k9) ?_
            suffices kJ197 : qEy M_X12_rules 223 [qR m, qI what, qI (cnt (umP (ownT g)) 648), qI (cnt (fun q9 => rlP (g 5) q9 ∧ ¬ dcR (ownF g) 648 q9) 96 - cnt (fun q9 => rlP (g 5) q9 ∧ ¬ dcR (ownF g) 648 q9) (96 - j)), qI (fstF (fun q9 => rlP (g 5) q9 ∧ ¬ dcR (ownF g) 648 q9) j (96 - j)), qI (95 - (j : Int))] [qI (qif (what ≠ 2) (qif (what ≠ 3) (cnt (umP (ownT g)) 648) (qb ((cnt (umP (ownT g)) 648) = 0))) (fstF (fun q9 => rlP (g 5) q9 ∧ ¬ dcR (ownF g) 648 q9) j (96 - j)))] (rput h m f x) Q by
              refine qy2 (fun _ _ => z_icmp_ne 205 d_X12_rules_197 (by decide)) (fun hc7 => ?_) (fun hc7 => ?_)
              · refine qy (fun _ _ k9 => z_iload_n d_X12_rules_205 rfl rfl k9) ?_
                refine qy (fun _ _ k9 => z_iconst d_X12_rules_206 (by decide) k9) ?_
                suffices kJ207 : qEy M_X12_rules 223 [qR m, qI what, qI (cnt (umP (ownT g)) 648), qI (cnt (fun q9 => rlP (g 5) q9 ∧ ¬ dcR (ownF g) 648 q9) 96 - cnt (fun q9 => rlP (g 5) q9 ∧ ¬ dcR (ownF g) 648 q9) (96 - j)), qI (fstF (fun q9 => rlP (g 5) q9 ∧ ¬ dcR (ownF g) 648 q9) j (96 - j)), qI (95 - (j : Int))] [qI (qif (what ≠ 3) (cnt (umP (ownT g)) 648) (qb ((cnt (umP (ownT g)) 648) = 0)))] (rput h m f x) Q by
                  refine qy2 (fun _ _ => z_icmp_ne 222 d_X12_rules_207 (by decide)) (fun hc8 => ?_) (fun hc8 => ?_)
                  · refine qy (fun _ _ k9 => z_iload_n d_X12_rules_222 rfl rfl k9) ?_
                    exact qy (fun _ _ k9 => z_eq rfl (qc (qi (qif_t hc8).symm) rfl) rfl k9) kJ207
                  · refine qy (fun _ _ k9 => z_iload_n d_X12_rules_210 rfl rfl k9) ?_
                    suffices kJ211 : qEy M_X12_rules 223 [qR m, qI what, qI (cnt (umP (ownT g)) 648), qI (cnt (fun q9 => rlP (g 5) q9 ∧ ¬ dcR (ownF g) 648 q9) 96 - cnt (fun q9 => rlP (g 5) q9 ∧ ¬ dcR (ownF g) 648 q9) (96 - j)), qI (fstF (fun q9 => rlP (g 5) q9 ∧ ¬ dcR (ownF g) 648 q9) j (96 - j)), qI (95 - (j : Int))] [qI (qb ((cnt (umP (ownT g)) 648) = 0))] (rput h m f x) Q by
                      refine qy2 (fun _ _ => z_if_ne 218 d_X12_rules_211 (by decide)) (fun hc9 => ?_) (fun hc9 => ?_)
                      · refine qy (fun _ _ k9 => z_iconst d_X12_rules_218 (by decide) k9) ?_
                        refine qy (fun _ _ k9 => z_goto 223 d_X12_rules_219 (by decide) k9) ?_
                        exact qy (fun _ _ k9 => z_eq rfl (qc (qi (qb_f (by omega)).symm) rfl) rfl k9) kJ211
                      · refine qy (fun _ _ k9 => z_iconst d_X12_rules_214 (by decide) k9) ?_
                        refine qy (fun _ _ k9 => z_goto 223 d_X12_rules_215 (by decide) k9) ?_
                        exact qy (fun _ _ k9 => z_eq rfl (qc (qi (qb_t (by omega)).symm) rfl) rfl k9) kJ211
                    exact qy (fun _ _ k9 => z_eq rfl (qc (qi (qif_f hc8).symm) rfl) rfl k9) kJ207
                exact qy (fun _ _ k9 => z_eq rfl (qc (qi (qif_t hc7).symm) rfl) rfl k9) kJ197
              · refine qy (fun _ _ k9 => z_iload d_X12_rules_200 rfl k9) ?_
                refine qy (fun _ _ k9 => z_goto 223 d_X12_rules_202 (by decide) k9) ?_
                exact qy (fun _ _ k9 => z_eq rfl (qc (qi (qif_f hc7).symm) rfl) rfl k9) kJ197
            exact qy (fun _ _ k9 => z_eq rfl (qc (qi (qif_t hc6).symm) rfl) rfl k9) kJ188
          · refine qy (fun _ _ k9 => z_iload_n d_X12_rules_191 rfl rfl k9) ?_
            refine qy (fun _ _ k9 => z_goto 223 d_X12_rules_192 (by decide) k9) ?_
            exact qy (fun _ _ k9 => z_eq rfl (qc (qi (qif_f hc6).symm) rfl) rfl k9) kJ188
        exact y_ret (hQ x hs) (z_iret d_X12_rules_223 rfl (qsi (by rw [show j = 96 by omega]; exact qif_cg Iff.rfl rfl (by show cnt _ 96 = cnt _ 96 - 0; omega))) rfl)
      · refine qy (fun _ _ k9 => z_aload_n d_X12_rules_151 rfl rfl k9) ?_
        refine qy (fun _ _ k9 => z_iload d_X12_rules_152 rfl k9) ?_
        refine qy (fun _ _ k9 => z_cv (M1 := M_X12_isRule) d_X12_rules_154 lv_X12_366 k_X12_isRule [qI (95 - (j : Int))] rfl rfl rput_o ⟨_, _, rfl⟩ (Nat.le_of_ble_eq_true rfl) (by decide) (by decide) (Nat.le_of_ble_eq_true rfl) (c_isRule (95 - (j : Int)) hm) k9) ?_
        refine qy (fun _ _ k9 => z_eq rfl (qc (qi (show (qb (0 ≤ (95 - (j : Int)) ∧ (95 - (j : Int)) ≤ 95 ∧ (95 - (j : Int)) % 24 < (x 5) ((95 - (j : Int)).toNat / 24))) = (qb (rlP (g 5) (95 - j))) from qb_congr (by rw [hs 5 (by decide) (by decide)]; exact rl_iff (by omega) (by omega)))) rfl) rfl k9) ?_
        refine qy2n (fun _ _ => z_ifeqB 180 d_X12_rules_157 (by decide)) (fun hr9 => ?_) (fun hr9 => ?_)
        · refine qy (fun _ _ k9 => z_iinc (ls' := [qR m, qI what, qI (cnt (umP (ownT g)) 648), qI (cnt (fun q9 => rlP (g 5) q9 ∧ ¬ dcR (ownF g) 648 q9) 96 - cnt (fun q9 => rlP (g 5) q9 ∧ ¬ dcR (ownF g) 648 q9) (96 - j)), qI (fstF (fun q9 => rlP (g 5) q9 ∧ ¬ dcR (ownF g) 648 q9) j (96 - j)), qI ((95 - (j : Int)) + (-1))]) d_X12_rules_180 rfl (by decide) (by omega) rfl k9) ?_
          refine qy (fun _ _ k9 => z_goto 146 d_X12_rules_183 (by decide) k9) ?_
          exact qy (fun _ _ k9 => z_eq (qc rfl (qc rfl (qc rfl (qc (qi (by rw [show 96 - j = 95 - j + 1 by omega, show 96 - (j + 1) = 95 - j by omega, show cnt (fun q9 => rlP (g 5) q9 ∧ ¬ dcR (ownF g) 648 q9) (95 - j + 1) = cnt (fun q9 => rlP (g 5) q9 ∧ ¬ dcR (ownF g) 648 q9) (95 - j) + qb (rlP (g 5) (95 - j) ∧ ¬ dcR (ownF g) 648 (95 - j)) from rfl]; first | (rw [qb_t ⟨hr9, hd9⟩]; omega) | (rw [qb_f (fun z9 => hr9 z9.1)]; omega) | (rw [qb_f (fun z9 => z9.2 hd9)]; omega))) (qc (qi (by rw [show 96 - (j + 1) = 95 - j by omega, fstF_s]; first | (rw [qif_t ⟨hr9, hd9⟩]; omega) | rw [qif_f (fun z9 => hr9 z9.1), show 95 - j + 1 = 96 - j by omega] | rw [qif_f (fun z9 => z9.2 hd9), show 95 - j + 1 = 96 - j by omega])) (qc (qi (by omega)) rfl)))))) rfl rfl k9) (kkj (j + 1) (by omega) (by omega))
        · refine qy (fun _ _ k9 => z_aload_n d_X12_rules_160 rfl rfl k9) ?_
          refine qy (fun _ _ k9 => z_getf (v := qR (m + 31)) d_X12_rules_161 fl_X12_104 rput_o rfl k9) ?_
          refine qy (fun _ _ k9 => z_iload d_X12_rules_164 rfl k9) ?_
          refine qy (fun _ _ k9 => z_bld (95 - j) d_X12_rules_166 (rput_a2 31 (t := 2) (n := 96) (F := (x 31)) rfl rfl rfl (by decide) (by decide)) (by omega) (by omega) k9) ?_
          refine qy (fun _ _ k9 => z_eq rfl (qc (qi (show ((x 31) (95 - j)) = (qb (dcR (ownF g) 648 (95 - j))) from by rw [hD _ (by omega), show i = 648 by omega])) rfl) rfl k9) ?_
          refine qy2n (fun _ _ => z_ifeqB 173 d_X12_rules_167 (by decide)) (fun hd9 => ?_) (fun hd9 => ?_)
          · refine qy (fun _ _ k9 => z_iinc (ls' := [qR m, qI what, qI (cnt (umP (ownT g)) 648), qI ((cnt (fun q9 => rlP (g 5) q9 ∧ ¬ dcR (ownF g) 648 q9) 96 - cnt (fun q9 => rlP (g 5) q9 ∧ ¬ dcR (ownF g) 648 q9) (96 - j)) + 1), qI (fstF (fun q9 => rlP (g 5) q9 ∧ ¬ dcR (ownF g) 648 q9) j (96 - j)), qI (95 - (j : Int))]) d_X12_rules_173 rfl (by decide) (by omega) rfl k9) ?_
            refine qy (fun _ _ k9 => z_iload d_X12_rules_176 rfl k9) ?_
            refine qy (fun _ _ k9 => z_istore (ls' := [qR m, qI what, qI (cnt (umP (ownT g)) 648), qI ((cnt (fun q9 => rlP (g 5) q9 ∧ ¬ dcR (ownF g) 648 q9) 96 - cnt (fun q9 => rlP (g 5) q9 ∧ ¬ dcR (ownF g) 648 q9) (96 - j)) + 1), qI (95 - (j : Int)), qI (95 - (j : Int))]) d_X12_rules_178 (by decide) rfl k9) ?_
            refine qy (fun _ _ k9 => z_iinc (ls' := [qR m, qI what, qI (cnt (umP (ownT g)) 648), qI ((cnt (fun q9 => rlP (g 5) q9 ∧ ¬ dcR (ownF g) 648 q9) 96 - cnt (fun q9 => rlP (g 5) q9 ∧ ¬ dcR (ownF g) 648 q9) (96 - j)) + 1), qI (95 - (j : Int)), qI ((95 - (j : Int)) + (-1))]) d_X12_rules_180 rfl (by decide) (by omega) rfl k9) ?_
            refine qy (fun _ _ k9 => z_goto 146 d_X12_rules_183 (by decide) k9) ?_
            exact qy (fun _ _ k9 => z_eq (qc rfl (qc rfl (qc rfl (qc (qi (by rw [show 96 - j = 95 - j + 1 by omega, show 96 - (j + 1) = 95 - j by omega, show cnt (fun q9 => rlP (g 5) q9 ∧ ¬ dcR (ownF g) 648 q9) (95 - j + 1) = cnt (fun q9 => rlP (g 5) q9 ∧ ¬ dcR (ownF g) 648 q9) (95 - j) + qb (rlP (g 5) (95 - j) ∧ ¬ dcR (ownF g) 648 (95 - j)) from rfl]; first | (rw [qb_t ⟨hr9, hd9⟩]; omega) | (rw [qb_f (fun z9 => hr9 z9.1)]; omega) | (rw [qb_f (fun z9 => z9.2 hd9)]; omega))) (qc (qi (by rw [show 96 - (j + 1) = 95 - j by omega, fstF_s]; first | (rw [qif_t ⟨hr9, hd9⟩]; omega) | rw [qif_f (fun z9 => hr9 z9.1), show 95 - j + 1 = 96 - j by omega] | rw [qif_f (fun z9 => z9.2 hd9), show 95 - j + 1 = 96 - j by omega])) (qc (qi (by omega)) rfl)))))) rfl rfl k9) (kkj (j + 1) (by omega) (by omega))
          · refine qy (fun _ _ k9 => z_goto 180 d_X12_rules_170 (by decide) k9) ?_
            refine qy (fun _ _ k9 => z_iinc (ls' := [qR m, qI what, qI (cnt (umP (ownT g)) 648), qI (cnt (fun q9 => rlP (g 5) q9 ∧ ¬ dcR (ownF g) 648 q9) 96 - cnt (fun q9 => rlP (g 5) q9 ∧ ¬ dcR (ownF g) 648 q9) (96 - j)), qI (fstF (fun q9 => rlP (g 5) q9 ∧ ¬ dcR (ownF g) 648 q9) j (96 - j)), qI ((95 - (j : Int)) + (-1))]) d_X12_rules_180 rfl (by decide) (by omega) rfl k9) ?_
            refine qy (fun _ _ k9 => z_goto 146 d_X12_rules_183 (by decide) k9) ?_
            exact qy (fun _ _ k9 => z_eq (qc rfl (qc rfl (qc rfl (qc (qi (by rw [show 96 - j = 95 - j + 1 by omega, show 96 - (j + 1) = 95 - j by omega, show cnt (fun q9 => rlP (g 5) q9 ∧ ¬ dcR (ownF g) 648 q9) (95 - j + 1) = cnt (fun q9 => rlP (g 5) q9 ∧ ¬ dcR (ownF g) 648 q9) (95 - j) + qb (rlP (g 5) (95 - j) ∧ ¬ dcR (ownF g) 648 (95 - j)) from rfl]; first | (rw [qb_t ⟨hr9, hd9⟩]; omega) | (rw [qb_f (fun z9 => hr9 z9.1)]; omega) | (rw [qb_f (fun z9 => z9.2 hd9)]; omega))) (qc (qi (by rw [show 96 - (j + 1) = 95 - j by omega, fstF_s]; first | (rw [qif_t ⟨hr9, hd9⟩]; omega) | rw [qif_f (fun z9 => hr9 z9.1), show 95 - j + 1 = 96 - j by omega] | rw [qif_f (fun z9 => z9.2 hd9), show 95 - j + 1 = 96 - j by omega])) (qc (qi (by omega)) rfl)))))) rfl rfl k9) (kkj (j + 1) (by omega) (by omega))
    · refine qy (fun _ _ k9 => z_aload_n d_X12_rules_68 rfl rfl k9) ?_
      refine qy (fun _ _ k9 => z_getf (v := qR (m + 26)) d_X12_rules_69 fl_X12_89 rput_o rfl k9) ?_
      refine qy (fun _ _ k9 => z_iload d_X12_rules_72 rfl k9) ?_
      refine qy (fun _ _ k9 => z_ild i d_X12_rules_74 (rput_a2 26 (t := 0) (n := 648) (F := (x 26)) rfl rfl rfl (by decide) (by decide)) rfl (by omega) k9) ?_
      refine qy (fun _ _ k9 => z_eq rfl (qc (qi (show ((x 26) i) = ((ownF g) i) from hY _ (by omega))) rfl) rfl k9) ?_
      refine qy (fun _ _ k9 => z_iconst d_X12_rules_75 (by decide) k9) ?_
      refine qy2 (fun _ _ => z_icmp_eq 92 d_X12_rules_76 (by decide)) (fun hv9 => ?_) (fun hv9 => ?_)
      · refine qy (fun _ _ k9 => z_iload_n d_X12_rules_92 rfl rfl k9) ?_
        refine qy (fun _ _ k9 => z_aload_n d_X12_rules_93 rfl rfl k9) ?_
        refine qy (fun _ _ k9 => z_getf (v := qR (m + 25)) d_X12_rules_94 fl_X12_86 rput_o rfl k9) ?_
        refine qy (fun _ _ k9 => z_iload d_X12_rules_97 rfl k9) ?_
        refine qy (fun _ _ k9 => z_ild i d_X12_rules_99 (rput_a2 25 (t := 0) (n := 648) (F := (x 25)) rfl rfl rfl (by decide) (by decide)) rfl (by omega) k9) ?_
        refine qy (fun _ _ k9 => z_eq rfl (qc (qi (show ((x 25) i) = ((ownT g) i) from hT _ (by omega))) rfl) rfl k9) ?_
        refine qy (fun _ _ k9 => z_aload_n d_X12_rules_100 rfl rfl k9) ?_
        refine qy (fun _ _ k9 => z_getf (v := qR (m + 25)) d_X12_rules_101 fl_X12_86 rput_o rfl k9) ?_
        refine qy (fun _ _ k9 => z_iload d_X12_rules_104 rfl k9) ?_
        refine qy (fun _ _ k9 => z_bipush d_X12_rules_106 (by decide) k9) ?_
        refine qy (fun _ _ k9 => z_idiv d_X12_rules_108 (by omega) k9) ?_
        refine qy (fun _ _ k9 => z_eq rfl (qc (qi (by rw [Int.tdiv_eq_ediv_of_nonneg (by omega)] <;> omega)) rfl) rfl k9) ?_
        refine qy (fun _ _ k9 => z_iload d_X12_rules_109 rfl k9) ?_
        refine qy (fun _ _ k9 => z_bipush d_X12_rules_111 (by decide) k9) ?_
        refine qy (fun _ _ k9 => z_irem d_X12_rules_113 (by omega) k9) ?_
        refine qy (fun _ _ k9 => z_eq rfl (qc (qi (by rw [Int.tmod_eq_emod_of_nonneg (by omega)] <;> omega)) rfl) rfl k9) ?_
        refine qy (fun _ _ k9 => z_iload d_X12_rules_114 rfl k9) ?_
        refine qy (fun _ _ k9 => z_bipush d_X12_rules_116 (by decide) k9) ?_
        refine qy (fun _ _ k9 => z_idiv d_X12_rules_118 (by omega) k9) ?_
        refine qy (fun _ _ k9 => z_eq rfl (qc (qi (by rw [Int.tdiv_eq_ediv_of_nonneg (by omega)] <;> omega)) rfl) rfl k9) ?_
        refine qy (fun _ _ k9 => z_bipush d_X12_rules_119 (by decide) k9) ?_
        refine qy (fun _ _ k9 => z_irem d_X12_rules_121 (by omega) k9) ?_
        refine qy (fun _ _ k9 => z_eq rfl (qc (qi (by rw [Int.tmod_eq_emod_of_nonneg (by omega)] <;> omega)) rfl) rfl k9) ?_
        refine qy (fun _ _ k9 => z_cs (M1 := M_X12_caseOf) d_X12_rules_122 ls_X12_263 k_X12_caseOf [qI (((i / 81) : Nat) : Int), qI (((i % 9) : Nat) : Int), qI ((((i / 9) % 9) : Nat) : Int)] rfl rfl (Nat.le_of_ble_eq_true rfl) (by decide) (by decide) (Nat.le_of_ble_eq_true rfl) (c_caseOf2 (((i / 81) : Nat) : Int) (((i % 9) : Nat) : Int) ((((i / 9) % 9) : Nat) : Int) (by omega) (by omega) (by omega)) k9) ?_
        refine qy (fun _ _ k9 => z_ild (mir i) d_X12_rules_125 (rput_a2 25 (t := 0) (n := 648) (F := (x 25)) rfl rfl rfl (by decide) (by decide)) rfl (by unfold mir; omega) k9) ?_
        refine qy (fun _ _ k9 => z_eq rfl (qc (qi (show ((x 25) (mir i)) = ((ownT g) (mir i)) from hT _ (by unfold mir; omega))) rfl) rfl k9) ?_
        suffices kJ126 : qEy M_X12_rules 134 [qR m, qI what, qI (cnt (umP (ownT g)) i), qI 0, qI (-1), qI (i : Int)] [qI (qb (((ownT g) i) ≠ ((ownT g) (mir i)))), qI (cnt (umP (ownT g)) i)] (rput h m f x) Q by
          refine qy2 (fun _ _ => z_icmp_ne 133 d_X12_rules_126 (by decide)) (fun hc10 => ?_) (fun hc10 => ?_)
          · refine qy (fun _ _ k9 => z_iconst d_X12_rules_133 (by decide) k9) ?_
            exact qy (fun _ _ k9 => z_eq rfl (qc (qi (qb_t (by omega)).symm) (qc rfl rfl)) rfl k9) kJ126
          · refine qy (fun _ _ k9 => z_iconst d_X12_rules_129 (by decide) k9) ?_
            refine qy (fun _ _ k9 => z_goto 134 d_X12_rules_130 (by decide) k9) ?_
            exact qy (fun _ _ k9 => z_eq rfl (qc (qi (qb_f (by omega)).symm) (qc rfl rfl)) rfl k9) kJ126
        refine qy (fun _ _ k9 => z_iadd d_X12_rules_134 (by omega) k9) ?_
        refine qy (fun _ _ k9 => z_istore_n (ls' := [qR m, qI what, qI ((cnt (umP (ownT g)) i) + (qb (((ownT g) i) ≠ ((ownT g) (mir i))))), qI 0, qI (-1), qI (i : Int)]) d_X12_rules_135 rfl (by decide) rfl k9) ?_
        refine qy (fun _ _ k9 => z_iinc (ls' := [qR m, qI what, qI ((cnt (umP (ownT g)) i) + (qb (((ownT g) i) ≠ ((ownT g) (mir i))))), qI 0, qI (-1), qI ((i : Int) + 1)]) d_X12_rules_136 rfl (by decide) (by omega) rfl k9) ?_
        refine qy (fun _ _ k9 => z_goto 60 d_X12_rules_139 (by decide) k9) ?_
        exact qy (fun _ _ k9 => z_eq (qc rfl (qc rfl (qc (qi (by show _ = cnt (umP (ownT g)) i + qb (umP (ownT g) i); exact congrArg (fun z9 => cnt (umP (ownT g)) i + z9) (qb_congr Iff.rfl))) (qc rfl (qc rfl (qc (qi (by omega)) rfl)))))) rfl rfl k9) (kk (i + 1) x (⟨by omega, hs, hT, hY, dec_no (v := dcV (ownF g)) hD hv9⟩) (by omega))
      · refine qy (fun _ _ k9 => z_aload_n d_X12_rules_79 rfl rfl k9) ?_
        refine qy (fun _ _ k9 => z_getf (v := qR (m + 31)) d_X12_rules_80 fl_X12_104 rput_o rfl k9) ?_
        refine qy (fun _ _ k9 => z_aload_n d_X12_rules_83 rfl rfl k9) ?_
        refine qy (fun _ _ k9 => z_getf (v := qR (m + 26)) d_X12_rules_84 fl_X12_89 rput_o rfl k9) ?_
        refine qy (fun _ _ k9 => z_iload d_X12_rules_87 rfl k9) ?_
        refine qy (fun _ _ k9 => z_ild i d_X12_rules_89 (rput_a2 26 (t := 0) (n := 648) (F := (x 26)) rfl rfl rfl (by decide) (by decide)) rfl (by omega) k9) ?_
        refine qy (fun _ _ k9 => z_eq rfl (qc (qi (show ((x 26) i) = ((ownF g) i) from hY _ (by omega))) rfl) rfl k9) ?_
        refine qy (fun _ _ k9 => z_iconst d_X12_rules_90 (by decide) k9) ?_
        refine qy (fun _ _ k9 => z_bst ((ownF g i).toNat) d_X12_rules_91 (rput_a2 31 (t := 2) (n := 96) (F := (x 31)) rfl rfl rfl (by decide) (by decide)) (by have := ownF_bd (g := g) i (by omega); omega) (by have := ownF_bd (g := g) i (by omega); omega) (by have := ownF_bd (g := g) i (by omega); omega) (by first | exact qb_01 _ | decide) k9) ?_
        refine qy (fun _ _ k9 => z_eq rfl rfl (rput_sa 31 rfl rfl (by decide) (by decide)) k9) ?_
        refine qy (fun _ _ k9 => z_iload_n d_X12_rules_92 rfl rfl k9) ?_
        refine qy (fun _ _ k9 => z_aload_n d_X12_rules_93 rfl rfl k9) ?_
        refine qy (fun _ _ k9 => z_getf (v := qR (m + 25)) d_X12_rules_94 fl_X12_86 rput_o rfl k9) ?_
        refine qy (fun _ _ k9 => z_iload d_X12_rules_97 rfl k9) ?_
        refine qy (fun _ _ k9 => z_ild i d_X12_rules_99 (rput_a2 25 (t := 0) (n := 648) (F := (x 25)) rfl rfl rfl (by decide) (by decide)) rfl (by omega) k9) ?_
        refine qy (fun _ _ k9 => z_eq rfl (qc (qi (show ((x 25) i) = ((ownT g) i) from hT _ (by omega))) rfl) rfl k9) ?_
        refine qy (fun _ _ k9 => z_aload_n d_X12_rules_100 rfl rfl k9) ?_
        refine qy (fun _ _ k9 => z_getf (v := qR (m + 25)) d_X12_rules_101 fl_X12_86 rput_o rfl k9) ?_
        refine qy (fun _ _ k9 => z_iload d_X12_rules_104 rfl k9) ?_
        refine qy (fun _ _ k9 => z_bipush d_X12_rules_106 (by decide) k9) ?_
        refine qy (fun _ _ k9 => z_idiv d_X12_rules_108 (by omega) k9) ?_
        refine qy (fun _ _ k9 => z_eq rfl (qc (qi (by rw [Int.tdiv_eq_ediv_of_nonneg (by omega)] <;> omega)) rfl) rfl k9) ?_
        refine qy (fun _ _ k9 => z_iload d_X12_rules_109 rfl k9) ?_
        refine qy (fun _ _ k9 => z_bipush d_X12_rules_111 (by decide) k9) ?_
        refine qy (fun _ _ k9 => z_irem d_X12_rules_113 (by omega) k9) ?_
        refine qy (fun _ _ k9 => z_eq rfl (qc (qi (by rw [Int.tmod_eq_emod_of_nonneg (by omega)] <;> omega)) rfl) rfl k9) ?_
        refine qy (fun _ _ k9 => z_iload d_X12_rules_114 rfl k9) ?_
        refine qy (fun _ _ k9 => z_bipush d_X12_rules_116 (by decide) k9) ?_
        refine qy (fun _ _ k9 => z_idiv d_X12_rules_118 (by omega) k9) ?_
        refine qy (fun _ _ k9 => z_eq rfl (qc (qi (by rw [Int.tdiv_eq_ediv_of_nonneg (by omega)] <;> omega)) rfl) rfl k9) ?_
        refine qy (fun _ _ k9 => z_bipush d_X12_rules_119 (by decide) k9) ?_
        refine qy (fun _ _ k9 => z_irem d_X12_rules_121 (by omega) k9) ?_
        refine qy (fun _ _ k9 => z_eq rfl (qc (qi (by rw [Int.tmod_eq_emod_of_nonneg (by omega)] <;> omega)) rfl) rfl k9) ?_
        refine qy (fun _ _ k9 => z_cs (M1 := M_X12_caseOf) d_X12_rules_122 ls_X12_263 k_X12_caseOf [qI (((i / 81) : Nat) : Int), qI (((i % 9) : Nat) : Int), qI ((((i / 9) % 9) : Nat) : Int)] rfl rfl (Nat.le_of_ble_eq_true rfl) (by decide) (by decide) (Nat.le_of_ble_eq_true rfl) (c_caseOf2 (((i / 81) : Nat) : Int) (((i % 9) : Nat) : Int) ((((i / 9) % 9) : Nat) : Int) (by omega) (by omega) (by omega)) k9) ?_
        refine qy (fun _ _ k9 => z_ild (mir i) d_X12_rules_125 (rput_a2 25 (t := 0) (n := 648) (F := (x 25)) rfl rfl rfl (by decide) (by decide)) rfl (by unfold mir; omega) k9) ?_
        refine qy (fun _ _ k9 => z_eq rfl (qc (qi (show ((x 25) (mir i)) = ((ownT g) (mir i)) from hT _ (by unfold mir; omega))) rfl) rfl k9) ?_
        suffices kJ126 : qEy M_X12_rules 134 [qR m, qI what, qI (cnt (umP (ownT g)) i), qI 0, qI (-1), qI (i : Int)] [qI (qb (((ownT g) i) ≠ ((ownT g) (mir i)))), qI (cnt (umP (ownT g)) i)] (rput h m f (gup x 31 (qup (x 31) ((ownF g i).toNat) 1))) Q by
          refine qy2 (fun _ _ => z_icmp_ne 133 d_X12_rules_126 (by decide)) (fun hc11 => ?_) (fun hc11 => ?_)
          · refine qy (fun _ _ k9 => z_iconst d_X12_rules_133 (by decide) k9) ?_
            exact qy (fun _ _ k9 => z_eq rfl (qc (qi (qb_t (by omega)).symm) (qc rfl rfl)) rfl k9) kJ126
          · refine qy (fun _ _ k9 => z_iconst d_X12_rules_129 (by decide) k9) ?_
            refine qy (fun _ _ k9 => z_goto 134 d_X12_rules_130 (by decide) k9) ?_
            exact qy (fun _ _ k9 => z_eq rfl (qc (qi (qb_f (by omega)).symm) (qc rfl rfl)) rfl k9) kJ126
        refine qy (fun _ _ k9 => z_iadd d_X12_rules_134 (by omega) k9) ?_
        refine qy (fun _ _ k9 => z_istore_n (ls' := [qR m, qI what, qI ((cnt (umP (ownT g)) i) + (qb (((ownT g) i) ≠ ((ownT g) (mir i))))), qI 0, qI (-1), qI (i : Int)]) d_X12_rules_135 rfl (by decide) rfl k9) ?_
        refine qy (fun _ _ k9 => z_iinc (ls' := [qR m, qI what, qI ((cnt (umP (ownT g)) i) + (qb (((ownT g) i) ≠ ((ownT g) (mir i))))), qI 0, qI (-1), qI ((i : Int) + 1)]) d_X12_rules_136 rfl (by decide) (by omega) rfl k9) ?_
        refine qy (fun _ _ k9 => z_goto 60 d_X12_rules_139 (by decide) k9) ?_
        exact qy (fun _ _ k9 => z_eq (qc rfl (qc rfl (qc (qi (by show _ = cnt (umP (ownT g)) i + qb (umP (ownT g) i); exact congrArg (fun z9 => cnt (umP (ownT g)) i + z9) (qb_congr Iff.rfl))) (qc rfl (qc rfl (qc (qi (by omega)) rfl)))))) rfl rfl k9) (kk (i + 1) (gup x 31 (qup (x 31) ((ownF g i).toNat) 1)) (⟨by omega, (sq_up hs (by decide)), hT, hY, dec_up (v := dcV (ownF g)) hD (show 0 ≤ ownF g i by have := ownF_bd (g := g) i (by omega); omega)⟩) (by omega))
  · refine qy (fun _ _ k9 => z_aload_n d_X12_rules_37 rfl rfl k9) ?_
    refine qy (fun _ _ k9 => z_getf (v := qR (m + 31)) d_X12_rules_38 fl_X12_104 rput_o rfl k9) ?_
    refine qy (fun _ _ k9 => z_iload_n d_X12_rules_41 rfl rfl k9) ?_
    refine qy (fun _ _ k9 => z_iconst d_X12_rules_42 (by decide) k9) ?_
    refine qy (fun _ _ k9 => z_bst i d_X12_rules_43 (rput_a2 31 (t := 2) (n := 96) (F := (x 31)) rfl rfl rfl (by decide) (by decide)) (by omega) rfl (by omega) (by first | exact qb_01 _ | decide) k9) ?_
    refine qy (fun _ _ k9 => z_eq rfl rfl (rput_sa 31 rfl rfl (by decide) (by decide)) k9) ?_
    refine qy (fun _ _ k9 => z_iinc (ls' := [qR m, qI what, qI ((i : Int) + 1), qU, qU, qU]) d_X12_rules_44 rfl (by decide) (by omega) rfl k9) ?_
    refine qy (fun _ _ k9 => z_goto 31 d_X12_rules_47 (by decide) k9) ?_
    exact qy (fun _ _ k9 => z_eq (qc rfl (qc rfl (qc (qi (by omega)) (qc rfl (qc rfl (qc rfl rfl)))))) rfl rfl k9) (kk (i + 1) (gup x 31 (qup (x 31) i 0)) (⟨by omega, (sq_up hs (by decide)), hT, hY, fun k hk => if e : k = i then (by show qup (x 31) i 0 k = 0; rw [e, qup_eq]) else (by show qup (x 31) i 0 k = 0; rw [qup_ne e]; exact hZ k (by omega))⟩) (by omega))
