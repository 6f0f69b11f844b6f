/-! ===== CONTRACTS: a book's clashes; forebears ===== -/
def gcP (R : Nat → Int) (i k : Nat) : Prop := pcP (fun j => R (96 * (i / 24) + j)) (fun j => R (96 * (k / 24) + j)) (i % 24) (k % 24)
def gcQ (R C : Nat → Int) (i k : Nat) : Prop := i < k ∧ rlP C k ∧ gcP R i k
noncomputable def gcS (R C : Nat → Int) : Nat → Int
  | 0 => 0
  | i + 1 => gcS R C i + qif (rlP C i) (cnt (gcQ R C i) 96) 0
theorem gcQ_0 {R C : Nat → Int} {i : Nat} : cnt (gcQ R C i) (i + 1) = 0 := cnt_0.mpr (fun k hk z => by have := z.1; omega)
theorem gcS_bd {R C : Nat → Int} : ∀ i : Nat, 0 ≤ gcS R C i ∧ gcS R C i ≤ 96 * i
  | 0 => by show 0 ≤ (0 : Int) ∧ (0 : Int) ≤ 96 * ((0 : Nat) : Int); omega
  | i + 1 => by
    have h := gcS_bd (R := R) (C := C) i
    have h2 := cnt_bd (gcQ R C i) 96
    have h3 : 0 ≤ qif (rlP C i) (cnt (gcQ R C i) 96) 0 ∧ qif (rlP C i) (cnt (gcQ R C i) 96) 0 ≤ 96 := qif_or (fun z => 0 ≤ z ∧ z ≤ (96 : Int)) (by omega) (by omega)
    show 0 ≤ gcS R C i + qif (rlP C i) (cnt (gcQ R C i) 96) 0 ∧ gcS R C i + qif (rlP C i) (cnt (gcQ R C i) 96) 0 ≤ 96 * ((i + 1 : Nat) : Int)
    omega
set_option maxRecDepth 20000 in
set_option maxHeartbeats 4000000 in
theorem c_bkBehind {h : qH} {F G : Nat → Nat → Int} {b : Nat} {R C : Nat → Int} (i : Nat) (hb2 : 2 ≤ b) (hb : xk b = 0) (hR : bkR F G b R C) (hi : i < 96) (hri : rlP C i) : qEx M_X0_clashesBehind 0 [qR b, qI (i : Int), qU, qU, qU, qU] [] (xput h F G) (some (qI (cnt (gcQ R C i) 96))) (xput h F G) := by
  refine q_gen (fun r hr er eh => ?_)
  have hin := (bkp hb2 hb).2.1
  refine z_aload_n d_X0_clashesBehind_0 rfl rfl ?_
  refine z_getf (v := qR (b + 1)) d_X0_clashesBehind_1 fl_X0_11 (xput_ob (c := (F b)) (bkx_in hb2 hb) rfl (xsh_0 hb)) rfl ?_
  refine z_iload_n d_X0_clashesBehind_4 rfl rfl ?_
  refine z_bipush d_X0_clashesBehind_5 (by decide) ?_
  refine z_idiv d_X0_clashesBehind_7 (by omega) ?_
  refine z_eq rfl (qc (qi (by rw [Int.tdiv_eq_ediv_of_nonneg (by omega)] <;> omega)) rfl) rfl ?_
  refine z_ald (i / 24) d_X0_clashesBehind_8 (Or.inl ⟨rfl, rfl, rfl⟩) (xput_ob ⟨by omega, by have := (bkp hb2 hb).2.1; omega⟩ rfl (xsh_20 (bkp hb2 hb).1)) rfl (by omega) (show (if (i / 24) < 4 then some ((b + 1) + 3 + 5 * (i / 24)) else none) = some (b + 4 + 5 * (i / 24)) from (if_pos (by omega)).trans (congrArg some (by omega))) ?_
  refine z_astore_n (ls' := [qR b, qI (i : Int), qR (b + 4 + 5 * (i / 24)), qU, qU, qU]) d_X0_clashesBehind_9 rfl (by decide) rfl ?_
  refine z_iconst d_X0_clashesBehind_10 (by decide) ?_
  refine z_istore_n (ls' := [qR b, qI (i : Int), qR (b + 4 + 5 * (i / 24)), qI 0, qU, qU]) d_X0_clashesBehind_11 rfl (by decide) rfl ?_
  refine z_iload_n d_X0_clashesBehind_12 rfl rfl ?_
  refine z_iconst d_X0_clashesBehind_13 (by decide) ?_
  refine z_iadd d_X0_clashesBehind_14 (by omega) ?_
  refine z_istore (ls' := [qR b, qI (i : Int), qR (b + 4 + 5 * (i / 24)), qI 0, qI ((i : Int) + 1), qU]) d_X0_clashesBehind_15 (by decide) rfl ?_
  refine z_eq (qc rfl (qc rfl (qc rfl (qc (qi (gcQ_0.symm)) (qc (qi (by omega)) (qc rfl rfl)))))) rfl rfl (z_for (95 - i) (fun j => [qR b, qI (i : Int), qR (b + 4 + 5 * (i / 24)), qI (cnt (gcQ R C i) (i + 1 + j)), qI (((i + 1 + j) : Nat) : Int), qU]) (fun j => (xput h F G)) (fun j => True) trivial (fun j hij hp kkj => ?_) (fun hp => ?_))
  · show qEx M_X0_clashesBehind 17 [qR b, qI (i : Int), qR (b + 4 + 5 * (i / 24)), qI (cnt (gcQ R C i) (i + 1 + j)), qI (((i + 1 + j) : Nat) : Int), qU] [] (xput h F G) r hr
    obtain ⟨k, hk⟩ : ∃ k, k = i + 1 + j := ⟨_, rfl⟩
    rw [← hk]
    have hcn := cnt_bd (gcQ R C i) k
    refine z_iload d_X0_clashesBehind_17 rfl ?_
    refine z_bipush d_X0_clashesBehind_19 (by decide) ?_
    refine z_icmp_ge 72 d_X0_clashesBehind_21 (by decide) (fun hc1 => absurd hc1 (by omega)) (fun hc1 => ?_)
    refine z_aload_n d_X0_clashesBehind_24 rfl rfl ?_
    refine z_getf (v := qR (b + 1)) d_X0_clashesBehind_25 fl_X0_11 (xput_ob (c := (F b)) (bkx_in hb2 hb) rfl (xsh_0 hb)) rfl ?_
    refine z_iload d_X0_clashesBehind_28 rfl ?_
    refine z_bipush d_X0_clashesBehind_30 (by decide) ?_
    refine z_idiv d_X0_clashesBehind_32 (by omega) ?_
    refine z_eq rfl (qc (qi (by rw [Int.tdiv_eq_ediv_of_nonneg (by omega)] <;> omega)) rfl) rfl ?_
    refine z_ald (k / 24) d_X0_clashesBehind_33 (Or.inl ⟨rfl, rfl, rfl⟩) (xput_ob ⟨by omega, by have := (bkp hb2 hb).2.1; omega⟩ rfl (xsh_20 (bkp hb2 hb).1)) rfl (by omega) (show (if (k / 24) < 4 then some ((b + 1) + 3 + 5 * (k / 24)) else none) = some (b + 4 + 5 * (k / 24)) from (if_pos (by omega)).trans (congrArg some (by omega))) ?_
    refine z_astore (ls' := [qR b, qI (i : Int), qR (b + 4 + 5 * (i / 24)), qI (cnt (gcQ R C i) k), qI (k : Int), qR (b + 4 + 5 * (k / 24))]) d_X0_clashesBehind_34 (by decide) rfl ?_
    refine z_aload_n d_X0_clashesBehind_36 rfl rfl ?_
    refine z_iload d_X0_clashesBehind_37 rfl ?_
    refine z_cv (M1 := M_X0_has) d_X0_clashesBehind_39 lv_X0_69 k_X0_has [qI (k : Int)] rfl rfl (xput_ob (c := (F b)) (bkx_in hb2 hb) rfl (xsh_0 hb)) ⟨_, _, rfl⟩ (Nat.le_of_ble_eq_true rfl) (by decide) (by decide) (Nat.le_of_ble_eq_true rfl) (c_bkHas k hb2 hb (by omega) hR) ?_
    refine z_ifeqB 66 d_X0_clashesBehind_42 (by decide) (fun q42 => ?_) (fun q42 => ?_)
    · refine z_iinc (ls' := [qR b, qI (i : Int), qR (b + 4 + 5 * (i / 24)), qI (cnt (gcQ R C i) k), qI ((k : Int) + 1), qR (b + 4 + 5 * (k / 24))]) d_X0_clashesBehind_66 rfl (by decide) (by omega) rfl ?_
      refine z_goto 17 d_X0_clashesBehind_69 (by decide) ?_
      exact z_dr (qle_k rfl (qle_k rfl (qle_k rfl (qle_k (qi (by rw [show i + 1 + (j + 1) = k + 1 by omega]; exact (cnt_f (p := gcQ R C i) (fun z => q42 z.2.1)).symm)) (qle_k (qi (by omega)) (qle_d qle_n)))))) rfl rfl (kkj trivial)
    · refine z_aload_n d_X0_clashesBehind_45 rfl rfl ?_
      refine z_iload_n d_X0_clashesBehind_46 rfl rfl ?_
      refine z_bipush d_X0_clashesBehind_47 (by decide) ?_
      refine z_irem d_X0_clashesBehind_49 (by omega) ?_
      refine z_eq rfl (qc (qi (by rw [Int.tmod_eq_emod_of_nonneg (by omega)] <;> omega)) rfl) rfl ?_
      refine z_aload d_X0_clashesBehind_50 rfl ?_
      refine z_iload d_X0_clashesBehind_52 rfl ?_
      refine z_bipush d_X0_clashesBehind_54 (by decide) ?_
      refine z_irem d_X0_clashesBehind_56 (by omega) ?_
      refine z_eq rfl (qc (qi (by rw [Int.tmod_eq_emod_of_nonneg (by omega)] <;> omega)) rfl) rfl ?_
      refine z_cv (M1 := M_X2_clashes) d_X0_clashesBehind_57 lv_X0_73 k_X2_clashes [qI (((i % 24) : Nat) : Int), qR (b + 4 + 5 * (k / 24)), qI (((k % 24) : Nat) : Int)] rfl rfl (xput_ob (c := (F (b + 4 + 5 * (i / 24)))) (pgx_in (by omega) ((bkp hb2 hb).2.2 (i / 24) (by omega))) rfl (xsh_2 ((bkp hb2 hb).2.2 (i / 24) (by omega)))) ⟨_, _, rfl⟩ (Nat.le_of_ble_eq_true rfl) (by decide) (by decide) (Nat.le_of_ble_eq_true rfl) (c_pgClash (p := (b + 4 + 5 * (i / 24))) (q := (b + 4 + 5 * (k / 24))) (R := (fun j => R (96 * (i / 24) + j))) (S := (fun j => R (96 * (k / 24) + j))) (c := C (i / 24)) (d := C (k / 24)) (i % 24) (k % 24) (by omega) ((bkp hb2 hb).2.2 (i / 24) (by omega)) (by omega) ((bkp hb2 hb).2.2 (k / 24) (by omega)) (hR (i / 24) (by omega)) (hR (k / 24) (by omega)) hri q42) ?_
      refine z_ifeqB 66 d_X0_clashesBehind_60 (by decide) (fun q60 => ?_) (fun q60 => ?_)
      · refine z_iinc (ls' := [qR b, qI (i : Int), qR (b + 4 + 5 * (i / 24)), qI (cnt (gcQ R C i) k), qI ((k : Int) + 1), qR (b + 4 + 5 * (k / 24))]) d_X0_clashesBehind_66 rfl (by decide) (by omega) rfl ?_
        refine z_goto 17 d_X0_clashesBehind_69 (by decide) ?_
        exact z_dr (qle_k rfl (qle_k rfl (qle_k rfl (qle_k (qi (by rw [show i + 1 + (j + 1) = k + 1 by omega]; exact (cnt_f (p := gcQ R C i) (fun z => q60 z.2.2)).symm)) (qle_k (qi (by omega)) (qle_d qle_n)))))) rfl rfl (kkj trivial)
      · refine z_iinc (ls' := [qR b, qI (i : Int), qR (b + 4 + 5 * (i / 24)), qI ((cnt (gcQ R C i) k) + 1), qI (k : Int), qR (b + 4 + 5 * (k / 24))]) d_X0_clashesBehind_63 rfl (by decide) (by omega) rfl ?_
        refine z_iinc (ls' := [qR b, qI (i : Int), qR (b + 4 + 5 * (i / 24)), qI ((cnt (gcQ R C i) k) + 1), qI ((k : Int) + 1), qR (b + 4 + 5 * (k / 24))]) d_X0_clashesBehind_66 rfl (by decide) (by omega) rfl ?_
        refine z_goto 17 d_X0_clashesBehind_69 (by decide) ?_
        exact z_dr (qle_k rfl (qle_k rfl (qle_k rfl (qle_k (qi (by rw [show i + 1 + (j + 1) = k + 1 by omega]; exact (cnt_t (p := gcQ R C i) ⟨by omega, q42, q60⟩).symm)) (qle_k (qi (by omega)) (qle_d qle_n)))))) rfl rfl (kkj trivial)
  · show qEx M_X0_clashesBehind 17 [qR b, qI (i : Int), qR (b + 4 + 5 * (i / 24)), qI (cnt (gcQ R C i) (i + 1 + (95 - i))), qI (((i + 1 + (95 - i)) : Nat) : Int), qU] [] (xput h F G) r hr
    refine z_iload d_X0_clashesBehind_17 rfl ?_
    refine z_bipush d_X0_clashesBehind_19 (by decide) ?_
    refine z_icmp_ge 72 d_X0_clashesBehind_21 (by decide) (fun hc2 => ?_) (fun hc2 => absurd hc2 (by omega))
    refine z_iload_n d_X0_clashesBehind_72 rfl rfl ?_
    exact z_iret d_X0_clashesBehind_73 rfl (qer er (by rw [show i + 1 + (95 - i) = 96 by omega])) eh
set_option maxRecDepth 20000 in
set_option maxHeartbeats 4000000 in
theorem c_bkClash {h : qH} {F G : Nat → Nat → Int} {b : Nat} {R C : Nat → Int} (hb2 : 2 ≤ b) (hb : xk b = 0) (hR : bkR F G b R C) : qEx M_X0_clashes 0 [qR b, qU, qU] [] (xput h F G) (some (qI (gcS R C 96))) (xput h F G) := by
  refine q_gen (fun r hr er eh => ?_)
  refine z_iconst d_X0_clashes_0 (by decide) ?_
  refine z_istore_n (ls' := [qR b, qI 0, qU]) d_X0_clashes_1 rfl (by decide) rfl ?_
  refine z_iconst d_X0_clashes_2 (by decide) ?_
  refine z_istore_n (ls' := [qR b, qI 0, qI 0]) d_X0_clashes_3 rfl (by decide) rfl ?_
  refine z_eq (qc rfl (qc (qi (rfl)) (qc (qi (rfl)) rfl))) rfl rfl (z_for 96 (fun i => [qR b, qI (gcS R C i), qI (i : Int)]) (fun i => (xput h F G)) (fun i => True) trivial (fun i hii hp kki => ?_) (fun hp => ?_))
  · show qEx M_X0_clashes 4 [qR b, qI (gcS R C i), qI (i : Int)] [] (xput h F G) r hr
    have hcn := cnt_bd (gcQ R C i) 96
    have hgs := gcS_bd (R := R) (C := C) i
    refine z_iload_n d_X0_clashes_4 rfl rfl ?_
    refine z_bipush d_X0_clashes_5 (by decide) ?_
    refine z_icmp_ge 32 d_X0_clashes_7 (by decide) (fun hc1 => absurd hc1 (by omega)) (fun hc1 => ?_)
    refine z_aload_n d_X0_clashes_10 rfl rfl ?_
    refine z_iload_n d_X0_clashes_11 rfl rfl ?_
    refine z_cv (M1 := M_X0_has) d_X0_clashes_12 lv_X0_69 k_X0_has [qI (i : Int)] rfl rfl (xput_ob (c := (F b)) (bkx_in hb2 hb) rfl (xsh_0 hb)) ⟨_, _, rfl⟩ (Nat.le_of_ble_eq_true rfl) (by decide) (by decide) (Nat.le_of_ble_eq_true rfl) (c_bkHas i hb2 hb (by omega) hR) ?_
    refine z_ifeqB 26 d_X0_clashes_15 (by decide) (fun q15 => ?_) (fun q15 => ?_)
    · refine z_iinc (ls' := [qR b, qI (gcS R C i), qI ((i : Int) + 1)]) d_X0_clashes_26 rfl (by decide) (by omega) rfl ?_
      refine z_goto 4 d_X0_clashes_29 (by decide) ?_
      exact z_eq (qc rfl (qc (qi ((show _ = gcS R C i + qif (rlP C i) (cnt (gcQ R C i) 96) 0 by rw [qif_f q15, Int.add_zero]))) (qc (qi (by omega)) rfl))) rfl rfl (kki trivial)
    · refine z_iload_n d_X0_clashes_18 rfl rfl ?_
      refine z_aload_n d_X0_clashes_19 rfl rfl ?_
      refine z_iload_n d_X0_clashes_20 rfl rfl ?_
      refine z_cv (M1 := M_X0_clashesBehind) d_X0_clashes_21 lv_X0_70 k_X0_clashesBehind [qI (i : Int)] rfl rfl (xput_ob (c := (F b)) (bkx_in hb2 hb) rfl (xsh_0 hb)) ⟨_, _, rfl⟩ (Nat.le_of_ble_eq_true rfl) (by decide) (by decide) (Nat.le_of_ble_eq_true rfl) (c_bkBehind i hb2 hb hR (by omega) q15) ?_
      refine z_iadd d_X0_clashes_24 (by omega) ?_
      refine z_istore_n (ls' := [qR b, qI ((gcS R C i) + (cnt (gcQ R C i) 96)), qI (i : Int)]) d_X0_clashes_25 rfl (by decide) rfl ?_
      refine z_iinc (ls' := [qR b, qI ((gcS R C i) + (cnt (gcQ R C i) 96)), qI ((i : Int) + 1)]) d_X0_clashes_26 rfl (by decide) (by omega) rfl ?_
      refine z_goto 4 d_X0_clashes_29 (by decide) ?_
      exact z_eq (qc rfl (qc (qi ((show _ = gcS R C i + qif (rlP C i) (cnt (gcQ R C i) 96) 0 by rw [qif_t q15]))) (qc (qi (by omega)) rfl))) rfl rfl (kki trivial)
  · show qEx M_X0_clashes 4 [qR b, qI (gcS R C 96), qI (96 : Int)] [] (xput h F G) r hr
    refine z_iload_n d_X0_clashes_4 rfl rfl ?_
    refine z_bipush d_X0_clashes_5 (by decide) ?_
    refine z_icmp_ge 32 d_X0_clashes_7 (by decide) (fun hc2 => ?_) (fun hc2 => absurd hc2 (by omega))
    refine z_iload_n d_X0_clashes_32 rfl rfl ?_
    exact z_iret d_X0_clashes_33 rfl er eh
