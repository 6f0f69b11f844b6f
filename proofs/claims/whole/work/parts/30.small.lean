/-! ===== CONTRACTS: small static methods ===== -/
theorem qer {r : Option qA} {x y : Int} (h : r = some (qI x)) (e : x = y) : r = some (qI y) := by rw [h, e]
theorem qerl {r : Option qA} {x y : Int} (h : r = some (qL x)) (e : x = y) : r = some (qL y) := by rw [h, e]
set_option maxRecDepth 20000 in
set_option maxHeartbeats 4000000 in
theorem c_isWithin {h : qH} (v lo hi : Int)  : qEx M_X11_isWithin 0 [qI v, qI lo, qI hi] [] h (some (qI (qb (lo ≤ v ∧ v ≤ hi)))) h := by
  refine q_gen (fun r hr er eh => ?_)
  refine z_iload_n d_X11_isWithin_0 rfl rfl ?_
  refine z_iload_n d_X11_isWithin_1 rfl rfl ?_
  suffices kJ2 : qEx M_X11_isWithin 15 [qI v, qI lo, qI hi] [qI (qb ((¬ (v < lo)) ∧ (¬ (v > hi))))] h r hr by
    refine z_icmp_lt 14 d_X11_isWithin_2 (by decide) (fun hc1 => ?_) (fun hc1 => ?_)
    · refine z_iconst d_X11_isWithin_14 (by decide) ?_
      exact z_eq rfl (qc (qi (qb_f (by omega)).symm) rfl) rfl kJ2
    · refine z_iload_n d_X11_isWithin_5 rfl rfl ?_
      refine z_iload_n d_X11_isWithin_6 rfl rfl ?_
      suffices kJ7 : qEx M_X11_isWithin 15 [qI v, qI lo, qI hi] [qI (qb (¬ (v > hi)))] h r hr by
        refine z_icmp_gt 14 d_X11_isWithin_7 (by decide) (fun hc2 => ?_) (fun hc2 => ?_)
        · refine z_iconst d_X11_isWithin_14 (by decide) ?_
          exact z_eq rfl (qc (qi (qb_f (by omega)).symm) rfl) rfl kJ7
        · refine z_iconst d_X11_isWithin_10 (by decide) ?_
          refine z_goto 15 d_X11_isWithin_11 (by decide) ?_
          exact z_eq rfl (qc (qi (qb_t (by omega)).symm) rfl) rfl kJ7
      exact z_eq rfl (qc (qi (qb_congr (by omega))) rfl) rfl kJ2
  exact z_zret d_X11_isWithin_15 rfl (by first | exact qb_01 _ | decide | omega) (qer er (qb_congr (by omega))) eh
set_option maxRecDepth 20000 in
set_option maxHeartbeats 4000000 in
theorem c_in {h : qH} (v lo hi : Int)  : qEx M_X12_in 0 [qI v, qI lo, qI hi] [] h (some (qI (qb (lo ≤ v ∧ v ≤ hi)))) h := by
  refine q_gen (fun r hr er eh => ?_)
  refine z_iload_n d_X12_in_0 rfl rfl ?_
  refine z_iload_n d_X12_in_1 rfl rfl ?_
  suffices kJ2 : qEx M_X12_in 15 [qI v, qI lo, qI hi] [qI (qb ((¬ (v < lo)) ∧ (¬ (v > hi))))] h r hr by
    refine z_icmp_lt 14 d_X12_in_2 (by decide) (fun hc1 => ?_) (fun hc1 => ?_)
    · refine z_iconst d_X12_in_14 (by decide) ?_
      exact z_eq rfl (qc (qi (qb_f (by omega)).symm) rfl) rfl kJ2
    · refine z_iload_n d_X12_in_5 rfl rfl ?_
      refine z_iload_n d_X12_in_6 rfl rfl ?_
      suffices kJ7 : qEx M_X12_in 15 [qI v, qI lo, qI hi] [qI (qb (¬ (v > hi)))] h r hr by
        refine z_icmp_gt 14 d_X12_in_7 (by decide) (fun hc2 => ?_) (fun hc2 => ?_)
        · refine z_iconst d_X12_in_14 (by decide) ?_
          exact z_eq rfl (qc (qi (qb_f (by omega)).symm) rfl) rfl kJ7
        · refine z_iconst d_X12_in_10 (by decide) ?_
          refine z_goto 15 d_X12_in_11 (by decide) ?_
          exact z_eq rfl (qc (qi (qb_t (by omega)).symm) rfl) rfl kJ7
      exact z_eq rfl (qc (qi (qb_congr (by omega))) rfl) rfl kJ2
  exact z_zret d_X12_in_15 rfl (by first | exact qb_01 _ | decide | omega) (qer er (qb_congr (by omega))) eh
set_option maxRecDepth 20000 in
set_option maxHeartbeats 4000000 in
theorem c_isRun {h : qH} (n k : Int) (hn : R32 n) : qEx M_X11_isRun 0 [qI n, qI k] [] h (some (qI (qb ((1 ≤ n ∧ n ≤ 32) ∧ 0 ≤ k ∧ k < n)))) h := by
  refine q_gen (fun r hr er eh => ?_)
  refine z_iload_n d_X11_isRun_0 rfl rfl ?_
  refine z_iconst d_X11_isRun_1 (by decide) ?_
  refine z_bipush d_X11_isRun_2 (by decide) ?_
  refine z_cs (M1 := M_X11_isWithin) d_X11_isRun_4 ls_X11_62 k_X11_isWithin [qI n, qI 1, qI 32] rfl rfl (Nat.le_of_ble_eq_true rfl) (by decide) (by decide) (Nat.le_of_ble_eq_true rfl) (c_isWithin n 1 32) ?_
  suffices kJ7 : qEx M_X11_isRun 26 [qI n, qI k] [qI (qb ((1 ≤ n ∧ n ≤ 32) ∧ (0 ≤ k ∧ k ≤ (n - 1))))] h r hr by
    refine z_ifeqB 25 d_X11_isRun_7 (by decide) (fun hc1 => ?_) (fun hc1 => ?_)
    · refine z_iconst d_X11_isRun_25 (by decide) ?_
      exact z_eq rfl (qc (qi (qb_f (by omega)).symm) rfl) rfl kJ7
    · refine z_iload_n d_X11_isRun_10 rfl rfl ?_
      refine z_iconst d_X11_isRun_11 (by decide) ?_
      refine z_iload_n d_X11_isRun_12 rfl rfl ?_
      refine z_iconst d_X11_isRun_13 (by decide) ?_
      refine z_isub d_X11_isRun_14 (by omega) ?_
      refine z_cs (M1 := M_X11_isWithin) d_X11_isRun_15 ls_X11_62 k_X11_isWithin [qI k, qI 0, qI (n - 1)] rfl rfl (Nat.le_of_ble_eq_true rfl) (by decide) (by decide) (Nat.le_of_ble_eq_true rfl) (c_isWithin k 0 (n - 1)) ?_
      suffices kJ18 : qEx M_X11_isRun 26 [qI n, qI k] [qI (qb (0 ≤ k ∧ k ≤ (n - 1)))] h r hr by
        refine z_ifeqB 25 d_X11_isRun_18 (by decide) (fun hc2 => ?_) (fun hc2 => ?_)
        · refine z_iconst d_X11_isRun_25 (by decide) ?_
          exact z_eq rfl (qc (qi (qb_f (by omega)).symm) rfl) rfl kJ18
        · refine z_iconst d_X11_isRun_21 (by decide) ?_
          refine z_goto 26 d_X11_isRun_22 (by decide) ?_
          exact z_eq rfl (qc (qi (qb_t (by omega)).symm) rfl) rfl kJ18
      exact z_eq rfl (qc (qi (qb_congr (by omega))) rfl) rfl kJ7
  exact z_zret d_X11_isRun_26 rfl (by first | exact qb_01 _ | decide | omega) (qer er (qb_congr (by omega))) eh
set_option maxRecDepth 20000 in
set_option maxHeartbeats 4000000 in
theorem c_isRun2 {h : qH} (n k : Int) (hn : R32 n) : qEx M_X12_isRun 0 [qI n, qI k] [] h (some (qI (qb ((1 ≤ n ∧ n ≤ 32) ∧ 0 ≤ k ∧ k < n)))) h := by
  refine q_gen (fun r hr er eh => ?_)
  refine z_iload_n d_X12_isRun_0 rfl rfl ?_
  refine z_iconst d_X12_isRun_1 (by decide) ?_
  refine z_bipush d_X12_isRun_2 (by decide) ?_
  refine z_cs (M1 := M_X12_in) d_X12_isRun_4 ls_X12_137 k_X12_in [qI n, qI 1, qI 32] rfl rfl (Nat.le_of_ble_eq_true rfl) (by decide) (by decide) (Nat.le_of_ble_eq_true rfl) (c_in n 1 32) ?_
  suffices kJ7 : qEx M_X12_isRun 26 [qI n, qI k] [qI (qb ((1 ≤ n ∧ n ≤ 32) ∧ (0 ≤ k ∧ k ≤ (n - 1))))] h r hr by
    refine z_ifeqB 25 d_X12_isRun_7 (by decide) (fun hc1 => ?_) (fun hc1 => ?_)
    · refine z_iconst d_X12_isRun_25 (by decide) ?_
      exact z_eq rfl (qc (qi (qb_f (by omega)).symm) rfl) rfl kJ7
    · refine z_iload_n d_X12_isRun_10 rfl rfl ?_
      refine z_iconst d_X12_isRun_11 (by decide) ?_
      refine z_iload_n d_X12_isRun_12 rfl rfl ?_
      refine z_iconst d_X12_isRun_13 (by decide) ?_
      refine z_isub d_X12_isRun_14 (by omega) ?_
      refine z_cs (M1 := M_X12_in) d_X12_isRun_15 ls_X12_137 k_X12_in [qI k, qI 0, qI (n - 1)] rfl rfl (Nat.le_of_ble_eq_true rfl) (by decide) (by decide) (Nat.le_of_ble_eq_true rfl) (c_in k 0 (n - 1)) ?_
      suffices kJ18 : qEx M_X12_isRun 26 [qI n, qI k] [qI (qb (0 ≤ k ∧ k ≤ (n - 1)))] h r hr by
        refine z_ifeqB 25 d_X12_isRun_18 (by decide) (fun hc2 => ?_) (fun hc2 => ?_)
        · refine z_iconst d_X12_isRun_25 (by decide) ?_
          exact z_eq rfl (qc (qi (qb_f (by omega)).symm) rfl) rfl kJ18
        · refine z_iconst d_X12_isRun_21 (by decide) ?_
          refine z_goto 26 d_X12_isRun_22 (by decide) ?_
          exact z_eq rfl (qc (qi (qb_t (by omega)).symm) rfl) rfl kJ18
      exact z_eq rfl (qc (qi (qb_congr (by omega))) rfl) rfl kJ7
  exact z_zret d_X12_isRun_26 rfl (by first | exact qb_01 _ | decide | omega) (qer er (qb_congr (by omega))) eh
set_option maxRecDepth 20000 in
set_option maxHeartbeats 4000000 in
theorem c_isLength {h : qH} (n : Int)  : qEx M_X11_isLength 0 [qI n] [] h (some (qI (qb (1 ≤ n ∧ n ≤ 24)))) h := by
  refine q_gen (fun r hr er eh => ?_)
  refine z_iload_n d_X11_isLength_0 rfl rfl ?_
  refine z_iconst d_X11_isLength_1 (by decide) ?_
  refine z_bipush d_X11_isLength_2 (by decide) ?_
  refine z_cs (M1 := M_X11_isWithin) d_X11_isLength_4 ls_X11_62 k_X11_isWithin [qI n, qI 1, qI 24] rfl rfl (Nat.le_of_ble_eq_true rfl) (by decide) (by decide) (Nat.le_of_ble_eq_true rfl) (c_isWithin n 1 24) ?_
  exact z_zret d_X11_isLength_7 rfl (by first | exact qb_01 _ | decide | omega) (qer er (qb_congr (by omega))) eh
set_option maxRecDepth 20000 in
set_option maxHeartbeats 4000000 in
theorem c_caseOf {h : qH} (o l r0 : Int) (h1 : 0 ≤ o ∧ o ≤ 1000) (h2 : 0 ≤ l ∧ l ≤ 1000) (h3 : 0 ≤ r0 ∧ r0 ≤ 1000) : qEx M_X11_caseOf 0 [qI o, qI l, qI r0] [] h (some (qI (81 * o + 9 * l + r0))) h := by
  refine q_gen (fun r hr er eh => ?_)
  refine z_iload_n d_X11_caseOf_0 rfl rfl ?_
  refine z_bipush d_X11_caseOf_1 (by decide) ?_
  refine z_imul d_X11_caseOf_3 (by omega) ?_
  refine z_iload_n d_X11_caseOf_4 rfl rfl ?_
  refine z_iadd d_X11_caseOf_5 (by omega) ?_
  refine z_bipush d_X11_caseOf_6 (by decide) ?_
  refine z_imul d_X11_caseOf_8 (by omega) ?_
  refine z_iload_n d_X11_caseOf_9 rfl rfl ?_
  refine z_iadd d_X11_caseOf_10 (by omega) ?_
  exact z_iret d_X11_caseOf_11 rfl (qer er (by omega)) eh
set_option maxRecDepth 20000 in
set_option maxHeartbeats 4000000 in
theorem c_caseOf2 {h : qH} (o l r0 : Int) (h1 : 0 ≤ o ∧ o ≤ 1000) (h2 : 0 ≤ l ∧ l ≤ 1000) (h3 : 0 ≤ r0 ∧ r0 ≤ 1000) : qEx M_X12_caseOf 0 [qI o, qI l, qI r0] [] h (some (qI (81 * o + 9 * l + r0))) h := by
  refine q_gen (fun r hr er eh => ?_)
  refine z_bipush d_X12_caseOf_0 (by decide) ?_
  refine z_iload_n d_X12_caseOf_2 rfl rfl ?_
  refine z_imul d_X12_caseOf_3 (by omega) ?_
  refine z_bipush d_X12_caseOf_4 (by decide) ?_
  refine z_iload_n d_X12_caseOf_6 rfl rfl ?_
  refine z_imul d_X12_caseOf_7 (by omega) ?_
  refine z_iadd d_X12_caseOf_8 (by omega) ?_
  refine z_iload_n d_X12_caseOf_9 rfl rfl ?_
  refine z_iadd d_X12_caseOf_10 (by omega) ?_
  exact z_iret d_X12_caseOf_11 rfl (qer er (by omega)) eh
set_option maxRecDepth 20000 in
set_option maxHeartbeats 4000000 in
theorem c_ownOf {h : qH} (c : Int) (h1 : 0 ≤ c) : qEx M_X11_ownOf 0 [qI c] [] h (some (qI (c / 81))) h := by
  refine q_gen (fun r hr er eh => ?_)
  refine z_iload_n d_X11_ownOf_0 rfl rfl ?_
  refine z_bipush d_X11_ownOf_1 (by decide) ?_
  refine z_idiv d_X11_ownOf_3 (by omega) ?_
  exact z_iret d_X11_ownOf_4 rfl (qer er (by rw [Int.tdiv_eq_ediv_of_nonneg h1])) eh
set_option maxRecDepth 20000 in
set_option maxHeartbeats 4000000 in
theorem c_leftOf {h : qH} (c : Int) (h1 : 0 ≤ c) : qEx M_X11_leftOf 0 [qI c] [] h (some (qI (c / 9 % 9))) h := by
  refine q_gen (fun r hr er eh => ?_)
  refine z_iload_n d_X11_leftOf_0 rfl rfl ?_
  refine z_bipush d_X11_leftOf_1 (by decide) ?_
  refine z_idiv d_X11_leftOf_3 (by omega) ?_
  refine z_bipush d_X11_leftOf_4 (by decide) ?_
  refine z_irem d_X11_leftOf_6 (by omega) ?_
  exact z_iret d_X11_leftOf_7 rfl (qer er (by rw [Int.tdiv_eq_ediv_of_nonneg h1, Int.tmod_eq_emod_of_nonneg (by omega)])) eh
set_option maxRecDepth 20000 in
set_option maxHeartbeats 4000000 in
theorem c_rightOf {h : qH} (c : Int) (h1 : 0 ≤ c) : qEx M_X11_rightOf 0 [qI c] [] h (some (qI (c % 9))) h := by
  refine q_gen (fun r hr er eh => ?_)
  refine z_iload_n d_X11_rightOf_0 rfl rfl ?_
  refine z_bipush d_X11_rightOf_1 (by decide) ?_
  refine z_irem d_X11_rightOf_3 (by omega) ?_
  exact z_iret d_X11_rightOf_4 rfl (qer er (by rw [Int.tmod_eq_emod_of_nonneg h1])) eh
set_option maxRecDepth 20000 in
set_option maxHeartbeats 4000000 in
theorem c_less {h : qH} (a b : Int)  : qEx M_X12_less 0 [qI a, qI b] [] h (some (qI (if a < b then a else b))) h := by
  refine q_gen (fun r hr er eh => ?_)
  refine z_iload_n d_X12_less_0 rfl rfl ?_
  refine z_iload_n d_X12_less_1 rfl rfl ?_
  suffices kJ2 : qEx M_X12_less 10 [qI a, qI b] [qI (qif (a ≥ b) b a)] h r hr by
    refine z_icmp_ge 9 d_X12_less_2 (by decide) (fun hc1 => ?_) (fun hc1 => ?_)
    · refine z_iload_n d_X12_less_9 rfl rfl ?_
      exact z_eq rfl (qc (qi (qif_t hc1).symm) rfl) rfl kJ2
    · refine z_iload_n d_X12_less_5 rfl rfl ?_
      refine z_goto 10 d_X12_less_6 (by decide) ?_
      exact z_eq rfl (qc (qi (qif_f hc1).symm) rfl) rfl kJ2
  exact z_iret d_X12_less_10 rfl (qer er (by simp only [qif_eq]; omega)) eh
set_option maxRecDepth 20000 in
set_option maxHeartbeats 4000000 in
theorem c_more2 {h : qH} (a b : Int)  : qEx M_X12_more2 0 [qI a, qI b] [] h (some (qI (if a > b then a else b))) h := by
  refine q_gen (fun r hr er eh => ?_)
  refine z_iload_n d_X12_more2_0 rfl rfl ?_
  refine z_iload_n d_X12_more2_1 rfl rfl ?_
  suffices kJ2 : qEx M_X12_more2 10 [qI a, qI b] [qI (qif (a ≤ b) b a)] h r hr by
    refine z_icmp_le 9 d_X12_more2_2 (by decide) (fun hc1 => ?_) (fun hc1 => ?_)
    · refine z_iload_n d_X12_more2_9 rfl rfl ?_
      exact z_eq rfl (qc (qi (qif_t hc1).symm) rfl) rfl kJ2
    · refine z_iload_n d_X12_more2_5 rfl rfl ?_
      refine z_goto 10 d_X12_more2_6 (by decide) ?_
      exact z_eq rfl (qc (qi (qif_f hc1).symm) rfl) rfl kJ2
  exact z_iret d_X12_more2_10 rfl (qer er (by simp only [qif_eq]; omega)) eh
set_option maxRecDepth 20000 in
set_option maxHeartbeats 4000000 in
theorem c_longest {h : qH} (n : Int) (hn : 0 ≤ n ∧ n ≤ 1000) : qEx M_X12_longest 0 [qI n] [] h (some (qI (3 * n + 20))) h := by
  refine q_gen (fun r hr er eh => ?_)
  refine z_iconst d_X12_longest_0 (by decide) ?_
  refine z_iload_n d_X12_longest_1 rfl rfl ?_
  refine z_imul d_X12_longest_2 (by omega) ?_
  refine z_bipush d_X12_longest_3 (by decide) ?_
  refine z_iadd d_X12_longest_5 (by omega) ?_
  exact z_iret d_X12_longest_6 rfl er eh
set_option maxRecDepth 20000 in
set_option maxHeartbeats 4000000 in
theorem c_isDigit {h : qH} (c : Int)  : qEx M_X4_isDigit 0 [qI c] [] h (some (qI (qb (48 ≤ c ∧ c ≤ 57)))) h := by
  refine q_gen (fun r hr er eh => ?_)
  refine z_iload_n d_X4_isDigit_0 rfl rfl ?_
  refine z_bipush d_X4_isDigit_1 (by decide) ?_
  refine z_bipush d_X4_isDigit_3 (by decide) ?_
  refine z_cs (M1 := M_X11_isWithin) d_X4_isDigit_5 ls_X4_59 k_X11_isWithin [qI c, qI 48, qI 57] rfl rfl (Nat.le_of_ble_eq_true rfl) (by decide) (by decide) (Nat.le_of_ble_eq_true rfl) (c_isWithin c 48 57) ?_
  exact z_zret d_X4_isDigit_8 rfl (by first | exact qb_01 _ | decide | omega) (qer er (qb_congr (by omega))) eh
set_option maxRecDepth 20000 in
set_option maxHeartbeats 4000000 in
theorem c_isDigit2 {h : qH} (c : Int)  : qEx M_X12_isDigit 0 [qI c] [] h (some (qI (qb (48 ≤ c ∧ c ≤ 57)))) h := by
  refine q_gen (fun r hr er eh => ?_)
  refine z_iload_n d_X12_isDigit_0 rfl rfl ?_
  refine z_bipush d_X12_isDigit_1 (by decide) ?_
  refine z_bipush d_X12_isDigit_3 (by decide) ?_
  refine z_cs (M1 := M_X12_in) d_X12_isDigit_5 ls_X12_137 k_X12_in [qI c, qI 48, qI 57] rfl rfl (Nat.le_of_ble_eq_true rfl) (by decide) (by decide) (Nat.le_of_ble_eq_true rfl) (c_in c 48 57) ?_
  exact z_zret d_X12_isDigit_8 rfl (by first | exact qb_01 _ | decide | omega) (qer er (qb_congr (by omega))) eh
set_option maxRecDepth 20000 in
set_option maxHeartbeats 4000000 in
theorem c_isLetter {h : qH} (c : Int)  : qEx M_X4_isLetter 0 [qI c] [] h (some (qI (qb ((97 ≤ c ∧ c ≤ 122) ∨ (65 ≤ c ∧ c ≤ 90))))) h := by
  refine q_gen (fun r hr er eh => ?_)
  refine z_iload_n d_X4_isLetter_0 rfl rfl ?_
  refine z_bipush d_X4_isLetter_1 (by decide) ?_
  refine z_bipush d_X4_isLetter_3 (by decide) ?_
  refine z_cs (M1 := M_X11_isWithin) d_X4_isLetter_5 ls_X4_59 k_X11_isWithin [qI c, qI 97, qI 122] rfl rfl (Nat.le_of_ble_eq_true rfl) (by decide) (by decide) (Nat.le_of_ble_eq_true rfl) (c_isWithin c 97 122) ?_
  suffices kJ8 : qEx M_X4_isLetter 27 [qI c] [qI (qb ((97 ≤ c ∧ c ≤ 122) ∨ (65 ≤ c ∧ c ≤ 90)))] h r hr by
    refine z_ifneB 22 d_X4_isLetter_8 (by decide) (fun hc1 => ?_) (fun hc1 => ?_)
    · refine z_iconst d_X4_isLetter_22 (by decide) ?_
      refine z_goto 27 d_X4_isLetter_23 (by decide) ?_
      exact z_eq rfl (qc (qi (qb_t (by omega)).symm) rfl) rfl kJ8
    · refine z_iload_n d_X4_isLetter_11 rfl rfl ?_
      refine z_bipush d_X4_isLetter_12 (by decide) ?_
      refine z_bipush d_X4_isLetter_14 (by decide) ?_
      refine z_cs (M1 := M_X11_isWithin) d_X4_isLetter_16 ls_X4_59 k_X11_isWithin [qI c, qI 65, qI 90] rfl rfl (Nat.le_of_ble_eq_true rfl) (by decide) (by decide) (Nat.le_of_ble_eq_true rfl) (c_isWithin c 65 90) ?_
      suffices kJ19 : qEx M_X4_isLetter 27 [qI c] [qI (qb (65 ≤ c ∧ c ≤ 90))] h r hr by
        refine z_ifeqB 26 d_X4_isLetter_19 (by decide) (fun hc2 => ?_) (fun hc2 => ?_)
        · refine z_iconst d_X4_isLetter_26 (by decide) ?_
          exact z_eq rfl (qc (qi (qb_f (by omega)).symm) rfl) rfl kJ19
        · refine z_iconst d_X4_isLetter_22 (by decide) ?_
          refine z_goto 27 d_X4_isLetter_23 (by decide) ?_
          exact z_eq rfl (qc (qi (qb_t (by omega)).symm) rfl) rfl kJ19
      exact z_eq rfl (qc (qi (qb_congr (by omega))) rfl) rfl kJ8
  exact z_zret d_X4_isLetter_27 rfl (by first | exact qb_01 _ | decide | omega) (qer er (qb_congr (by omega))) eh
set_option maxRecDepth 20000 in
set_option maxHeartbeats 4000000 in
theorem c_isLetter2 {h : qH} (c : Int)  : qEx M_X12_isLetter 0 [qI c] [] h (some (qI (qb ((97 ≤ c ∧ c ≤ 122) ∨ (65 ≤ c ∧ c ≤ 90))))) h := by
  refine q_gen (fun r hr er eh => ?_)
  refine z_iload_n d_X12_isLetter_0 rfl rfl ?_
  refine z_bipush d_X12_isLetter_1 (by decide) ?_
  refine z_bipush d_X12_isLetter_3 (by decide) ?_
  refine z_cs (M1 := M_X12_in) d_X12_isLetter_5 ls_X12_137 k_X12_in [qI c, qI 97, qI 122] rfl rfl (Nat.le_of_ble_eq_true rfl) (by decide) (by decide) (Nat.le_of_ble_eq_true rfl) (c_in c 97 122) ?_
  suffices kJ8 : qEx M_X12_isLetter 27 [qI c] [qI (qb ((97 ≤ c ∧ c ≤ 122) ∨ (65 ≤ c ∧ c ≤ 90)))] h r hr by
    refine z_ifneB 22 d_X12_isLetter_8 (by decide) (fun hc1 => ?_) (fun hc1 => ?_)
    · refine z_iconst d_X12_isLetter_22 (by decide) ?_
      refine z_goto 27 d_X12_isLetter_23 (by decide) ?_
      exact z_eq rfl (qc (qi (qb_t (by omega)).symm) rfl) rfl kJ8
    · refine z_iload_n d_X12_isLetter_11 rfl rfl ?_
      refine z_bipush d_X12_isLetter_12 (by decide) ?_
      refine z_bipush d_X12_isLetter_14 (by decide) ?_
      refine z_cs (M1 := M_X12_in) d_X12_isLetter_16 ls_X12_137 k_X12_in [qI c, qI 65, qI 90] rfl rfl (Nat.le_of_ble_eq_true rfl) (by decide) (by decide) (Nat.le_of_ble_eq_true rfl) (c_in c 65 90) ?_
      suffices kJ19 : qEx M_X12_isLetter 27 [qI c] [qI (qb (65 ≤ c ∧ c ≤ 90))] h r hr by
        refine z_ifeqB 26 d_X12_isLetter_19 (by decide) (fun hc2 => ?_) (fun hc2 => ?_)
        · refine z_iconst d_X12_isLetter_26 (by decide) ?_
          exact z_eq rfl (qc (qi (qb_f (by omega)).symm) rfl) rfl kJ19
        · refine z_iconst d_X12_isLetter_22 (by decide) ?_
          refine z_goto 27 d_X12_isLetter_23 (by decide) ?_
          exact z_eq rfl (qc (qi (qb_t (by omega)).symm) rfl) rfl kJ19
      exact z_eq rfl (qc (qi (qb_congr (by omega))) rfl) rfl kJ8
  exact z_zret d_X12_isLetter_27 rfl (by first | exact qb_01 _ | decide | omega) (qer er (qb_congr (by omega))) eh
set_option maxRecDepth 20000 in
set_option maxHeartbeats 4000000 in
theorem c_isBlank {h : qH} (c : Int)  : qEx M_X4_isBlank 0 [qI c] [] h (some (qI (qb (c = 32 ∨ c = 10)))) h := by
  refine q_gen (fun r hr er eh => ?_)
  refine z_iload_n d_X4_isBlank_0 rfl rfl ?_
  refine z_bipush d_X4_isBlank_1 (by decide) ?_
  suffices kJ3 : qEx M_X4_isBlank 17 [qI c] [qI (qb ((c = 32) ∨ (¬ (c ≠ 10))))] h r hr by
    refine z_icmp_eq 12 d_X4_isBlank_3 (by decide) (fun hc1 => ?_) (fun hc1 => ?_)
    · refine z_iconst d_X4_isBlank_12 (by decide) ?_
      refine z_goto 17 d_X4_isBlank_13 (by decide) ?_
      exact z_eq rfl (qc (qi (qb_t (by omega)).symm) rfl) rfl kJ3
    · refine z_iload_n d_X4_isBlank_6 rfl rfl ?_
      refine z_bipush d_X4_isBlank_7 (by decide) ?_
      suffices kJ9 : qEx M_X4_isBlank 17 [qI c] [qI (qb (¬ (c ≠ 10)))] h r hr by
        refine z_icmp_ne 16 d_X4_isBlank_9 (by decide) (fun hc2 => ?_) (fun hc2 => ?_)
        · refine z_iconst d_X4_isBlank_16 (by decide) ?_
          exact z_eq rfl (qc (qi (qb_f (by omega)).symm) rfl) rfl kJ9
        · refine z_iconst d_X4_isBlank_12 (by decide) ?_
          refine z_goto 17 d_X4_isBlank_13 (by decide) ?_
          exact z_eq rfl (qc (qi (qb_t (by omega)).symm) rfl) rfl kJ9
      exact z_eq rfl (qc (qi (qb_congr (by omega))) rfl) rfl kJ3
  exact z_zret d_X4_isBlank_17 rfl (by first | exact qb_01 _ | decide | omega) (qer er (qb_congr (by omega))) eh
