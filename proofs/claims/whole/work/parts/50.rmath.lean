/-! ===== CONTRACTS: the reference: lights, lowest ===== -/
/-- lamps: what is lit behind touching the set i; the best set of the first i -/
def lgX (lt al : Int) (i : Nat) : Int := qXor (qXor (qXor lt (i : Int)) (qAnd (qShl (i : Int) 1) al)) (qShr (i : Int) 1)
noncomputable def on12 (x : Int) : Int := cnt (fun k => tb x k = true) 12
noncomputable def lgB (lt al : Int) : Nat → Int
  | 0 => -1
  | i + 1 => qif (lgX lt al i ≠ al) (lgB lt al i) (qif (lgB lt al i = -1) (i : Int) (qif (on12 (i : Int) ≥ on12 (lgB lt al i)) (lgB lt al i) (i : Int)))
theorem lgB_bd {lt al : Int} : ∀ i : Nat, -1 ≤ lgB lt al i ∧ lgB lt al i < (if i = 0 then 0 else i)
  | 0 => by show -1 ≤ (-1 : Int) ∧ (-1 : Int) < _; simp
  | i + 1 => by
    have h := lgB_bd (lt := lt) (al := al) i
    have h2 : lgB lt al i < i + 1 := by split at h <;> omega
    rw [if_neg (show ¬ i + 1 = 0 by omega)]
    show -1 ≤ qif _ _ _ ∧ qif _ _ _ < ((i + 1 : Nat) : Int)
    exact qif_or (fun z => -1 ≤ z ∧ z < ((i + 1 : Nat) : Int)) (by omega) (qif_or (fun z => -1 ≤ z ∧ z < ((i + 1 : Nat) : Int)) (by omega) (qif_or (fun z => -1 ≤ z ∧ z < ((i + 1 : Nat) : Int)) (by omega) (by omega)))
set_option maxRecDepth 20000 in
set_option maxHeartbeats 4000000 in
theorem c_lights_no {h : qH} {m : Nat} {f : Nat → Int} {g : Nat → Nat → Int} (n lt what : Int) (hm : 2 ≤ m) (h0 : f 0 = 0) (hno : ¬ ((1 ≤ n ∧ n ≤ 12) ∧ (0 ≤ lt ∧ lt ≤ qShl 1 n - 1) ∧ 0 ≤ what ∧ what ≤ 1)) : qEx M_X12_lights 0 [qR m, qI n, qI lt, qI what, qU, qU, qU, qU] [] (rput h m f g) (some (qI (-1))) (rput h m f g) := by
  refine q_gen (fun r hr er eh => ?_)
  refine z_aload_n d_X12_lights_0 rfl rfl ?_
  refine z_iconst d_X12_lights_1 (by decide) ?_
  refine z_putf (fs' := [qI 0, qI (f 1), qI (f 2), qI (f 3), qI (f 4), qI (f 5), qI (f 6), qI (f 7), qR (m + 1), qR (m + 2), qR (m + 3), qR (m + 4), qR (m + 5), qR (m + 6), qR (m + 7), qR (m + 8), qR (m + 9), qR (m + 10), qI (f 18), qI (f 19), qI (f 20), qR (m + 11), qR (m + 12), qR (m + 13), qR (m + 14), qI (f 25), qR (m + 15), qI (f 27), qR (m + 16), qR (m + 17), qR (m + 18), qR (m + 19), qR (m + 20), qR (m + 21), qR (m + 22), qR (m + 23), qR (m + 24), qI (f 37), qI (f 38), qI (f 39), qI (f 40), qR (m + 25), qR (m + 26), qR (m + 27), qR (m + 28), qR (m + 29), qR (m + 30), qR (m + 31), qI (f 48), qR (m + 32), qR (m + 33), qR (m + 34), qR (m + 35), qR (m + 36), qR (m + 37)]) d_X12_lights_2 fp_X12_127 rput_o (fun _ => rfl) (fun _ => rfl) (Nat.le_of_ble_eq_true rfl) rfl ?_
  refine z_eq rfl rfl ((rput_sf (f' := qup f 0 0) rfl).trans (rput_cg (qup_self h0) rfl)) ?_
  refine z_iload_n d_X12_lights_5 rfl rfl ?_
  refine z_iconst d_X12_lights_6 (by decide) ?_
  refine z_bipush d_X12_lights_7 (by decide) ?_
  refine z_cs (M1 := M_X12_in) d_X12_lights_9 ls_X12_137 k_X12_in [qI n, qI 1, qI 12] rfl rfl (Nat.le_of_ble_eq_true rfl) (by decide) (by decide) (Nat.le_of_ble_eq_true rfl) (c_in n 1 12) ?_
  refine z_ifeqB 37 d_X12_lights_12 (by decide) (fun hc1 => ?_) (fun hc1 => ?_)
  · refine z_iconst d_X12_lights_37 (by decide) ?_
    exact z_iret d_X12_lights_38 rfl er eh
  · refine z_iload_n d_X12_lights_15 rfl rfl ?_
    refine z_iconst d_X12_lights_16 (by decide) ?_
    refine z_iconst d_X12_lights_17 (by decide) ?_
    refine z_iload_n d_X12_lights_18 rfl rfl ?_
    refine z_ishl d_X12_lights_19 ?_
    refine z_iconst d_X12_lights_20 (by decide) ?_
    refine z_isub d_X12_lights_21 (by have := qShl_R 1 n; have e9 : 1 ≤ n → n ≤ 12 → 0 < qShl 1 n := (fun a b => by obtain ⟨z, rfl⟩ : ∃ z : Nat, n = z := ⟨n.toNat, by omega⟩; rw [q_bit (by omega)]; have := Nat.two_pow_pos z; omega); omega) ?_
    refine z_cs (M1 := M_X12_in) d_X12_lights_22 ls_X12_137 k_X12_in [qI lt, qI 0, qI ((qShl 1 n) - 1)] rfl rfl (Nat.le_of_ble_eq_true rfl) (by decide) (by decide) (Nat.le_of_ble_eq_true rfl) (c_in lt 0 ((qShl 1 n) - 1)) ?_
    refine z_ifeqB 37 d_X12_lights_25 (by decide) (fun hc2 => ?_) (fun hc2 => ?_)
    · refine z_iconst d_X12_lights_37 (by decide) ?_
      exact z_iret d_X12_lights_38 rfl er eh
    · refine z_iload_n d_X12_lights_28 rfl rfl ?_
      refine z_iconst d_X12_lights_29 (by decide) ?_
      refine z_iconst d_X12_lights_30 (by decide) ?_
      refine z_cs (M1 := M_X12_in) d_X12_lights_31 ls_X12_137 k_X12_in [qI what, qI 0, qI 1] rfl rfl (Nat.le_of_ble_eq_true rfl) (by decide) (by decide) (Nat.le_of_ble_eq_true rfl) (c_in what 0 1) ?_
      refine z_ifneB 39 d_X12_lights_34 (by decide) (fun hc3 => ?_) (fun hc3 => ?_)
      · exact absurd (by omega) hno
      · refine z_iconst d_X12_lights_37 (by decide) ?_
        exact z_iret d_X12_lights_38 rfl er eh
set_option maxRecDepth 20000 in
set_option maxHeartbeats 4000000 in
theorem c_lights0 {h : qH} {m : Nat} {f : Nat → Int} {g : Nat → Nat → Int} {n : Nat} (lt : Int) (hm : 2 ≤ m) (h0 : f 0 = 0) (hn : 1 ≤ n ∧ n ≤ 12) (hlt : 0 ≤ lt ∧ lt ≤ (((2 ^ n : Nat) : Int) - 1)) : qEx M_X12_lights 0 [qR m, qI (n : Int), qI lt, qI 0, qU, qU, qU, qU] [] (rput h m f g) (some (qI (qif (lgB lt (((2 ^ n : Nat) : Int) - 1) (2 ^ n) = -1) (-1) (on12 (lgB lt (((2 ^ n : Nat) : Int) - 1) (2 ^ n)))))) (rput h m f g) := by
  refine q_gen (fun r hr er eh => ?_)
  have hp2 : 2 ^ n ≤ 2 ^ 12 := Nat.pow_le_pow_right (by decide) hn.2
  have hp1 := Nat.two_pow_pos n
  have hp3 : ((2 ^ n : Nat) : Int) ≤ 4096 ∧ 0 < ((2 ^ n : Nat) : Int) := ⟨by have := Int.ofNat_le.mpr hp2; exact this, Int.ofNat_lt.mpr hp1⟩
  refine z_aload_n d_X12_lights_0 rfl rfl ?_
  refine z_iconst d_X12_lights_1 (by decide) ?_
  refine z_putf (fs' := [qI 0, qI (f 1), qI (f 2), qI (f 3), qI (f 4), qI (f 5), qI (f 6), qI (f 7), qR (m + 1), qR (m + 2), qR (m + 3), qR (m + 4), qR (m + 5), qR (m + 6), qR (m + 7), qR (m + 8), qR (m + 9), qR (m + 10), qI (f 18), qI (f 19), qI (f 20), qR (m + 11), qR (m + 12), qR (m + 13), qR (m + 14), qI (f 25), qR (m + 15), qI (f 27), qR (m + 16), qR (m + 17), qR (m + 18), qR (m + 19), qR (m + 20), qR (m + 21), qR (m + 22), qR (m + 23), qR (m + 24), qI (f 37), qI (f 38), qI (f 39), qI (f 40), qR (m + 25), qR (m + 26), qR (m + 27), qR (m + 28), qR (m + 29), qR (m + 30), qR (m + 31), qI (f 48), qR (m + 32), qR (m + 33), qR (m + 34), qR (m + 35), qR (m + 36), qR (m + 37)]) d_X12_lights_2 fp_X12_127 rput_o (fun _ => rfl) (fun _ => rfl) (Nat.le_of_ble_eq_true rfl) rfl ?_
  refine z_eq rfl rfl ((rput_sf (f' := qup f 0 0) rfl).trans (rput_cg (qup_self h0) rfl)) ?_
  refine z_iload_n d_X12_lights_5 rfl rfl ?_
  refine z_iconst d_X12_lights_6 (by decide) ?_
  refine z_bipush d_X12_lights_7 (by decide) ?_
  refine z_cs (M1 := M_X12_in) d_X12_lights_9 ls_X12_137 k_X12_in [qI (n : Int), qI 1, qI 12] rfl rfl (Nat.le_of_ble_eq_true rfl) (by decide) (by decide) (Nat.le_of_ble_eq_true rfl) (c_in (n : Int) 1 12) ?_
  refine z_ifeqB 37 d_X12_lights_12 (by decide) (fun hc1 => absurd hc1 (by omega)) (fun hc1 => ?_)
  refine z_iload_n d_X12_lights_15 rfl rfl ?_
  refine z_iconst d_X12_lights_16 (by decide) ?_
  refine z_iconst d_X12_lights_17 (by decide) ?_
  refine z_iload_n d_X12_lights_18 rfl rfl ?_
  refine z_ishl d_X12_lights_19 ?_
  refine z_eq rfl (qc (qi (show (qShl 1 (n : Int)) = (((2 ^ n) : Nat) : Int) from q_bit (by omega))) rfl) rfl ?_
  refine z_iconst d_X12_lights_20 (by decide) ?_
  refine z_isub d_X12_lights_21 (by exact ⟨by have := hp3.2; generalize ((2 ^ n : Nat) : Int) = z at *; omega, by have := hp3.1; generalize ((2 ^ n : Nat) : Int) = z at *; omega⟩) ?_
  refine z_cs (M1 := M_X12_in) d_X12_lights_22 ls_X12_137 k_X12_in [qI lt, qI 0, qI ((((2 ^ n) : Nat) : Int) - 1)] rfl rfl (Nat.le_of_ble_eq_true rfl) (by decide) (by decide) (Nat.le_of_ble_eq_true rfl) (c_in lt 0 ((((2 ^ n) : Nat) : Int) - 1)) ?_
  refine z_ifeqB 37 d_X12_lights_25 (by decide) (fun hc2 => absurd hc2 (by exact fun z => z hlt)) (fun hc2 => ?_)
  refine z_iload_n d_X12_lights_28 rfl rfl ?_
  refine z_iconst d_X12_lights_29 (by decide) ?_
  refine z_iconst d_X12_lights_30 (by decide) ?_
  refine z_cs (M1 := M_X12_in) d_X12_lights_31 ls_X12_137 k_X12_in [qI 0, qI 0, qI 1] rfl rfl (Nat.le_of_ble_eq_true rfl) (by decide) (by decide) (Nat.le_of_ble_eq_true rfl) (c_in 0 0 1) ?_
  refine z_ifneB 39 d_X12_lights_34 (by decide) (fun hc3 => ?_) (fun hc3 => absurd hc3 (by omega))
  refine z_iconst d_X12_lights_39 (by decide) ?_
  refine z_iload_n d_X12_lights_40 rfl rfl ?_
  refine z_ishl d_X12_lights_41 ?_
  refine z_eq rfl (qc (qi (show (qShl 1 (n : Int)) = (((2 ^ n) : Nat) : Int) from q_bit (by omega))) rfl) rfl ?_
  refine z_iconst d_X12_lights_42 (by decide) ?_
  refine z_isub d_X12_lights_43 (by exact ⟨by have := hp3.2; generalize ((2 ^ n : Nat) : Int) = z at *; omega, by have := hp3.1; generalize ((2 ^ n : Nat) : Int) = z at *; omega⟩) ?_
  refine z_istore (ls' := [qR m, qI (n : Int), qI lt, qI 0, qI ((((2 ^ n) : Nat) : Int) - 1), qU, qU, qU]) d_X12_lights_44 (by decide) rfl ?_
  refine z_iconst d_X12_lights_46 (by decide) ?_
  refine z_istore (ls' := [qR m, qI (n : Int), qI lt, qI 0, qI ((((2 ^ n) : Nat) : Int) - 1), qI (-1), qU, qU]) d_X12_lights_47 (by decide) rfl ?_
  refine z_iconst d_X12_lights_49 (by decide) ?_
  refine z_istore (ls' := [qR m, qI (n : Int), qI lt, qI 0, qI ((((2 ^ n) : Nat) : Int) - 1), qI (-1), qI 0, qU]) d_X12_lights_50 (by decide) rfl ?_
  refine z_eq (qc rfl (qc rfl (qc rfl (qc rfl (qc (qi (by omega)) (qc (qi (rfl)) (qc (qi (by omega)) (qc rfl rfl)))))))) rfl rfl (z_for (2 ^ n) (fun i => [qR m, qI (n : Int), qI lt, qI 0, qI (((2 ^ n : Nat) : Int) - 1), qI (lgB lt (((2 ^ n : Nat) : Int) - 1) i), qI (i : Int), qU]) (fun i => (rput h m f g)) (fun i => True) trivial (fun i hii hp kki => ?_) (fun hp => ?_))
  · show qEx M_X12_lights 52 [qR m, qI (n : Int), qI lt, qI 0, qI (((2 ^ n : Nat) : Int) - 1), qI (lgB lt (((2 ^ n : Nat) : Int) - 1) i), qI (i : Int), qU] [] (rput h m f g) r hr
    refine z_iload d_X12_lights_52 rfl ?_
    refine z_iload d_X12_lights_54 rfl ?_
    refine z_icmp_gt 119 d_X12_lights_56 (by decide) (fun hc4 => absurd hc4 (by have := Int.ofNat_lt.mpr hii; generalize ((2 ^ n : Nat) : Int) = z at *; omega)) (fun hc4 => ?_)
    refine z_iload_n d_X12_lights_59 rfl rfl ?_
    refine z_iload d_X12_lights_60 rfl ?_
    refine z_ixor d_X12_lights_62 ?_
    refine z_iload d_X12_lights_63 rfl ?_
    refine z_iconst d_X12_lights_65 (by decide) ?_
    refine z_ishl d_X12_lights_66 ?_
    refine z_iload d_X12_lights_67 rfl ?_
    refine z_iand d_X12_lights_69 ?_
    refine z_ixor d_X12_lights_70 ?_
    refine z_iload d_X12_lights_71 rfl ?_
    refine z_iconst d_X12_lights_73 (by decide) ?_
    refine z_ishr d_X12_lights_74 ?_
    refine z_ixor d_X12_lights_75 ?_
    refine z_istore (ls' := [qR m, qI (n : Int), qI lt, qI 0, qI (((2 ^ n : Nat) : Int) - 1), qI (lgB lt (((2 ^ n : Nat) : Int) - 1) i), qI (i : Int), qI (qXor (qXor (qXor lt (i : Int)) (qAnd (qShl (i : Int) 1) (((2 ^ n : Nat) : Int) - 1))) (qShr (i : Int) 1))]) d_X12_lights_76 (by decide) rfl ?_
    refine z_eq (qc rfl (qc rfl (qc rfl (qc rfl (qc rfl (qc rfl (qc rfl (qc (qi (show (qXor (qXor (qXor lt (i : Int)) (qAnd (qShl (i : Int) 1) (((2 ^ n : Nat) : Int) - 1))) (qShr (i : Int) 1)) = (lgX lt (((2 ^ n : Nat) : Int) - 1) i) from rfl)) rfl)))))))) rfl rfl ?_
    refine z_iload d_X12_lights_78 rfl ?_
    refine z_iload d_X12_lights_80 rfl ?_
    suffices kJ82 : qEx M_X12_lights 111 [qR m, qI (n : Int), qI lt, qI 0, qI (((2 ^ n : Nat) : Int) - 1), qI (lgB lt (((2 ^ n : Nat) : Int) - 1) i), qI (i : Int), qI (lgX lt (((2 ^ n : Nat) : Int) - 1) i)] [qI (qif ((lgX lt (((2 ^ n : Nat) : Int) - 1) i) ≠ (((2 ^ n : Nat) : Int) - 1)) (lgB lt (((2 ^ n : Nat) : Int) - 1) i) (qif ((lgB lt (((2 ^ n : Nat) : Int) - 1) i) = (-1)) (i : Int) (qif ((cnt (fun q9 => tb (i : Int) q9 = true) 12) ≥ (cnt (fun q9 => tb (lgB lt (((2 ^ n : Nat) : Int) - 1) i) q9 = true) 12)) (lgB lt (((2 ^ n : Nat) : Int) - 1) i) (i : Int))))] (rput h m f g) r hr by
      refine z_icmp_ne 109 d_X12_lights_82 (by decide) (fun hc5 => ?_) (fun hc5 => ?_)
      · refine z_iload d_X12_lights_109 rfl ?_
        exact z_eq rfl (qc (qi (qif_t hc5).symm) rfl) rfl kJ82
      · refine z_iload d_X12_lights_85 rfl ?_
        refine z_iconst d_X12_lights_87 (by decide) ?_
        suffices kJ88 : qEx M_X12_lights 111 [qR m, qI (n : Int), qI lt, qI 0, qI (((2 ^ n : Nat) : Int) - 1), qI (lgB lt (((2 ^ n : Nat) : Int) - 1) i), qI (i : Int), qI (lgX lt (((2 ^ n : Nat) : Int) - 1) i)] [qI (qif ((lgB lt (((2 ^ n : Nat) : Int) - 1) i) = (-1)) (i : Int) (qif ((cnt (fun q9 => tb (i : Int) q9 = true) 12) ≥ (cnt (fun q9 => tb (lgB lt (((2 ^ n : Nat) : Int) - 1) i) q9 = true) 12)) (lgB lt (((2 ^ n : Nat) : Int) - 1) i) (i : Int)))] (rput h m f g) r hr by
          refine z_icmp_eq 104 d_X12_lights_88 (by decide) (fun hc6 => ?_) (fun hc6 => ?_)
          · refine z_iload d_X12_lights_104 rfl ?_
            refine z_goto 111 d_X12_lights_106 (by decide) ?_
            exact z_eq rfl (qc (qi (qif_t hc6).symm) rfl) rfl kJ88
          · refine z_iload d_X12_lights_91 rfl ?_
            refine z_cs (M1 := M_X12_ones) d_X12_lights_93 ls_X12_411 k_X12_ones [qI (i : Int)] rfl rfl (Nat.le_of_ble_eq_true rfl) (by decide) (by decide) (Nat.le_of_ble_eq_true rfl) (c_ones (i : Int)) ?_
            refine z_iload d_X12_lights_96 rfl ?_
            refine z_cs (M1 := M_X12_ones) d_X12_lights_98 ls_X12_411 k_X12_ones [qI (lgB lt (((2 ^ n : Nat) : Int) - 1) i)] rfl rfl (Nat.le_of_ble_eq_true rfl) (by decide) (by decide) (Nat.le_of_ble_eq_true rfl) (c_ones (lgB lt (((2 ^ n : Nat) : Int) - 1) i)) ?_
            suffices kJ101 : qEx M_X12_lights 111 [qR m, qI (n : Int), qI lt, qI 0, qI (((2 ^ n : Nat) : Int) - 1), qI (lgB lt (((2 ^ n : Nat) : Int) - 1) i), qI (i : Int), qI (lgX lt (((2 ^ n : Nat) : Int) - 1) i)] [qI (qif ((cnt (fun q9 => tb (i : Int) q9 = true) 12) ≥ (cnt (fun q9 => tb (lgB lt (((2 ^ n : Nat) : Int) - 1) i) q9 = true) 12)) (lgB lt (((2 ^ n : Nat) : Int) - 1) i) (i : Int))] (rput h m f g) r hr by
              refine z_icmp_ge 109 d_X12_lights_101 (by decide) (fun hc7 => ?_) (fun hc7 => ?_)
              · refine z_iload d_X12_lights_109 rfl ?_
                exact z_eq rfl (qc (qi (qif_t hc7).symm) rfl) rfl kJ101
              · refine z_iload d_X12_lights_104 rfl ?_
                refine z_goto 111 d_X12_lights_106 (by decide) ?_
                exact z_eq rfl (qc (qi (qif_f hc7).symm) rfl) rfl kJ101
            exact z_eq rfl (qc (qi (qif_f hc6).symm) rfl) rfl kJ88
        exact z_eq rfl (qc (qi (qif_f hc5).symm) rfl) rfl kJ82
    refine z_istore (ls' := [qR m, qI (n : Int), qI lt, qI 0, qI (((2 ^ n : Nat) : Int) - 1), qI (qif ((lgX lt (((2 ^ n : Nat) : Int) - 1) i) ≠ (((2 ^ n : Nat) : Int) - 1)) (lgB lt (((2 ^ n : Nat) : Int) - 1) i) (qif ((lgB lt (((2 ^ n : Nat) : Int) - 1) i) = (-1)) (i : Int) (qif ((cnt (fun q9 => tb (i : Int) q9 = true) 12) ≥ (cnt (fun q9 => tb (lgB lt (((2 ^ n : Nat) : Int) - 1) i) q9 = true) 12)) (lgB lt (((2 ^ n : Nat) : Int) - 1) i) (i : Int)))), qI (i : Int), qI (lgX lt (((2 ^ n : Nat) : Int) - 1) i)]) d_X12_lights_111 (by decide) rfl ?_
    refine z_iinc (ls' := [qR m, qI (n : Int), qI lt, qI 0, qI (((2 ^ n : Nat) : Int) - 1), qI (qif ((lgX lt (((2 ^ n : Nat) : Int) - 1) i) ≠ (((2 ^ n : Nat) : Int) - 1)) (lgB lt (((2 ^ n : Nat) : Int) - 1) i) (qif ((lgB lt (((2 ^ n : Nat) : Int) - 1) i) = (-1)) (i : Int) (qif ((cnt (fun q9 => tb (i : Int) q9 = true) 12) ≥ (cnt (fun q9 => tb (lgB lt (((2 ^ n : Nat) : Int) - 1) i) q9 = true) 12)) (lgB lt (((2 ^ n : Nat) : Int) - 1) i) (i : Int)))), qI ((i : Int) + 1), qI (lgX lt (((2 ^ n : Nat) : Int) - 1) i)]) d_X12_lights_113 rfl (by decide) (by have := Int.ofNat_lt.mpr hii; have := hp3.1; generalize ((2 ^ n : Nat) : Int) = z at *; omega) rfl ?_
    refine z_goto 52 d_X12_lights_116 (by decide) ?_
    exact z_dr (qle_k rfl (qle_k rfl (qle_k rfl (qle_k rfl (qle_k rfl (qle_k (qi (rfl)) (qle_k (qi (by omega)) (qle_d qle_n)))))))) rfl rfl (kki trivial)
  · show qEx M_X12_lights 52 [qR m, qI (n : Int), qI lt, qI 0, qI (((2 ^ n : Nat) : Int) - 1), qI (lgB lt (((2 ^ n : Nat) : Int) - 1) (2 ^ n)), qI (((2 ^ n) : Nat) : Int), qU] [] (rput h m f g) r hr
    refine z_iload d_X12_lights_52 rfl ?_
    refine z_iload d_X12_lights_54 rfl ?_
    refine z_icmp_gt 119 d_X12_lights_56 (by decide) (fun hc8 => ?_) (fun hc8 => absurd hc8 (by generalize ((2 ^ n : Nat) : Int) = z at *; omega))
    refine z_iload_n d_X12_lights_119 rfl rfl ?_
    refine z_iconst d_X12_lights_120 (by decide) ?_
    refine z_icmp_eq 130 d_X12_lights_121 (by decide) (fun hc9 => absurd hc9 (by decide)) (fun hc9 => ?_)
    refine z_iload d_X12_lights_124 rfl ?_
    refine z_iconst d_X12_lights_126 (by decide) ?_
    refine z_icmp_ne 135 d_X12_lights_127 (by decide) (fun hq => ?_) (fun hq => ?_)
    · refine z_iload d_X12_lights_135 rfl ?_
      refine z_cs (M1 := M_X12_ones) d_X12_lights_137 ls_X12_411 k_X12_ones [qI (lgB lt (((2 ^ n : Nat) : Int) - 1) (2 ^ n))] rfl rfl (Nat.le_of_ble_eq_true rfl) (by decide) (by decide) (Nat.le_of_ble_eq_true rfl) (c_ones (lgB lt (((2 ^ n : Nat) : Int) - 1) (2 ^ n))) ?_
      exact z_iret d_X12_lights_140 rfl (qer er (qif_f hq)) eh
    · refine z_iload d_X12_lights_130 rfl ?_
      refine z_goto 140 d_X12_lights_132 (by decide) ?_
      exact z_iret d_X12_lights_140 rfl (qer er (by have e9 := Classical.not_not.mp hq; rw [qif_t e9, e9])) eh
set_option maxRecDepth 20000 in
set_option maxHeartbeats 4000000 in
theorem c_lights1 {h : qH} {m : Nat} {f : Nat → Int} {g : Nat → Nat → Int} {n : Nat} (lt : Int) (hm : 2 ≤ m) (h0 : f 0 = 0) (hn : 1 ≤ n ∧ n ≤ 12) (hlt : 0 ≤ lt ∧ lt ≤ (((2 ^ n : Nat) : Int) - 1)) : qEx M_X12_lights 0 [qR m, qI (n : Int), qI lt, qI 1, qU, qU, qU, qU] [] (rput h m f g) (some (qI (lgB lt (((2 ^ n : Nat) : Int) - 1) (2 ^ n)))) (rput h m f g) := by
  refine q_gen (fun r hr er eh => ?_)
  have hp2 : 2 ^ n ≤ 2 ^ 12 := Nat.pow_le_pow_right (by decide) hn.2
  have hp1 := Nat.two_pow_pos n
  have hp3 : ((2 ^ n : Nat) : Int) ≤ 4096 ∧ 0 < ((2 ^ n : Nat) : Int) := ⟨by have := Int.ofNat_le.mpr hp2; exact this, Int.ofNat_lt.mpr hp1⟩
  refine z_aload_n d_X12_lights_0 rfl rfl ?_
  refine z_iconst d_X12_lights_1 (by decide) ?_
  refine z_putf (fs' := [qI 0, qI (f 1), qI (f 2), qI (f 3), qI (f 4), qI (f 5), qI (f 6), qI (f 7), qR (m + 1), qR (m + 2), qR (m + 3), qR (m + 4), qR (m + 5), qR (m + 6), qR (m + 7), qR (m + 8), qR (m + 9), qR (m + 10), qI (f 18), qI (f 19), qI (f 20), qR (m + 11), qR (m + 12), qR (m + 13), qR (m + 14), qI (f 25), qR (m + 15), qI (f 27), qR (m + 16), qR (m + 17), qR (m + 18), qR (m + 19), qR (m + 20), qR (m + 21), qR (m + 22), qR (m + 23), qR (m + 24), qI (f 37), qI (f 38), qI (f 39), qI (f 40), qR (m + 25), qR (m + 26), qR (m + 27), qR (m + 28), qR (m + 29), qR (m + 30), qR (m + 31), qI (f 48), qR (m + 32), qR (m + 33), qR (m + 34), qR (m + 35), qR (m + 36), qR (m + 37)]) d_X12_lights_2 fp_X12_127 rput_o (fun _ => rfl) (fun _ => rfl) (Nat.le_of_ble_eq_true rfl) rfl ?_
  refine z_eq rfl rfl ((rput_sf (f' := qup f 0 0) rfl).trans (rput_cg (qup_self h0) rfl)) ?_
  refine z_iload_n d_X12_lights_5 rfl rfl ?_
  refine z_iconst d_X12_lights_6 (by decide) ?_
  refine z_bipush d_X12_lights_7 (by decide) ?_
  refine z_cs (M1 := M_X12_in) d_X12_lights_9 ls_X12_137 k_X12_in [qI (n : Int), qI 1, qI 12] rfl rfl (Nat.le_of_ble_eq_true rfl) (by decide) (by decide) (Nat.le_of_ble_eq_true rfl) (c_in (n : Int) 1 12) ?_
  refine z_ifeqB 37 d_X12_lights_12 (by decide) (fun hc1 => absurd hc1 (by omega)) (fun hc1 => ?_)
  refine z_iload_n d_X12_lights_15 rfl rfl ?_
  refine z_iconst d_X12_lights_16 (by decide) ?_
  refine z_iconst d_X12_lights_17 (by decide) ?_
  refine z_iload_n d_X12_lights_18 rfl rfl ?_
  refine z_ishl d_X12_lights_19 ?_
  refine z_eq rfl (qc (qi (show (qShl 1 (n : Int)) = (((2 ^ n) : Nat) : Int) from q_bit (by omega))) rfl) rfl ?_
  refine z_iconst d_X12_lights_20 (by decide) ?_
  refine z_isub d_X12_lights_21 (by exact ⟨by have := hp3.2; generalize ((2 ^ n : Nat) : Int) = z at *; omega, by have := hp3.1; generalize ((2 ^ n : Nat) : Int) = z at *; omega⟩) ?_
  refine z_cs (M1 := M_X12_in) d_X12_lights_22 ls_X12_137 k_X12_in [qI lt, qI 0, qI ((((2 ^ n) : Nat) : Int) - 1)] rfl rfl (Nat.le_of_ble_eq_true rfl) (by decide) (by decide) (Nat.le_of_ble_eq_true rfl) (c_in lt 0 ((((2 ^ n) : Nat) : Int) - 1)) ?_
  refine z_ifeqB 37 d_X12_lights_25 (by decide) (fun hc2 => absurd hc2 (by exact fun z => z hlt)) (fun hc2 => ?_)
  refine z_iload_n d_X12_lights_28 rfl rfl ?_
  refine z_iconst d_X12_lights_29 (by decide) ?_
  refine z_iconst d_X12_lights_30 (by decide) ?_
  refine z_cs (M1 := M_X12_in) d_X12_lights_31 ls_X12_137 k_X12_in [qI 1, qI 0, qI 1] rfl rfl (Nat.le_of_ble_eq_true rfl) (by decide) (by decide) (Nat.le_of_ble_eq_true rfl) (c_in 1 0 1) ?_
  refine z_ifneB 39 d_X12_lights_34 (by decide) (fun hc3 => ?_) (fun hc3 => absurd hc3 (by omega))
  refine z_iconst d_X12_lights_39 (by decide) ?_
  refine z_iload_n d_X12_lights_40 rfl rfl ?_
  refine z_ishl d_X12_lights_41 ?_
  refine z_eq rfl (qc (qi (show (qShl 1 (n : Int)) = (((2 ^ n) : Nat) : Int) from q_bit (by omega))) rfl) rfl ?_
  refine z_iconst d_X12_lights_42 (by decide) ?_
  refine z_isub d_X12_lights_43 (by exact ⟨by have := hp3.2; generalize ((2 ^ n : Nat) : Int) = z at *; omega, by have := hp3.1; generalize ((2 ^ n : Nat) : Int) = z at *; omega⟩) ?_
  refine z_istore (ls' := [qR m, qI (n : Int), qI lt, qI 1, qI ((((2 ^ n) : Nat) : Int) - 1), qU, qU, qU]) d_X12_lights_44 (by decide) rfl ?_
  refine z_iconst d_X12_lights_46 (by decide) ?_
  refine z_istore (ls' := [qR m, qI (n : Int), qI lt, qI 1, qI ((((2 ^ n) : Nat) : Int) - 1), qI (-1), qU, qU]) d_X12_lights_47 (by decide) rfl ?_
  refine z_iconst d_X12_lights_49 (by decide) ?_
  refine z_istore (ls' := [qR m, qI (n : Int), qI lt, qI 1, qI ((((2 ^ n) : Nat) : Int) - 1), qI (-1), qI 0, qU]) d_X12_lights_50 (by decide) rfl ?_
  refine z_eq (qc rfl (qc rfl (qc rfl (qc rfl (qc (qi (by omega)) (qc (qi (rfl)) (qc (qi (by omega)) (qc rfl rfl)))))))) rfl rfl (z_for (2 ^ n) (fun i => [qR m, qI (n : Int), qI lt, qI 1, qI (((2 ^ n : Nat) : Int) - 1), qI (lgB lt (((2 ^ n : Nat) : Int) - 1) i), qI (i : Int), qU]) (fun i => (rput h m f g)) (fun i => True) trivial (fun i hii hp kki => ?_) (fun hp => ?_))
  · show qEx M_X12_lights 52 [qR m, qI (n : Int), qI lt, qI 1, qI (((2 ^ n : Nat) : Int) - 1), qI (lgB lt (((2 ^ n : Nat) : Int) - 1) i), qI (i : Int), qU] [] (rput h m f g) r hr
    refine z_iload d_X12_lights_52 rfl ?_
    refine z_iload d_X12_lights_54 rfl ?_
    refine z_icmp_gt 119 d_X12_lights_56 (by decide) (fun hc4 => absurd hc4 (by have := Int.ofNat_lt.mpr hii; generalize ((2 ^ n : Nat) : Int) = z at *; omega)) (fun hc4 => ?_)
    refine z_iload_n d_X12_lights_59 rfl rfl ?_
    refine z_iload d_X12_lights_60 rfl ?_
    refine z_ixor d_X12_lights_62 ?_
    refine z_iload d_X12_lights_63 rfl ?_
    refine z_iconst d_X12_lights_65 (by decide) ?_
    refine z_ishl d_X12_lights_66 ?_
    refine z_iload d_X12_lights_67 rfl ?_
    refine z_iand d_X12_lights_69 ?_
    refine z_ixor d_X12_lights_70 ?_
    refine z_iload d_X12_lights_71 rfl ?_
    refine z_iconst d_X12_lights_73 (by decide) ?_
    refine z_ishr d_X12_lights_74 ?_
    refine z_ixor d_X12_lights_75 ?_
    refine z_istore (ls' := [qR m, qI (n : Int), qI lt, qI 1, qI (((2 ^ n : Nat) : Int) - 1), qI (lgB lt (((2 ^ n : Nat) : Int) - 1) i), qI (i : Int), qI (qXor (qXor (qXor lt (i : Int)) (qAnd (qShl (i : Int) 1) (((2 ^ n : Nat) : Int) - 1))) (qShr (i : Int) 1))]) d_X12_lights_76 (by decide) rfl ?_
    refine z_eq (qc rfl (qc rfl (qc rfl (qc rfl (qc rfl (qc rfl (qc rfl (qc (qi (show (qXor (qXor (qXor lt (i : Int)) (qAnd (qShl (i : Int) 1) (((2 ^ n : Nat) : Int) - 1))) (qShr (i : Int) 1)) = (lgX lt (((2 ^ n : Nat) : Int) - 1) i) from rfl)) rfl)))))))) rfl rfl ?_
    refine z_iload d_X12_lights_78 rfl ?_
    refine z_iload d_X12_lights_80 rfl ?_
    suffices kJ82 : qEx M_X12_lights 111 [qR m, qI (n : Int), qI lt, qI 1, qI (((2 ^ n : Nat) : Int) - 1), qI (lgB lt (((2 ^ n : Nat) : Int) - 1) i), qI (i : Int), qI (lgX lt (((2 ^ n : Nat) : Int) - 1) i)] [qI (qif ((lgX lt (((2 ^ n : Nat) : Int) - 1) i) ≠ (((2 ^ n : Nat) : Int) - 1)) (lgB lt (((2 ^ n : Nat) : Int) - 1) i) (qif ((lgB lt (((2 ^ n : Nat) : Int) - 1) i) = (-1)) (i : Int) (qif ((cnt (fun q9 => tb (i : Int) q9 = true) 12) ≥ (cnt (fun q9 => tb (lgB lt (((2 ^ n : Nat) : Int) - 1) i) q9 = true) 12)) (lgB lt (((2 ^ n : Nat) : Int) - 1) i) (i : Int))))] (rput h m f g) r hr by
      refine z_icmp_ne 109 d_X12_lights_82 (by decide) (fun hc5 => ?_) (fun hc5 => ?_)
      · refine z_iload d_X12_lights_109 rfl ?_
        exact z_eq rfl (qc (qi (qif_t hc5).symm) rfl) rfl kJ82
      · refine z_iload d_X12_lights_85 rfl ?_
        refine z_iconst d_X12_lights_87 (by decide) ?_
        suffices kJ88 : qEx M_X12_lights 111 [qR m, qI (n : Int), qI lt, qI 1, qI (((2 ^ n : Nat) : Int) - 1), qI (lgB lt (((2 ^ n : Nat) : Int) - 1) i), qI (i : Int), qI (lgX lt (((2 ^ n : Nat) : Int) - 1) i)] [qI (qif ((lgB lt (((2 ^ n : Nat) : Int) - 1) i) = (-1)) (i : Int) (qif ((cnt (fun q9 => tb (i : Int) q9 = true) 12) ≥ (cnt (fun q9 => tb (lgB lt (((2 ^ n : Nat) : Int) - 1) i) q9 = true) 12)) (lgB lt (((2 ^ n : Nat) : Int) - 1) i) (i : Int)))] (rput h m f g) r hr by
          refine z_icmp_eq 104 d_X12_lights_88 (by decide) (fun hc6 => ?_) (fun hc6 => ?_)
          · refine z_iload d_X12_lights_104 rfl ?_
            refine z_goto 111 d_X12_lights_106 (by decide) ?_
            exact z_eq rfl (qc (qi (qif_t hc6).symm) rfl) rfl kJ88
          · refine z_iload d_X12_lights_91 rfl ?_
            refine z_cs (M1 := M_X12_ones) d_X12_lights_93 ls_X12_411 k_X12_ones [qI (i : Int)] rfl rfl (Nat.le_of_ble_eq_true rfl) (by decide) (by decide) (Nat.le_of_ble_eq_true rfl) (c_ones (i : Int)) ?_
            refine z_iload d_X12_lights_96 rfl ?_
            refine z_cs (M1 := M_X12_ones) d_X12_lights_98 ls_X12_411 k_X12_ones [qI (lgB lt (((2 ^ n : Nat) : Int) - 1) i)] rfl rfl (Nat.le_of_ble_eq_true rfl) (by decide) (by decide) (Nat.le_of_ble_eq_true rfl) (c_ones (lgB lt (((2 ^ n : Nat) : Int) - 1) i)) ?_
            suffices kJ101 : qEx M_X12_lights 111 [qR m, qI (n : Int), qI lt, qI 1, qI (((2 ^ n : Nat) : Int) - 1), qI (lgB lt (((2 ^ n : Nat) : Int) - 1) i), qI (i : Int), qI (lgX lt (((2 ^ n : Nat) : Int) - 1) i)] [qI (qif ((cnt (fun q9 => tb (i : Int) q9 = true) 12) ≥ (cnt (fun q9 => tb (lgB lt (((2 ^ n : Nat) : Int) - 1) i) q9 = true) 12)) (lgB lt (((2 ^ n : Nat) : Int) - 1) i) (i : Int))] (rput h m f g) r hr by
              refine z_icmp_ge 109 d_X12_lights_101 (by decide) (fun hc7 => ?_) (fun hc7 => ?_)
              · refine z_iload d_X12_lights_109 rfl ?_
                exact z_eq rfl (qc (qi (qif_t hc7).symm) rfl) rfl kJ101
              · refine z_iload d_X12_lights_104 rfl ?_
                refine z_goto 111 d_X12_lights_106 (by decide) ?_
                exact z_eq rfl (qc (qi (qif_f hc7).symm) rfl) rfl kJ101
            exact z_eq rfl (qc (qi (qif_f hc6).symm) rfl) rfl kJ88
        exact z_eq rfl (qc (qi (qif_f hc5).symm) rfl) rfl kJ82
    refine z_istore (ls' := [qR m, qI (n : Int), qI lt, qI 1, qI (((2 ^ n : Nat) : Int) - 1), qI (qif ((lgX lt (((2 ^ n : Nat) : Int) - 1) i) ≠ (((2 ^ n : Nat) : Int) - 1)) (lgB lt (((2 ^ n : Nat) : Int) - 1) i) (qif ((lgB lt (((2 ^ n : Nat) : Int) - 1) i) = (-1)) (i : Int) (qif ((cnt (fun q9 => tb (i : Int) q9 = true) 12) ≥ (cnt (fun q9 => tb (lgB lt (((2 ^ n : Nat) : Int) - 1) i) q9 = true) 12)) (lgB lt (((2 ^ n : Nat) : Int) - 1) i) (i : Int)))), qI (i : Int), qI (lgX lt (((2 ^ n : Nat) : Int) - 1) i)]) d_X12_lights_111 (by decide) rfl ?_
    refine z_iinc (ls' := [qR m, qI (n : Int), qI lt, qI 1, qI (((2 ^ n : Nat) : Int) - 1), qI (qif ((lgX lt (((2 ^ n : Nat) : Int) - 1) i) ≠ (((2 ^ n : Nat) : Int) - 1)) (lgB lt (((2 ^ n : Nat) : Int) - 1) i) (qif ((lgB lt (((2 ^ n : Nat) : Int) - 1) i) = (-1)) (i : Int) (qif ((cnt (fun q9 => tb (i : Int) q9 = true) 12) ≥ (cnt (fun q9 => tb (lgB lt (((2 ^ n : Nat) : Int) - 1) i) q9 = true) 12)) (lgB lt (((2 ^ n : Nat) : Int) - 1) i) (i : Int)))), qI ((i : Int) + 1), qI (lgX lt (((2 ^ n : Nat) : Int) - 1) i)]) d_X12_lights_113 rfl (by decide) (by have := Int.ofNat_lt.mpr hii; have := hp3.1; generalize ((2 ^ n : Nat) : Int) = z at *; omega) rfl ?_
    refine z_goto 52 d_X12_lights_116 (by decide) ?_
    exact z_dr (qle_k rfl (qle_k rfl (qle_k rfl (qle_k rfl (qle_k rfl (qle_k (qi (rfl)) (qle_k (qi (by omega)) (qle_d qle_n)))))))) rfl rfl (kki trivial)
  · show qEx M_X12_lights 52 [qR m, qI (n : Int), qI lt, qI 1, qI (((2 ^ n : Nat) : Int) - 1), qI (lgB lt (((2 ^ n : Nat) : Int) - 1) (2 ^ n)), qI (((2 ^ n) : Nat) : Int), qU] [] (rput h m f g) r hr
    refine z_iload d_X12_lights_52 rfl ?_
    refine z_iload d_X12_lights_54 rfl ?_
    refine z_icmp_gt 119 d_X12_lights_56 (by decide) (fun hc8 => ?_) (fun hc8 => absurd hc8 (by generalize ((2 ^ n : Nat) : Int) = z at *; omega))
    refine z_iload_n d_X12_lights_119 rfl rfl ?_
    refine z_iconst d_X12_lights_120 (by decide) ?_
    refine z_icmp_eq 130 d_X12_lights_121 (by decide) (fun hc9 => ?_) (fun hc9 => absurd (by decide) hc9)
    refine z_iload d_X12_lights_130 rfl ?_
    refine z_goto 140 d_X12_lights_132 (by decide) ?_
    exact z_iret d_X12_lights_140 rfl er eh
/-- of a fraction in lowest terms what stands above (ab 1) or below; low is not 0 -/
def lowR (up low : Int) (ab : Nat) : Int := Int.tdiv ((if low < 0 then -1 else 1) * (if ab = 0 then low else up)) (Nat.gcd up.natAbs low.natAbs : Nat)
set_option maxRecDepth 20000 in
set_option maxHeartbeats 4000000 in
theorem c_lowest0 {h : qH} (up low : Int) (hu : -100000000 ≤ up ∧ up ≤ 100000000) (hl : -100000000 ≤ low ∧ low ≤ 100000000) (hl0 : low ≠ 0) : qEx M_X12_lowest 0 [qI up, qI low, qI 0, qU, qU, qU] [] h (some (qI (lowR up low 0))) h := by
  refine q_gen (fun r hr er eh => ?_)
  refine z_iload_n d_X12_lowest_0 rfl rfl ?_
  suffices kJ1 : qEx M_X12_lowest 10 [qI up, qI low, qI 0, qU, qU, qU] [qI (qif (up ≥ 0) up (-up))] h r hr by
    refine z_if_ge 9 d_X12_lowest_1 (by decide) (fun hc1 => ?_) (fun hc1 => ?_)
    · refine z_iload_n d_X12_lowest_9 rfl rfl ?_
      exact z_eq rfl (qc (qi (qif_t hc1).symm) rfl) rfl kJ1
    · refine z_iload_n d_X12_lowest_4 rfl rfl ?_
      refine z_ineg d_X12_lowest_5 (by omega) ?_
      refine z_goto 10 d_X12_lowest_6 (by decide) ?_
      exact z_eq rfl (qc (qi (qif_f hc1).symm) rfl) rfl kJ1
  refine z_istore_n (ls' := [qI up, qI low, qI 0, qI (qif (up ≥ 0) up (-up)), qU, qU]) d_X12_lowest_10 rfl (by decide) rfl ?_
  refine z_iload_n d_X12_lowest_11 rfl rfl ?_
  suffices kJ12 : qEx M_X12_lowest 21 [qI up, qI low, qI 0, qI (qif (up ≥ 0) up (-up)), qU, qU] [qI (qif (low ≥ 0) low (-low))] h r hr by
    refine z_if_ge 20 d_X12_lowest_12 (by decide) (fun hc2 => ?_) (fun hc2 => ?_)
    · refine z_iload_n d_X12_lowest_20 rfl rfl ?_
      exact z_eq rfl (qc (qi (qif_t hc2).symm) rfl) rfl kJ12
    · refine z_iload_n d_X12_lowest_15 rfl rfl ?_
      refine z_ineg d_X12_lowest_16 (by omega) ?_
      refine z_goto 21 d_X12_lowest_17 (by decide) ?_
      exact z_eq rfl (qc (qi (qif_f hc2).symm) rfl) rfl kJ12
  refine z_istore (ls' := [qI up, qI low, qI 0, qI (qif (up ≥ 0) up (-up)), qI (qif (low ≥ 0) low (-low)), qU]) d_X12_lowest_21 (by decide) rfl ?_
  have hg0 : 0 < Nat.gcd up.natAbs low.natAbs := Nat.gcd_pos_of_pos_right _ (by omega)
  have hg1 : Nat.gcd up.natAbs low.natAbs ≤ low.natAbs := Nat.gcd_le_right _ (by omega)
  suffices KL : qEx M_X12_lowest 44 [qI up, qI low, qI 0, qI (((Nat.gcd up.natAbs low.natAbs) : Nat) : Int), qU, qU] [] h r hr by
    have L : ∀ (y x : Nat), x ≤ 2147483647 → y ≤ 2147483647 → Nat.gcd x y = Nat.gcd up.natAbs low.natAbs → qEx M_X12_lowest 23 [qI up, qI low, qI 0, qI (x : Int), qI (y : Int), qU] [] h r hr := by
      intro y
      induction y using Nat.strongRecOn with
      | ind y ih =>
        intro x hx hy hg
        refine z_iload d_X12_lowest_23 rfl ?_
        refine z_if_eq 44 d_X12_lowest_25 (by decide) (fun hy0 => ?_) (fun hy0 => ?_)
        · exact z_dr (qle_k rfl (qle_k rfl (qle_k rfl (qle_k (qi (by rw [← hg, show y = 0 by omega, Nat.gcd_zero_right])) (qle_d (qle_k rfl qle_n)))))) rfl rfl KL
        · refine z_iload_n d_X12_lowest_28 rfl rfl ?_
          refine z_iload d_X12_lowest_29 rfl ?_
          refine z_irem d_X12_lowest_31 (by omega) ?_
          refine z_istore (ls' := [qI up, qI low, qI 0, qI (x : Int), qI (y : Int), qI (Int.tmod (x : Int) (y : Int))]) d_X12_lowest_32 (by decide) rfl ?_
          refine z_eq (qc rfl (qc rfl (qc rfl (qc rfl (qc rfl (qc (qi (show (Int.tmod (x : Int) (y : Int)) = (((x % y) : Nat) : Int) from (by rw [Int.tmod_eq_emod_of_nonneg (by omega)] <;> omega))) rfl)))))) rfl rfl ?_
          refine z_iload d_X12_lowest_34 rfl ?_
          refine z_istore_n (ls' := [qI up, qI low, qI 0, qI (y : Int), qI (y : Int), qI (((x % y) : Nat) : Int)]) d_X12_lowest_36 rfl (by decide) rfl ?_
          refine z_iload d_X12_lowest_37 rfl ?_
          refine z_istore (ls' := [qI up, qI low, qI 0, qI (y : Int), qI (((x % y) : Nat) : Int), qI (((x % y) : Nat) : Int)]) d_X12_lowest_39 (by decide) rfl ?_
          refine z_goto 23 d_X12_lowest_41 (by decide) ?_
          exact z_dr (qle_k rfl (qle_k rfl (qle_k rfl (qle_k rfl (qle_k (qi (by omega)) (qle_d qle_n)))))) rfl rfl (ih (x % y) (Nat.mod_lt _ (by omega)) y hy (by have := Nat.mod_lt x (show 0 < y by omega); omega) (by rw [← hg, Nat.gcd_comm y, ← Nat.gcd_rec, Nat.gcd_comm]))
    exact z_eq (qc rfl (qc rfl (qc rfl (qc (qi (by simp only [qif_eq]; omega)) (qc (qi (by simp only [qif_eq]; omega)) (qc rfl rfl)))))) rfl rfl (L low.natAbs up.natAbs (by omega) (by omega) rfl)
  refine z_iload_n d_X12_lowest_44 rfl rfl ?_
  suffices kJ45 : qEx M_X12_lowest 53 [qI up, qI low, qI 0, qI (((Nat.gcd up.natAbs low.natAbs) : Nat) : Int), qU, qU] [qI (qif (low ≥ 0) 1 (-1))] h r hr by
    refine z_if_ge 52 d_X12_lowest_45 (by decide) (fun hc3 => ?_) (fun hc3 => ?_)
    · refine z_iconst d_X12_lowest_52 (by decide) ?_
      exact z_eq rfl (qc (qi (qif_t hc3).symm) rfl) rfl kJ45
    · refine z_iconst d_X12_lowest_48 (by decide) ?_
      refine z_goto 53 d_X12_lowest_49 (by decide) ?_
      exact z_eq rfl (qc (qi (qif_f hc3).symm) rfl) rfl kJ45
  refine z_istore (ls' := [qI up, qI low, qI 0, qI (((Nat.gcd up.natAbs low.natAbs) : Nat) : Int), qU, qI (qif (low ≥ 0) 1 (-1))]) d_X12_lowest_53 (by decide) rfl ?_
  refine z_iload_n d_X12_lowest_55 rfl rfl ?_
  refine z_if_eq 68 d_X12_lowest_56 (by decide) (fun hc4 => ?_) (fun hc4 => absurd (by decide) hc4)
  refine z_iload d_X12_lowest_68 rfl ?_
  refine z_iload_n d_X12_lowest_70 rfl rfl ?_
  refine z_imul d_X12_lowest_71 (by simp only [qif_eq]; split <;> omega) ?_
  refine z_iload_n d_X12_lowest_72 rfl rfl ?_
  refine z_idiv d_X12_lowest_73 (by omega) ?_
  exact z_iret d_X12_lowest_74 rfl (qer er (by unfold lowR; simp only [qif_eq]; first | rfl | (congr 2; split <;> omega) | skip)) eh
set_option maxRecDepth 20000 in
set_option maxHeartbeats 4000000 in
theorem c_lowest1 {h : qH} (up low : Int) (hu : -100000000 ≤ up ∧ up ≤ 100000000) (hl : -100000000 ≤ low ∧ low ≤ 100000000) (hl0 : low ≠ 0) : qEx M_X12_lowest 0 [qI up, qI low, qI 1, qU, qU, qU] [] h (some (qI (lowR up low 1))) h := by
  refine q_gen (fun r hr er eh => ?_)
  refine z_iload_n d_X12_lowest_0 rfl rfl ?_
  suffices kJ1 : qEx M_X12_lowest 10 [qI up, qI low, qI 1, qU, qU, qU] [qI (qif (up ≥ 0) up (-up))] h r hr by
    refine z_if_ge 9 d_X12_lowest_1 (by decide) (fun hc1 => ?_) (fun hc1 => ?_)
    · refine z_iload_n d_X12_lowest_9 rfl rfl ?_
      exact z_eq rfl (qc (qi (qif_t hc1).symm) rfl) rfl kJ1
    · refine z_iload_n d_X12_lowest_4 rfl rfl ?_
      refine z_ineg d_X12_lowest_5 (by omega) ?_
      refine z_goto 10 d_X12_lowest_6 (by decide) ?_
      exact z_eq rfl (qc (qi (qif_f hc1).symm) rfl) rfl kJ1
  refine z_istore_n (ls' := [qI up, qI low, qI 1, qI (qif (up ≥ 0) up (-up)), qU, qU]) d_X12_lowest_10 rfl (by decide) rfl ?_
  refine z_iload_n d_X12_lowest_11 rfl rfl ?_
  suffices kJ12 : qEx M_X12_lowest 21 [qI up, qI low, qI 1, qI (qif (up ≥ 0) up (-up)), qU, qU] [qI (qif (low ≥ 0) low (-low))] h r hr by
    refine z_if_ge 20 d_X12_lowest_12 (by decide) (fun hc2 => ?_) (fun hc2 => ?_)
    · refine z_iload_n d_X12_lowest_20 rfl rfl ?_
      exact z_eq rfl (qc (qi (qif_t hc2).symm) rfl) rfl kJ12
    · refine z_iload_n d_X12_lowest_15 rfl rfl ?_
      refine z_ineg d_X12_lowest_16 (by omega) ?_
      refine z_goto 21 d_X12_lowest_17 (by decide) ?_
      exact z_eq rfl (qc (qi (qif_f hc2).symm) rfl) rfl kJ12
  refine z_istore (ls' := [qI up, qI low, qI 1, qI (qif (up ≥ 0) up (-up)), qI (qif (low ≥ 0) low (-low)), qU]) d_X12_lowest_21 (by decide) rfl ?_
  have hg0 : 0 < Nat.gcd up.natAbs low.natAbs := Nat.gcd_pos_of_pos_right _ (by omega)
  have hg1 : Nat.gcd up.natAbs low.natAbs ≤ low.natAbs := Nat.gcd_le_right _ (by omega)
  suffices KL : qEx M_X12_lowest 44 [qI up, qI low, qI 1, qI (((Nat.gcd up.natAbs low.natAbs) : Nat) : Int), qU, qU] [] h r hr by
    have L : ∀ (y x : Nat), x ≤ 2147483647 → y ≤ 2147483647 → Nat.gcd x y = Nat.gcd up.natAbs low.natAbs → qEx M_X12_lowest 23 [qI up, qI low, qI 1, qI (x : Int), qI (y : Int), qU] [] h r hr := by
      intro y
      induction y using Nat.strongRecOn with
      | ind y ih =>
        intro x hx hy hg
        refine z_iload d_X12_lowest_23 rfl ?_
        refine z_if_eq 44 d_X12_lowest_25 (by decide) (fun hy0 => ?_) (fun hy0 => ?_)
        · exact z_dr (qle_k rfl (qle_k rfl (qle_k rfl (qle_k (qi (by rw [← hg, show y = 0 by omega, Nat.gcd_zero_right])) (qle_d (qle_k rfl qle_n)))))) rfl rfl KL
        · refine z_iload_n d_X12_lowest_28 rfl rfl ?_
          refine z_iload d_X12_lowest_29 rfl ?_
          refine z_irem d_X12_lowest_31 (by omega) ?_
          refine z_istore (ls' := [qI up, qI low, qI 1, qI (x : Int), qI (y : Int), qI (Int.tmod (x : Int) (y : Int))]) d_X12_lowest_32 (by decide) rfl ?_
          refine z_eq (qc rfl (qc rfl (qc rfl (qc rfl (qc rfl (qc (qi (show (Int.tmod (x : Int) (y : Int)) = (((x % y) : Nat) : Int) from (by rw [Int.tmod_eq_emod_of_nonneg (by omega)] <;> omega))) rfl)))))) rfl rfl ?_
          refine z_iload d_X12_lowest_34 rfl ?_
          refine z_istore_n (ls' := [qI up, qI low, qI 1, qI (y : Int), qI (y : Int), qI (((x % y) : Nat) : Int)]) d_X12_lowest_36 rfl (by decide) rfl ?_
          refine z_iload d_X12_lowest_37 rfl ?_
          refine z_istore (ls' := [qI up, qI low, qI 1, qI (y : Int), qI (((x % y) : Nat) : Int), qI (((x % y) : Nat) : Int)]) d_X12_lowest_39 (by decide) rfl ?_
          refine z_goto 23 d_X12_lowest_41 (by decide) ?_
          exact z_dr (qle_k rfl (qle_k rfl (qle_k rfl (qle_k rfl (qle_k (qi (by omega)) (qle_d qle_n)))))) rfl rfl (ih (x % y) (Nat.mod_lt _ (by omega)) y hy (by have := Nat.mod_lt x (show 0 < y by omega); omega) (by rw [← hg, Nat.gcd_comm y, ← Nat.gcd_rec, Nat.gcd_comm]))
    exact z_eq (qc rfl (qc rfl (qc rfl (qc (qi (by simp only [qif_eq]; omega)) (qc (qi (by simp only [qif_eq]; omega)) (qc rfl rfl)))))) rfl rfl (L low.natAbs up.natAbs (by omega) (by omega) rfl)
  refine z_iload_n d_X12_lowest_44 rfl rfl ?_
  suffices kJ45 : qEx M_X12_lowest 53 [qI up, qI low, qI 1, qI (((Nat.gcd up.natAbs low.natAbs) : Nat) : Int), qU, qU] [qI (qif (low ≥ 0) 1 (-1))] h r hr by
    refine z_if_ge 52 d_X12_lowest_45 (by decide) (fun hc3 => ?_) (fun hc3 => ?_)
    · refine z_iconst d_X12_lowest_52 (by decide) ?_
      exact z_eq rfl (qc (qi (qif_t hc3).symm) rfl) rfl kJ45
    · refine z_iconst d_X12_lowest_48 (by decide) ?_
      refine z_goto 53 d_X12_lowest_49 (by decide) ?_
      exact z_eq rfl (qc (qi (qif_f hc3).symm) rfl) rfl kJ45
  refine z_istore (ls' := [qI up, qI low, qI 1, qI (((Nat.gcd up.natAbs low.natAbs) : Nat) : Int), qU, qI (qif (low ≥ 0) 1 (-1))]) d_X12_lowest_53 (by decide) rfl ?_
  refine z_iload_n d_X12_lowest_55 rfl rfl ?_
  refine z_if_eq 68 d_X12_lowest_56 (by decide) (fun hc4 => absurd hc4 (by decide)) (fun hc4 => ?_)
  refine z_iload d_X12_lowest_59 rfl ?_
  refine z_iload_n d_X12_lowest_61 rfl rfl ?_
  refine z_imul d_X12_lowest_62 (by simp only [qif_eq]; split <;> omega) ?_
  refine z_iload_n d_X12_lowest_63 rfl rfl ?_
  refine z_idiv d_X12_lowest_64 (by omega) ?_
  refine z_goto 74 d_X12_lowest_65 (by decide) ?_
  exact z_iret d_X12_lowest_74 rfl (qer er (by unfold lowR; simp only [qif_eq]; first | rfl | (congr 2; split <;> omega) | skip)) eh
theorem mulb {x y : Int} (X Y Z : Int) (hx : -X ≤ x ∧ x ≤ X) (hy : -Y ≤ y ∧ y ≤ Y) (hZ : X * Y = Z) : -Z ≤ x * y ∧ x * y ≤ Z := by
  subst hZ
  have hX : 0 ≤ X := by omega
  have hY : 0 ≤ Y := by omega
  have h1 : (x * y).natAbs ≤ (X * Y).natAbs := by
    rw [Int.natAbs_mul, Int.natAbs_mul]
    exact Nat.mul_le_mul (by omega) (by omega)
  have h2 : 0 ≤ X * Y := Int.mul_nonneg hX hY
  omega
set_option maxRecDepth 20000 in
set_option maxHeartbeats 4000000 in
theorem c_meets_no {h : qH} {m : Nat} {f : Nat → Int} {g : Nat → Nat → Int} {K : Nat} (i j what : Int) (hm : 2 ≤ m) (h0 : f 0 = 0) (hM : f 27 = (K : Int)) (hK : K ≤ 8) (hno : ¬ ((0 ≤ i ∧ i < K) ∧ (0 ≤ j ∧ j < K) ∧ 0 ≤ what ∧ what ≤ 3)) : qEx M_X12_meets 0 [qR m, qI i, qI j, qI what, qU, qU, qU, qU, qU, qU, qU, qU] [] (rput h m f g) (some (qI (-10000000))) (rput h m f g) := by
  refine q_gen (fun r hr er eh => ?_)
  refine z_aload_n d_X12_meets_0 rfl rfl ?_
  refine z_iconst d_X12_meets_1 (by decide) ?_
  refine z_putf (fs' := [qI 0, qI (f 1), qI (f 2), qI (f 3), qI (f 4), qI (f 5), qI (f 6), qI (f 7), qR (m + 1), qR (m + 2), qR (m + 3), qR (m + 4), qR (m + 5), qR (m + 6), qR (m + 7), qR (m + 8), qR (m + 9), qR (m + 10), qI (f 18), qI (f 19), qI (f 20), qR (m + 11), qR (m + 12), qR (m + 13), qR (m + 14), qI (f 25), qR (m + 15), qI (f 27), qR (m + 16), qR (m + 17), qR (m + 18), qR (m + 19), qR (m + 20), qR (m + 21), qR (m + 22), qR (m + 23), qR (m + 24), qI (f 37), qI (f 38), qI (f 39), qI (f 40), qR (m + 25), qR (m + 26), qR (m + 27), qR (m + 28), qR (m + 29), qR (m + 30), qR (m + 31), qI (f 48), qR (m + 32), qR (m + 33), qR (m + 34), qR (m + 35), qR (m + 36), qR (m + 37)]) d_X12_meets_2 fp_X12_127 rput_o (fun _ => rfl) (fun _ => rfl) (Nat.le_of_ble_eq_true rfl) rfl ?_
  refine z_eq rfl rfl ((rput_sf (f' := qup f 0 0) rfl).trans (rput_cg (qup_self h0) rfl)) ?_
  refine z_aload_n d_X12_meets_5 rfl rfl ?_
  refine z_iload_n d_X12_meets_6 rfl rfl ?_
  refine z_cv (M1 := M_X12_isMark) d_X12_meets_7 lv_X12_404 k_X12_isMark [qI i] rfl rfl rput_o ⟨_, _, rfl⟩ (Nat.le_of_ble_eq_true rfl) (by decide) (by decide) (Nat.le_of_ble_eq_true rfl) (c_isMark i hm (by omega)) ?_
  refine z_ifeqB 30 d_X12_meets_10 (by decide) (fun hc1 => ?_) (fun hc1 => ?_)
  · refine z_ldcw (n := -10000000) d_X12_meets_30 ct_X12_407 (by decide) (by decide) ?_
    exact z_iret d_X12_meets_33 rfl er eh
  · refine z_aload_n d_X12_meets_13 rfl rfl ?_
    refine z_iload_n d_X12_meets_14 rfl rfl ?_
    refine z_cv (M1 := M_X12_isMark) d_X12_meets_15 lv_X12_404 k_X12_isMark [qI j] rfl rfl rput_o ⟨_, _, rfl⟩ (Nat.le_of_ble_eq_true rfl) (by decide) (by decide) (Nat.le_of_ble_eq_true rfl) (c_isMark j hm (by omega)) ?_
    refine z_ifeqB 30 d_X12_meets_18 (by decide) (fun hc2 => ?_) (fun hc2 => ?_)
    · refine z_ldcw (n := -10000000) d_X12_meets_30 ct_X12_407 (by decide) (by decide) ?_
      exact z_iret d_X12_meets_33 rfl er eh
    · refine z_iload_n d_X12_meets_21 rfl rfl ?_
      refine z_iconst d_X12_meets_22 (by decide) ?_
      refine z_iconst d_X12_meets_23 (by decide) ?_
      refine z_cs (M1 := M_X12_in) d_X12_meets_24 ls_X12_137 k_X12_in [qI what, qI 0, qI 3] rfl rfl (Nat.le_of_ble_eq_true rfl) (by decide) (by decide) (Nat.le_of_ble_eq_true rfl) (c_in what 0 3) ?_
      refine z_ifneB 34 d_X12_meets_27 (by decide) (fun hc3 => ?_) (fun hc3 => ?_)
      · exact absurd (by omega) hno
      · refine z_ldcw (n := -10000000) d_X12_meets_30 ct_X12_407 (by decide) (by decide) ?_
        exact z_iret d_X12_meets_33 rfl er eh
set_option maxRecDepth 20000 in
set_option maxHeartbeats 4000000 in
theorem c_meets0 {h : qH} {m : Nat} {f : Nat → Int} {g : Nat → Nat → Int} {K : Nat} (i j : Nat) {p s a b p2 s2 c d : Int} (hm : 2 ≤ m) (h0 : f 0 = 0) (hM : f 27 = (K : Int)) (hK : K ≤ 8) (hi : i < K) (hj : j < K) (hp : g 15 (4 * i) = p) (hs : g 15 (4 * i + 1) = s) (ha : g 15 (4 * i + 2) = a) (hb : g 15 (4 * i + 3) = b) (hp2 : g 15 (4 * j) = p2) (hs2 : g 15 (4 * j + 1) = s2) (hc : g 15 (4 * j + 2) = c) (hd : g 15 (4 * j + 3) = d) (bp : 0 ≤ p ∧ p ≤ 99) (bs : 0 ≤ s ∧ s ≤ 99) (ba : -9 ≤ a ∧ a ≤ 9) (bb : 1 ≤ b ∧ b ≤ 9) (bp2 : 0 ≤ p2 ∧ p2 ≤ 99) (bs2 : 0 ≤ s2 ∧ s2 ≤ 99) (bc : -9 ≤ c ∧ c ≤ 9) (bd : 1 ≤ d ∧ d ≤ 9) : qEx M_X12_meets 0 [qR m, qI (i : Int), qI (j : Int), qI 0, qU, qU, qU, qU, qU, qU, qU, qU] [] (rput h m f g) (some (qI (qif ((a * d - c * b) = 0) (-10000000) (lowR ((p2 - p) * b * d + s * a * d - s2 * c * b) (a * d - c * b) 1)))) (rput h m f g) := by
  refine q_gen (fun r hr er eh => ?_)
  have m1 := mulb (x := a) (y := d) 9 9 81 (by omega) (by omega) rfl
  have m2 := mulb (x := c) (y := b) 9 9 81 (by omega) (by omega) rfl
  have m3 := mulb (x := p2 - p) (y := b) 99 9 891 (by omega) (by omega) rfl
  have m4 := mulb (x := (p2 - p) * b) (y := d) 891 9 8019 (by omega) (by omega) rfl
  have m5 := mulb (x := s) (y := a) 99 9 891 (by omega) (by omega) rfl
  have m6 := mulb (x := s * a) (y := d) 891 9 8019 (by omega) (by omega) rfl
  have m7 := mulb (x := s2) (y := c) 99 9 891 (by omega) (by omega) rfl
  have m8 := mulb (x := s2 * c) (y := b) 891 9 8019 (by omega) (by omega) rfl
  refine z_aload_n d_X12_meets_0 rfl rfl ?_
  refine z_iconst d_X12_meets_1 (by decide) ?_
  refine z_putf (fs' := [qI 0, qI (f 1), qI (f 2), qI (f 3), qI (f 4), qI (f 5), qI (f 6), qI (f 7), qR (m + 1), qR (m + 2), qR (m + 3), qR (m + 4), qR (m + 5), qR (m + 6), qR (m + 7), qR (m + 8), qR (m + 9), qR (m + 10), qI (f 18), qI (f 19), qI (f 20), qR (m + 11), qR (m + 12), qR (m + 13), qR (m + 14), qI (f 25), qR (m + 15), qI (f 27), qR (m + 16), qR (m + 17), qR (m + 18), qR (m + 19), qR (m + 20), qR (m + 21), qR (m + 22), qR (m + 23), qR (m + 24), qI (f 37), qI (f 38), qI (f 39), qI (f 40), qR (m + 25), qR (m + 26), qR (m + 27), qR (m + 28), qR (m + 29), qR (m + 30), qR (m + 31), qI (f 48), qR (m + 32), qR (m + 33), qR (m + 34), qR (m + 35), qR (m + 36), qR (m + 37)]) d_X12_meets_2 fp_X12_127 rput_o (fun _ => rfl) (fun _ => rfl) (Nat.le_of_ble_eq_true rfl) rfl ?_
  refine z_eq rfl rfl ((rput_sf (f' := qup f 0 0) rfl).trans (rput_cg (qup_self h0) rfl)) ?_
  refine z_aload_n d_X12_meets_5 rfl rfl ?_
  refine z_iload_n d_X12_meets_6 rfl rfl ?_
  refine z_cv (M1 := M_X12_isMark) d_X12_meets_7 lv_X12_404 k_X12_isMark [qI (i : Int)] rfl rfl rput_o ⟨_, _, rfl⟩ (Nat.le_of_ble_eq_true rfl) (by decide) (by decide) (Nat.le_of_ble_eq_true rfl) (c_isMark (i : Int) hm (by omega)) ?_
  refine z_ifeqB 30 d_X12_meets_10 (by decide) (fun hc1 => absurd hc1 (by omega)) (fun hc1 => ?_)
  refine z_aload_n d_X12_meets_13 rfl rfl ?_
  refine z_iload_n d_X12_meets_14 rfl rfl ?_
  refine z_cv (M1 := M_X12_isMark) d_X12_meets_15 lv_X12_404 k_X12_isMark [qI (j : Int)] rfl rfl rput_o ⟨_, _, rfl⟩ (Nat.le_of_ble_eq_true rfl) (by decide) (by decide) (Nat.le_of_ble_eq_true rfl) (c_isMark (j : Int) hm (by omega)) ?_
  refine z_ifeqB 30 d_X12_meets_18 (by decide) (fun hc2 => absurd hc2 (by omega)) (fun hc2 => ?_)
  refine z_iload_n d_X12_meets_21 rfl rfl ?_
  refine z_iconst d_X12_meets_22 (by decide) ?_
  refine z_iconst d_X12_meets_23 (by decide) ?_
  refine z_cs (M1 := M_X12_in) d_X12_meets_24 ls_X12_137 k_X12_in [qI 0, qI 0, qI 3] rfl rfl (Nat.le_of_ble_eq_true rfl) (by decide) (by decide) (Nat.le_of_ble_eq_true rfl) (c_in 0 0 3) ?_
  refine z_ifneB 34 d_X12_meets_27 (by decide) (fun hc3 => ?_) (fun hc3 => absurd hc3 (by omega))
  refine z_aload_n d_X12_meets_34 rfl rfl ?_
  refine z_getf (v := qR (m + 15)) d_X12_meets_35 fl_X12_56 rput_o rfl ?_
  refine z_iconst d_X12_meets_38 (by decide) ?_
  refine z_iload_n d_X12_meets_39 rfl rfl ?_
  refine z_imul d_X12_meets_40 (by omega) ?_
  refine z_ild (4 * i) d_X12_meets_41 (rput_a2 15 (t := 0) (n := 32) (F := (g 15)) rfl rfl rfl (by decide) (by decide)) rfl (by omega) ?_
  refine z_eq rfl (qc (qi hp) rfl) rfl ?_
  refine z_istore (ls' := [qR m, qI (i : Int), qI (j : Int), qI 0, qI p, qU, qU, qU, qU, qU, qU, qU]) d_X12_meets_42 (by decide) rfl ?_
  refine z_aload_n d_X12_meets_44 rfl rfl ?_
  refine z_getf (v := qR (m + 15)) d_X12_meets_45 fl_X12_56 rput_o rfl ?_
  refine z_iconst d_X12_meets_48 (by decide) ?_
  refine z_iload_n d_X12_meets_49 rfl rfl ?_
  refine z_imul d_X12_meets_50 (by omega) ?_
  refine z_iconst d_X12_meets_51 (by decide) ?_
  refine z_iadd d_X12_meets_52 (by omega) ?_
  refine z_ild ((4 * i) + 1) d_X12_meets_53 (rput_a2 15 (t := 0) (n := 32) (F := (g 15)) rfl rfl rfl (by decide) (by decide)) rfl (by omega) ?_
  refine z_eq rfl (qc (qi hs) rfl) rfl ?_
  refine z_istore (ls' := [qR m, qI (i : Int), qI (j : Int), qI 0, qI p, qI s, qU, qU, qU, qU, qU, qU]) d_X12_meets_54 (by decide) rfl ?_
  refine z_aload_n d_X12_meets_56 rfl rfl ?_
  refine z_getf (v := qR (m + 15)) d_X12_meets_57 fl_X12_56 rput_o rfl ?_
  refine z_iconst d_X12_meets_60 (by decide) ?_
  refine z_iload_n d_X12_meets_61 rfl rfl ?_
  refine z_imul d_X12_meets_62 (by omega) ?_
  refine z_iconst d_X12_meets_63 (by decide) ?_
  refine z_iadd d_X12_meets_64 (by omega) ?_
  refine z_ild ((4 * i) + 2) d_X12_meets_65 (rput_a2 15 (t := 0) (n := 32) (F := (g 15)) rfl rfl rfl (by decide) (by decide)) rfl (by omega) ?_
  refine z_eq rfl (qc (qi ha) rfl) rfl ?_
  refine z_istore (ls' := [qR m, qI (i : Int), qI (j : Int), qI 0, qI p, qI s, qI a, qU, qU, qU, qU, qU]) d_X12_meets_66 (by decide) rfl ?_
  refine z_aload_n d_X12_meets_68 rfl rfl ?_
  refine z_getf (v := qR (m + 15)) d_X12_meets_69 fl_X12_56 rput_o rfl ?_
  refine z_iconst d_X12_meets_72 (by decide) ?_
  refine z_iload_n d_X12_meets_73 rfl rfl ?_
  refine z_imul d_X12_meets_74 (by omega) ?_
  refine z_iconst d_X12_meets_75 (by decide) ?_
  refine z_iadd d_X12_meets_76 (by omega) ?_
  refine z_ild ((4 * i) + 3) d_X12_meets_77 (rput_a2 15 (t := 0) (n := 32) (F := (g 15)) rfl rfl rfl (by decide) (by decide)) rfl (by omega) ?_
  refine z_eq rfl (qc (qi hb) rfl) rfl ?_
  refine z_istore (ls' := [qR m, qI (i : Int), qI (j : Int), qI 0, qI p, qI s, qI a, qI b, qU, qU, qU, qU]) d_X12_meets_78 (by decide) rfl ?_
  refine z_aload_n d_X12_meets_80 rfl rfl ?_
  refine z_getf (v := qR (m + 15)) d_X12_meets_81 fl_X12_56 rput_o rfl ?_
  refine z_iconst d_X12_meets_84 (by decide) ?_
  refine z_iload_n d_X12_meets_85 rfl rfl ?_
  refine z_imul d_X12_meets_86 (by omega) ?_
  refine z_iconst d_X12_meets_87 (by decide) ?_
  refine z_iadd d_X12_meets_88 (by omega) ?_
  refine z_ild ((4 * j) + 2) d_X12_meets_89 (rput_a2 15 (t := 0) (n := 32) (F := (g 15)) rfl rfl rfl (by decide) (by decide)) rfl (by omega) ?_
  refine z_eq rfl (qc (qi hc) rfl) rfl ?_
  refine z_istore (ls' := [qR m, qI (i : Int), qI (j : Int), qI 0, qI p, qI s, qI a, qI b, qI c, qU, qU, qU]) d_X12_meets_90 (by decide) rfl ?_
  refine z_aload_n d_X12_meets_92 rfl rfl ?_
  refine z_getf (v := qR (m + 15)) d_X12_meets_93 fl_X12_56 rput_o rfl ?_
  refine z_iconst d_X12_meets_96 (by decide) ?_
  refine z_iload_n d_X12_meets_97 rfl rfl ?_
  refine z_imul d_X12_meets_98 (by omega) ?_
  refine z_iconst d_X12_meets_99 (by decide) ?_
  refine z_iadd d_X12_meets_100 (by omega) ?_
  refine z_ild ((4 * j) + 3) d_X12_meets_101 (rput_a2 15 (t := 0) (n := 32) (F := (g 15)) rfl rfl rfl (by decide) (by decide)) rfl (by omega) ?_
  refine z_eq rfl (qc (qi hd) rfl) rfl ?_
  refine z_istore (ls' := [qR m, qI (i : Int), qI (j : Int), qI 0, qI p, qI s, qI a, qI b, qI c, qI d, qU, qU]) d_X12_meets_102 (by decide) rfl ?_
  refine z_iload d_X12_meets_104 rfl ?_
  refine z_iload d_X12_meets_106 rfl ?_
  refine z_imul d_X12_meets_108 (by omega) ?_
  refine z_iload d_X12_meets_109 rfl ?_
  refine z_iload d_X12_meets_111 rfl ?_
  refine z_imul d_X12_meets_113 (by omega) ?_
  refine z_isub d_X12_meets_114 (by omega) ?_
  refine z_istore (ls' := [qR m, qI (i : Int), qI (j : Int), qI 0, qI p, qI s, qI a, qI b, qI c, qI d, qI ((a * d) - (c * b)), qU]) d_X12_meets_115 (by decide) rfl ?_
  refine z_iload d_X12_meets_117 rfl ?_
  refine z_if_ne 126 d_X12_meets_119 (by decide) (fun hz => ?_) (fun hz => ?_)
  · refine z_aload_n d_X12_meets_126 rfl rfl ?_
    refine z_getf (v := qR (m + 15)) d_X12_meets_127 fl_X12_56 rput_o rfl ?_
    refine z_iconst d_X12_meets_130 (by decide) ?_
    refine z_iload_n d_X12_meets_131 rfl rfl ?_
    refine z_imul d_X12_meets_132 (by omega) ?_
    refine z_ild (4 * j) d_X12_meets_133 (rput_a2 15 (t := 0) (n := 32) (F := (g 15)) rfl rfl rfl (by decide) (by decide)) rfl (by omega) ?_
    refine z_eq rfl (qc (qi hp2) rfl) rfl ?_
    refine z_iload d_X12_meets_134 rfl ?_
    refine z_isub d_X12_meets_136 (by omega) ?_
    refine z_iload d_X12_meets_137 rfl ?_
    refine z_imul d_X12_meets_139 (by omega) ?_
    refine z_iload d_X12_meets_140 rfl ?_
    refine z_imul d_X12_meets_142 (by omega) ?_
    refine z_iload d_X12_meets_143 rfl ?_
    refine z_iload d_X12_meets_145 rfl ?_
    refine z_imul d_X12_meets_147 (by omega) ?_
    refine z_iload d_X12_meets_148 rfl ?_
    refine z_imul d_X12_meets_150 (by omega) ?_
    refine z_iadd d_X12_meets_151 (by omega) ?_
    refine z_aload_n d_X12_meets_152 rfl rfl ?_
    refine z_getf (v := qR (m + 15)) d_X12_meets_153 fl_X12_56 rput_o rfl ?_
    refine z_iconst d_X12_meets_156 (by decide) ?_
    refine z_iload_n d_X12_meets_157 rfl rfl ?_
    refine z_imul d_X12_meets_158 (by omega) ?_
    refine z_iconst d_X12_meets_159 (by decide) ?_
    refine z_iadd d_X12_meets_160 (by omega) ?_
    refine z_ild ((4 * j) + 1) d_X12_meets_161 (rput_a2 15 (t := 0) (n := 32) (F := (g 15)) rfl rfl rfl (by decide) (by decide)) rfl (by omega) ?_
    refine z_eq rfl (qc (qi hs2) rfl) rfl ?_
    refine z_iload d_X12_meets_162 rfl ?_
    refine z_imul d_X12_meets_164 (by omega) ?_
    refine z_iload d_X12_meets_165 rfl ?_
    refine z_imul d_X12_meets_167 (by omega) ?_
    refine z_isub d_X12_meets_168 (by omega) ?_
    refine z_istore (ls' := [qR m, qI (i : Int), qI (j : Int), qI 0, qI p, qI s, qI a, qI b, qI c, qI d, qI ((a * d) - (c * b)), qI (((((p2 - p) * b) * d) + ((s * a) * d)) - ((s2 * c) * b))]) d_X12_meets_169 (by decide) rfl ?_
    refine z_iload_n d_X12_meets_171 rfl rfl ?_
    refine z_iconst d_X12_meets_172 (by decide) ?_
    refine z_icmp_ge 193 d_X12_meets_173 (by decide) (fun hc4 => absurd hc4 (by decide)) (fun hc4 => ?_)
    refine z_iload d_X12_meets_176 rfl ?_
    refine z_iload d_X12_meets_178 rfl ?_
    refine z_iload_n d_X12_meets_180 rfl rfl ?_
    refine z_if_ne 188 d_X12_meets_181 (by decide) (fun hc5 => absurd hc5 (by decide)) (fun hc5 => ?_)
    refine z_iconst d_X12_meets_184 (by decide) ?_
    refine z_goto 189 d_X12_meets_185 (by decide) ?_
    refine z_cs (M1 := M_X12_lowest) d_X12_meets_189 ls_X12_408 k_X12_lowest [qI (((((p2 - p) * b) * d) + ((s * a) * d)) - ((s2 * c) * b)), qI ((a * d) - (c * b)), qI 1] rfl rfl (Nat.le_of_ble_eq_true rfl) (by decide) (by decide) (Nat.le_of_ble_eq_true rfl) (c_lowest1 (((((p2 - p) * b) * d) + ((s * a) * d)) - ((s2 * c) * b)) ((a * d) - (c * b)) (by omega) (by omega) (by omega)) ?_
    exact z_iret d_X12_meets_192 rfl (qer er (qif_f (by omega))) eh
  · refine z_ldcw (n := -10000000) d_X12_meets_122 ct_X12_407 (by decide) (by decide) ?_
    exact z_iret d_X12_meets_125 rfl (qer er (qif_t (by omega))) eh
set_option maxRecDepth 20000 in
set_option maxHeartbeats 4000000 in
theorem c_meets1 {h : qH} {m : Nat} {f : Nat → Int} {g : Nat → Nat → Int} {K : Nat} (i j : Nat) {p s a b p2 s2 c d : Int} (hm : 2 ≤ m) (h0 : f 0 = 0) (hM : f 27 = (K : Int)) (hK : K ≤ 8) (hi : i < K) (hj : j < K) (hp : g 15 (4 * i) = p) (hs : g 15 (4 * i + 1) = s) (ha : g 15 (4 * i + 2) = a) (hb : g 15 (4 * i + 3) = b) (hp2 : g 15 (4 * j) = p2) (hs2 : g 15 (4 * j + 1) = s2) (hc : g 15 (4 * j + 2) = c) (hd : g 15 (4 * j + 3) = d) (bp : 0 ≤ p ∧ p ≤ 99) (bs : 0 ≤ s ∧ s ≤ 99) (ba : -9 ≤ a ∧ a ≤ 9) (bb : 1 ≤ b ∧ b ≤ 9) (bp2 : 0 ≤ p2 ∧ p2 ≤ 99) (bs2 : 0 ≤ s2 ∧ s2 ≤ 99) (bc : -9 ≤ c ∧ c ≤ 9) (bd : 1 ≤ d ∧ d ≤ 9) : qEx M_X12_meets 0 [qR m, qI (i : Int), qI (j : Int), qI 1, qU, qU, qU, qU, qU, qU, qU, qU] [] (rput h m f g) (some (qI (qif ((a * d - c * b) = 0) (-10000000) (lowR ((p2 - p) * b * d + s * a * d - s2 * c * b) (a * d - c * b) 0)))) (rput h m f g) := by
  refine q_gen (fun r hr er eh => ?_)
  have m1 := mulb (x := a) (y := d) 9 9 81 (by omega) (by omega) rfl
  have m2 := mulb (x := c) (y := b) 9 9 81 (by omega) (by omega) rfl
  have m3 := mulb (x := p2 - p) (y := b) 99 9 891 (by omega) (by omega) rfl
  have m4 := mulb (x := (p2 - p) * b) (y := d) 891 9 8019 (by omega) (by omega) rfl
  have m5 := mulb (x := s) (y := a) 99 9 891 (by omega) (by omega) rfl
  have m6 := mulb (x := s * a) (y := d) 891 9 8019 (by omega) (by omega) rfl
  have m7 := mulb (x := s2) (y := c) 99 9 891 (by omega) (by omega) rfl
  have m8 := mulb (x := s2 * c) (y := b) 891 9 8019 (by omega) (by omega) rfl
  refine z_aload_n d_X12_meets_0 rfl rfl ?_
  refine z_iconst d_X12_meets_1 (by decide) ?_
  refine z_putf (fs' := [qI 0, qI (f 1), qI (f 2), qI (f 3), qI (f 4), qI (f 5), qI (f 6), qI (f 7), qR (m + 1), qR (m + 2), qR (m + 3), qR (m + 4), qR (m + 5), qR (m + 6), qR (m + 7), qR (m + 8), qR (m + 9), qR (m + 10), qI (f 18), qI (f 19), qI (f 20), qR (m + 11), qR (m + 12), qR (m + 13), qR (m + 14), qI (f 25), qR (m + 15), qI (f 27), qR (m + 16), qR (m + 17), qR (m + 18), qR (m + 19), qR (m + 20), qR (m + 21), qR (m + 22), qR (m + 23), qR (m + 24), qI (f 37), qI (f 38), qI (f 39), qI (f 40), qR (m + 25), qR (m + 26), qR (m + 27), qR (m + 28), qR (m + 29), qR (m + 30), qR (m + 31), qI (f 48), qR (m + 32), qR (m + 33), qR (m + 34), qR (m + 35), qR (m + 36), qR (m + 37)]) d_X12_meets_2 fp_X12_127 rput_o (fun _ => rfl) (fun _ => rfl) (Nat.le_of_ble_eq_true rfl) rfl ?_
  refine z_eq rfl rfl ((rput_sf (f' := qup f 0 0) rfl).trans (rput_cg (qup_self h0) rfl)) ?_
  refine z_aload_n d_X12_meets_5 rfl rfl ?_
  refine z_iload_n d_X12_meets_6 rfl rfl ?_
  refine z_cv (M1 := M_X12_isMark) d_X12_meets_7 lv_X12_404 k_X12_isMark [qI (i : Int)] rfl rfl rput_o ⟨_, _, rfl⟩ (Nat.le_of_ble_eq_true rfl) (by decide) (by decide) (Nat.le_of_ble_eq_true rfl) (c_isMark (i : Int) hm (by omega)) ?_
  refine z_ifeqB 30 d_X12_meets_10 (by decide) (fun hc1 => absurd hc1 (by omega)) (fun hc1 => ?_)
  refine z_aload_n d_X12_meets_13 rfl rfl ?_
  refine z_iload_n d_X12_meets_14 rfl rfl ?_
  refine z_cv (M1 := M_X12_isMark) d_X12_meets_15 lv_X12_404 k_X12_isMark [qI (j : Int)] rfl rfl rput_o ⟨_, _, rfl⟩ (Nat.le_of_ble_eq_true rfl) (by decide) (by decide) (Nat.le_of_ble_eq_true rfl) (c_isMark (j : Int) hm (by omega)) ?_
  refine z_ifeqB 30 d_X12_meets_18 (by decide) (fun hc2 => absurd hc2 (by omega)) (fun hc2 => ?_)
  refine z_iload_n d_X12_meets_21 rfl rfl ?_
  refine z_iconst d_X12_meets_22 (by decide) ?_
  refine z_iconst d_X12_meets_23 (by decide) ?_
  refine z_cs (M1 := M_X12_in) d_X12_meets_24 ls_X12_137 k_X12_in [qI 1, qI 0, qI 3] rfl rfl (Nat.le_of_ble_eq_true rfl) (by decide) (by decide) (Nat.le_of_ble_eq_true rfl) (c_in 1 0 3) ?_
  refine z_ifneB 34 d_X12_meets_27 (by decide) (fun hc3 => ?_) (fun hc3 => absurd hc3 (by omega))
  refine z_aload_n d_X12_meets_34 rfl rfl ?_
  refine z_getf (v := qR (m + 15)) d_X12_meets_35 fl_X12_56 rput_o rfl ?_
  refine z_iconst d_X12_meets_38 (by decide) ?_
  refine z_iload_n d_X12_meets_39 rfl rfl ?_
  refine z_imul d_X12_meets_40 (by omega) ?_
  refine z_ild (4 * i) d_X12_meets_41 (rput_a2 15 (t := 0) (n := 32) (F := (g 15)) rfl rfl rfl (by decide) (by decide)) rfl (by omega) ?_
  refine z_eq rfl (qc (qi hp) rfl) rfl ?_
  refine z_istore (ls' := [qR m, qI (i : Int), qI (j : Int), qI 1, qI p, qU, qU, qU, qU, qU, qU, qU]) d_X12_meets_42 (by decide) rfl ?_
  refine z_aload_n d_X12_meets_44 rfl rfl ?_
  refine z_getf (v := qR (m + 15)) d_X12_meets_45 fl_X12_56 rput_o rfl ?_
  refine z_iconst d_X12_meets_48 (by decide) ?_
  refine z_iload_n d_X12_meets_49 rfl rfl ?_
  refine z_imul d_X12_meets_50 (by omega) ?_
  refine z_iconst d_X12_meets_51 (by decide) ?_
  refine z_iadd d_X12_meets_52 (by omega) ?_
  refine z_ild ((4 * i) + 1) d_X12_meets_53 (rput_a2 15 (t := 0) (n := 32) (F := (g 15)) rfl rfl rfl (by decide) (by decide)) rfl (by omega) ?_
  refine z_eq rfl (qc (qi hs) rfl) rfl ?_
  refine z_istore (ls' := [qR m, qI (i : Int), qI (j : Int), qI 1, qI p, qI s, qU, qU, qU, qU, qU, qU]) d_X12_meets_54 (by decide) rfl ?_
  refine z_aload_n d_X12_meets_56 rfl rfl ?_
  refine z_getf (v := qR (m + 15)) d_X12_meets_57 fl_X12_56 rput_o rfl ?_
  refine z_iconst d_X12_meets_60 (by decide) ?_
  refine z_iload_n d_X12_meets_61 rfl rfl ?_
  refine z_imul d_X12_meets_62 (by omega) ?_
  refine z_iconst d_X12_meets_63 (by decide) ?_
  refine z_iadd d_X12_meets_64 (by omega) ?_
  refine z_ild ((4 * i) + 2) d_X12_meets_65 (rput_a2 15 (t := 0) (n := 32) (F := (g 15)) rfl rfl rfl (by decide) (by decide)) rfl (by omega) ?_
  refine z_eq rfl (qc (qi ha) rfl) rfl ?_
  refine z_istore (ls' := [qR m, qI (i : Int), qI (j : Int), qI 1, qI p, qI s, qI a, qU, qU, qU, qU, qU]) d_X12_meets_66 (by decide) rfl ?_
  refine z_aload_n d_X12_meets_68 rfl rfl ?_
  refine z_getf (v := qR (m + 15)) d_X12_meets_69 fl_X12_56 rput_o rfl ?_
  refine z_iconst d_X12_meets_72 (by decide) ?_
  refine z_iload_n d_X12_meets_73 rfl rfl ?_
  refine z_imul d_X12_meets_74 (by omega) ?_
  refine z_iconst d_X12_meets_75 (by decide) ?_
  refine z_iadd d_X12_meets_76 (by omega) ?_
  refine z_ild ((4 * i) + 3) d_X12_meets_77 (rput_a2 15 (t := 0) (n := 32) (F := (g 15)) rfl rfl rfl (by decide) (by decide)) rfl (by omega) ?_
  refine z_eq rfl (qc (qi hb) rfl) rfl ?_
  refine z_istore (ls' := [qR m, qI (i : Int), qI (j : Int), qI 1, qI p, qI s, qI a, qI b, qU, qU, qU, qU]) d_X12_meets_78 (by decide) rfl ?_
  refine z_aload_n d_X12_meets_80 rfl rfl ?_
  refine z_getf (v := qR (m + 15)) d_X12_meets_81 fl_X12_56 rput_o rfl ?_
  refine z_iconst d_X12_meets_84 (by decide) ?_
  refine z_iload_n d_X12_meets_85 rfl rfl ?_
  refine z_imul d_X12_meets_86 (by omega) ?_
  refine z_iconst d_X12_meets_87 (by decide) ?_
  refine z_iadd d_X12_meets_88 (by omega) ?_
  refine z_ild ((4 * j) + 2) d_X12_meets_89 (rput_a2 15 (t := 0) (n := 32) (F := (g 15)) rfl rfl rfl (by decide) (by decide)) rfl (by omega) ?_
  refine z_eq rfl (qc (qi hc) rfl) rfl ?_
  refine z_istore (ls' := [qR m, qI (i : Int), qI (j : Int), qI 1, qI p, qI s, qI a, qI b, qI c, qU, qU, qU]) d_X12_meets_90 (by decide) rfl ?_
  refine z_aload_n d_X12_meets_92 rfl rfl ?_
  refine z_getf (v := qR (m + 15)) d_X12_meets_93 fl_X12_56 rput_o rfl ?_
  refine z_iconst d_X12_meets_96 (by decide) ?_
  refine z_iload_n d_X12_meets_97 rfl rfl ?_
  refine z_imul d_X12_meets_98 (by omega) ?_
  refine z_iconst d_X12_meets_99 (by decide) ?_
  refine z_iadd d_X12_meets_100 (by omega) ?_
  refine z_ild ((4 * j) + 3) d_X12_meets_101 (rput_a2 15 (t := 0) (n := 32) (F := (g 15)) rfl rfl rfl (by decide) (by decide)) rfl (by omega) ?_
  refine z_eq rfl (qc (qi hd) rfl) rfl ?_
  refine z_istore (ls' := [qR m, qI (i : Int), qI (j : Int), qI 1, qI p, qI s, qI a, qI b, qI c, qI d, qU, qU]) d_X12_meets_102 (by decide) rfl ?_
  refine z_iload d_X12_meets_104 rfl ?_
  refine z_iload d_X12_meets_106 rfl ?_
  refine z_imul d_X12_meets_108 (by omega) ?_
  refine z_iload d_X12_meets_109 rfl ?_
  refine z_iload d_X12_meets_111 rfl ?_
  refine z_imul d_X12_meets_113 (by omega) ?_
  refine z_isub d_X12_meets_114 (by omega) ?_
  refine z_istore (ls' := [qR m, qI (i : Int), qI (j : Int), qI 1, qI p, qI s, qI a, qI b, qI c, qI d, qI ((a * d) - (c * b)), qU]) d_X12_meets_115 (by decide) rfl ?_
  refine z_iload d_X12_meets_117 rfl ?_
  refine z_if_ne 126 d_X12_meets_119 (by decide) (fun hz => ?_) (fun hz => ?_)
  · refine z_aload_n d_X12_meets_126 rfl rfl ?_
    refine z_getf (v := qR (m + 15)) d_X12_meets_127 fl_X12_56 rput_o rfl ?_
    refine z_iconst d_X12_meets_130 (by decide) ?_
    refine z_iload_n d_X12_meets_131 rfl rfl ?_
    refine z_imul d_X12_meets_132 (by omega) ?_
    refine z_ild (4 * j) d_X12_meets_133 (rput_a2 15 (t := 0) (n := 32) (F := (g 15)) rfl rfl rfl (by decide) (by decide)) rfl (by omega) ?_
    refine z_eq rfl (qc (qi hp2) rfl) rfl ?_
    refine z_iload d_X12_meets_134 rfl ?_
    refine z_isub d_X12_meets_136 (by omega) ?_
    refine z_iload d_X12_meets_137 rfl ?_
    refine z_imul d_X12_meets_139 (by omega) ?_
    refine z_iload d_X12_meets_140 rfl ?_
    refine z_imul d_X12_meets_142 (by omega) ?_
    refine z_iload d_X12_meets_143 rfl ?_
    refine z_iload d_X12_meets_145 rfl ?_
    refine z_imul d_X12_meets_147 (by omega) ?_
    refine z_iload d_X12_meets_148 rfl ?_
    refine z_imul d_X12_meets_150 (by omega) ?_
    refine z_iadd d_X12_meets_151 (by omega) ?_
    refine z_aload_n d_X12_meets_152 rfl rfl ?_
    refine z_getf (v := qR (m + 15)) d_X12_meets_153 fl_X12_56 rput_o rfl ?_
    refine z_iconst d_X12_meets_156 (by decide) ?_
    refine z_iload_n d_X12_meets_157 rfl rfl ?_
    refine z_imul d_X12_meets_158 (by omega) ?_
    refine z_iconst d_X12_meets_159 (by decide) ?_
    refine z_iadd d_X12_meets_160 (by omega) ?_
    refine z_ild ((4 * j) + 1) d_X12_meets_161 (rput_a2 15 (t := 0) (n := 32) (F := (g 15)) rfl rfl rfl (by decide) (by decide)) rfl (by omega) ?_
    refine z_eq rfl (qc (qi hs2) rfl) rfl ?_
    refine z_iload d_X12_meets_162 rfl ?_
    refine z_imul d_X12_meets_164 (by omega) ?_
    refine z_iload d_X12_meets_165 rfl ?_
    refine z_imul d_X12_meets_167 (by omega) ?_
    refine z_isub d_X12_meets_168 (by omega) ?_
    refine z_istore (ls' := [qR m, qI (i : Int), qI (j : Int), qI 1, qI p, qI s, qI a, qI b, qI c, qI d, qI ((a * d) - (c * b)), qI (((((p2 - p) * b) * d) + ((s * a) * d)) - ((s2 * c) * b))]) d_X12_meets_169 (by decide) rfl ?_
    refine z_iload_n d_X12_meets_171 rfl rfl ?_
    refine z_iconst d_X12_meets_172 (by decide) ?_
    refine z_icmp_ge 193 d_X12_meets_173 (by decide) (fun hc4 => absurd hc4 (by decide)) (fun hc4 => ?_)
    refine z_iload d_X12_meets_176 rfl ?_
    refine z_iload d_X12_meets_178 rfl ?_
    refine z_iload_n d_X12_meets_180 rfl rfl ?_
    refine z_if_ne 188 d_X12_meets_181 (by decide) (fun hc5 => ?_) (fun hc5 => absurd (by decide) hc5)
    refine z_iconst d_X12_meets_188 (by decide) ?_
    refine z_cs (M1 := M_X12_lowest) d_X12_meets_189 ls_X12_408 k_X12_lowest [qI (((((p2 - p) * b) * d) + ((s * a) * d)) - ((s2 * c) * b)), qI ((a * d) - (c * b)), qI 0] rfl rfl (Nat.le_of_ble_eq_true rfl) (by decide) (by decide) (Nat.le_of_ble_eq_true rfl) (c_lowest0 (((((p2 - p) * b) * d) + ((s * a) * d)) - ((s2 * c) * b)) ((a * d) - (c * b)) (by omega) (by omega) (by omega)) ?_
    exact z_iret d_X12_meets_192 rfl (qer er (qif_f (by omega))) eh
  · refine z_ldcw (n := -10000000) d_X12_meets_122 ct_X12_407 (by decide) (by decide) ?_
    exact z_iret d_X12_meets_125 rfl (qer er (qif_t (by omega))) eh
set_option maxRecDepth 20000 in
set_option maxHeartbeats 4000000 in
theorem c_meets2 {h : qH} {m : Nat} {f : Nat → Int} {g : Nat → Nat → Int} {K : Nat} (i j : Nat) {p s a b p2 s2 c d : Int} (hm : 2 ≤ m) (h0 : f 0 = 0) (hM : f 27 = (K : Int)) (hK : K ≤ 8) (hi : i < K) (hj : j < K) (hp : g 15 (4 * i) = p) (hs : g 15 (4 * i + 1) = s) (ha : g 15 (4 * i + 2) = a) (hb : g 15 (4 * i + 3) = b) (hp2 : g 15 (4 * j) = p2) (hs2 : g 15 (4 * j + 1) = s2) (hc : g 15 (4 * j + 2) = c) (hd : g 15 (4 * j + 3) = d) (bp : 0 ≤ p ∧ p ≤ 99) (bs : 0 ≤ s ∧ s ≤ 99) (ba : -9 ≤ a ∧ a ≤ 9) (bb : 1 ≤ b ∧ b ≤ 9) (bp2 : 0 ≤ p2 ∧ p2 ≤ 99) (bs2 : 0 ≤ s2 ∧ s2 ≤ 99) (bc : -9 ≤ c ∧ c ≤ 9) (bd : 1 ≤ d ∧ d ≤ 9) : qEx M_X12_meets 0 [qR m, qI (i : Int), qI (j : Int), qI 2, qU, qU, qU, qU, qU, qU, qU, qU] [] (rput h m f g) (some (qI (qif ((a * d - c * b) = 0) (-10000000) (lowR (p * b * (a * d - c * b) + (((p2 - p) * b * d + s * a * d - s2 * c * b) - s * (a * d - c * b)) * a) (b * (a * d - c * b)) 1)))) (rput h m f g) := by
  refine q_gen (fun r hr er eh => ?_)
  have m1 := mulb (x := a) (y := d) 9 9 81 (by omega) (by omega) rfl
  have m2 := mulb (x := c) (y := b) 9 9 81 (by omega) (by omega) rfl
  have m3 := mulb (x := p2 - p) (y := b) 99 9 891 (by omega) (by omega) rfl
  have m4 := mulb (x := (p2 - p) * b) (y := d) 891 9 8019 (by omega) (by omega) rfl
  have m5 := mulb (x := s) (y := a) 99 9 891 (by omega) (by omega) rfl
  have m6 := mulb (x := s * a) (y := d) 891 9 8019 (by omega) (by omega) rfl
  have m7 := mulb (x := s2) (y := c) 99 9 891 (by omega) (by omega) rfl
  have m8 := mulb (x := s2 * c) (y := b) 891 9 8019 (by omega) (by omega) rfl
  have m9 := mulb (x := p) (y := b) 99 9 891 (by omega) (by omega) rfl
  have n1 := mulb (x := p * b) (y := (a * d - c * b)) 891 162 144342 (by omega) (by omega) rfl
  have n2 := mulb (x := s) (y := (a * d - c * b)) 99 162 16038 (by omega) (by omega) rfl
  have n3 := mulb (x := ((p2 - p) * b * d + s * a * d - s2 * c * b) - s * (a * d - c * b)) (y := a) 40095 9 360855 (by omega) (by omega) rfl
  have n4 := mulb (x := b) (y := (a * d - c * b)) 9 162 1458 (by omega) (by omega) rfl
  have n5 : (a * d - c * b) ≠ 0 → b * (a * d - c * b) ≠ 0 := fun z => Int.mul_ne_zero (by omega) z
  refine z_aload_n d_X12_meets_0 rfl rfl ?_
  refine z_iconst d_X12_meets_1 (by decide) ?_
  refine z_putf (fs' := [qI 0, qI (f 1), qI (f 2), qI (f 3), qI (f 4), qI (f 5), qI (f 6), qI (f 7), qR (m + 1), qR (m + 2), qR (m + 3), qR (m + 4), qR (m + 5), qR (m + 6), qR (m + 7), qR (m + 8), qR (m + 9), qR (m + 10), qI (f 18), qI (f 19), qI (f 20), qR (m + 11), qR (m + 12), qR (m + 13), qR (m + 14), qI (f 25), qR (m + 15), qI (f 27), qR (m + 16), qR (m + 17), qR (m + 18), qR (m + 19), qR (m + 20), qR (m + 21), qR (m + 22), qR (m + 23), qR (m + 24), qI (f 37), qI (f 38), qI (f 39), qI (f 40), qR (m + 25), qR (m + 26), qR (m + 27), qR (m + 28), qR (m + 29), qR (m + 30), qR (m + 31), qI (f 48), qR (m + 32), qR (m + 33), qR (m + 34), qR (m + 35), qR (m + 36), qR (m + 37)]) d_X12_meets_2 fp_X12_127 rput_o (fun _ => rfl) (fun _ => rfl) (Nat.le_of_ble_eq_true rfl) rfl ?_
  refine z_eq rfl rfl ((rput_sf (f' := qup f 0 0) rfl).trans (rput_cg (qup_self h0) rfl)) ?_
  refine z_aload_n d_X12_meets_5 rfl rfl ?_
  refine z_iload_n d_X12_meets_6 rfl rfl ?_
  refine z_cv (M1 := M_X12_isMark) d_X12_meets_7 lv_X12_404 k_X12_isMark [qI (i : Int)] rfl rfl rput_o ⟨_, _, rfl⟩ (Nat.le_of_ble_eq_true rfl) (by decide) (by decide) (Nat.le_of_ble_eq_true rfl) (c_isMark (i : Int) hm (by omega)) ?_
  refine z_ifeqB 30 d_X12_meets_10 (by decide) (fun hc1 => absurd hc1 (by omega)) (fun hc1 => ?_)
  refine z_aload_n d_X12_meets_13 rfl rfl ?_
  refine z_iload_n d_X12_meets_14 rfl rfl ?_
  refine z_cv (M1 := M_X12_isMark) d_X12_meets_15 lv_X12_404 k_X12_isMark [qI (j : Int)] rfl rfl rput_o ⟨_, _, rfl⟩ (Nat.le_of_ble_eq_true rfl) (by decide) (by decide) (Nat.le_of_ble_eq_true rfl) (c_isMark (j : Int) hm (by omega)) ?_
  refine z_ifeqB 30 d_X12_meets_18 (by decide) (fun hc2 => absurd hc2 (by omega)) (fun hc2 => ?_)
  refine z_iload_n d_X12_meets_21 rfl rfl ?_
  refine z_iconst d_X12_meets_22 (by decide) ?_
  refine z_iconst d_X12_meets_23 (by decide) ?_
  refine z_cs (M1 := M_X12_in) d_X12_meets_24 ls_X12_137 k_X12_in [qI 2, qI 0, qI 3] rfl rfl (Nat.le_of_ble_eq_true rfl) (by decide) (by decide) (Nat.le_of_ble_eq_true rfl) (c_in 2 0 3) ?_
  refine z_ifneB 34 d_X12_meets_27 (by decide) (fun hc3 => ?_) (fun hc3 => absurd hc3 (by omega))
  refine z_aload_n d_X12_meets_34 rfl rfl ?_
  refine z_getf (v := qR (m + 15)) d_X12_meets_35 fl_X12_56 rput_o rfl ?_
  refine z_iconst d_X12_meets_38 (by decide) ?_
  refine z_iload_n d_X12_meets_39 rfl rfl ?_
  refine z_imul d_X12_meets_40 (by omega) ?_
  refine z_ild (4 * i) d_X12_meets_41 (rput_a2 15 (t := 0) (n := 32) (F := (g 15)) rfl rfl rfl (by decide) (by decide)) rfl (by omega) ?_
  refine z_eq rfl (qc (qi hp) rfl) rfl ?_
  refine z_istore (ls' := [qR m, qI (i : Int), qI (j : Int), qI 2, qI p, qU, qU, qU, qU, qU, qU, qU]) d_X12_meets_42 (by decide) rfl ?_
  refine z_aload_n d_X12_meets_44 rfl rfl ?_
  refine z_getf (v := qR (m + 15)) d_X12_meets_45 fl_X12_56 rput_o rfl ?_
  refine z_iconst d_X12_meets_48 (by decide) ?_
  refine z_iload_n d_X12_meets_49 rfl rfl ?_
  refine z_imul d_X12_meets_50 (by omega) ?_
  refine z_iconst d_X12_meets_51 (by decide) ?_
  refine z_iadd d_X12_meets_52 (by omega) ?_
  refine z_ild ((4 * i) + 1) d_X12_meets_53 (rput_a2 15 (t := 0) (n := 32) (F := (g 15)) rfl rfl rfl (by decide) (by decide)) rfl (by omega) ?_
  refine z_eq rfl (qc (qi hs) rfl) rfl ?_
  refine z_istore (ls' := [qR m, qI (i : Int), qI (j : Int), qI 2, qI p, qI s, qU, qU, qU, qU, qU, qU]) d_X12_meets_54 (by decide) rfl ?_
  refine z_aload_n d_X12_meets_56 rfl rfl ?_
  refine z_getf (v := qR (m + 15)) d_X12_meets_57 fl_X12_56 rput_o rfl ?_
  refine z_iconst d_X12_meets_60 (by decide) ?_
  refine z_iload_n d_X12_meets_61 rfl rfl ?_
  refine z_imul d_X12_meets_62 (by omega) ?_
  refine z_iconst d_X12_meets_63 (by decide) ?_
  refine z_iadd d_X12_meets_64 (by omega) ?_
  refine z_ild ((4 * i) + 2) d_X12_meets_65 (rput_a2 15 (t := 0) (n := 32) (F := (g 15)) rfl rfl rfl (by decide) (by decide)) rfl (by omega) ?_
  refine z_eq rfl (qc (qi ha) rfl) rfl ?_
  refine z_istore (ls' := [qR m, qI (i : Int), qI (j : Int), qI 2, qI p, qI s, qI a, qU, qU, qU, qU, qU]) d_X12_meets_66 (by decide) rfl ?_
  refine z_aload_n d_X12_meets_68 rfl rfl ?_
  refine z_getf (v := qR (m + 15)) d_X12_meets_69 fl_X12_56 rput_o rfl ?_
  refine z_iconst d_X12_meets_72 (by decide) ?_
  refine z_iload_n d_X12_meets_73 rfl rfl ?_
  refine z_imul d_X12_meets_74 (by omega) ?_
  refine z_iconst d_X12_meets_75 (by decide) ?_
  refine z_iadd d_X12_meets_76 (by omega) ?_
  refine z_ild ((4 * i) + 3) d_X12_meets_77 (rput_a2 15 (t := 0) (n := 32) (F := (g 15)) rfl rfl rfl (by decide) (by decide)) rfl (by omega) ?_
  refine z_eq rfl (qc (qi hb) rfl) rfl ?_
  refine z_istore (ls' := [qR m, qI (i : Int), qI (j : Int), qI 2, qI p, qI s, qI a, qI b, qU, qU, qU, qU]) d_X12_meets_78 (by decide) rfl ?_
  refine z_aload_n d_X12_meets_80 rfl rfl ?_
  refine z_getf (v := qR (m + 15)) d_X12_meets_81 fl_X12_56 rput_o rfl ?_
  refine z_iconst d_X12_meets_84 (by decide) ?_
  refine z_iload_n d_X12_meets_85 rfl rfl ?_
  refine z_imul d_X12_meets_86 (by omega) ?_
  refine z_iconst d_X12_meets_87 (by decide) ?_
  refine z_iadd d_X12_meets_88 (by omega) ?_
  refine z_ild ((4 * j) + 2) d_X12_meets_89 (rput_a2 15 (t := 0) (n := 32) (F := (g 15)) rfl rfl rfl (by decide) (by decide)) rfl (by omega) ?_
  refine z_eq rfl (qc (qi hc) rfl) rfl ?_
  refine z_istore (ls' := [qR m, qI (i : Int), qI (j : Int), qI 2, qI p, qI s, qI a, qI b, qI c, qU, qU, qU]) d_X12_meets_90 (by decide) rfl ?_
  refine z_aload_n d_X12_meets_92 rfl rfl ?_
  refine z_getf (v := qR (m + 15)) d_X12_meets_93 fl_X12_56 rput_o rfl ?_
  refine z_iconst d_X12_meets_96 (by decide) ?_
  refine z_iload_n d_X12_meets_97 rfl rfl ?_
  refine z_imul d_X12_meets_98 (by omega) ?_
  refine z_iconst d_X12_meets_99 (by decide) ?_
  refine z_iadd d_X12_meets_100 (by omega) ?_
  refine z_ild ((4 * j) + 3) d_X12_meets_101 (rput_a2 15 (t := 0) (n := 32) (F := (g 15)) rfl rfl rfl (by decide) (by decide)) rfl (by omega) ?_
  refine z_eq rfl (qc (qi hd) rfl) rfl ?_
  refine z_istore (ls' := [qR m, qI (i : Int), qI (j : Int), qI 2, qI p, qI s, qI a, qI b, qI c, qI d, qU, qU]) d_X12_meets_102 (by decide) rfl ?_
  refine z_iload d_X12_meets_104 rfl ?_
  refine z_iload d_X12_meets_106 rfl ?_
  refine z_imul d_X12_meets_108 (by omega) ?_
  refine z_iload d_X12_meets_109 rfl ?_
  refine z_iload d_X12_meets_111 rfl ?_
  refine z_imul d_X12_meets_113 (by omega) ?_
  refine z_isub d_X12_meets_114 (by omega) ?_
  refine z_istore (ls' := [qR m, qI (i : Int), qI (j : Int), qI 2, qI p, qI s, qI a, qI b, qI c, qI d, qI ((a * d) - (c * b)), qU]) d_X12_meets_115 (by decide) rfl ?_
  refine z_iload d_X12_meets_117 rfl ?_
  refine z_if_ne 126 d_X12_meets_119 (by decide) (fun hz => ?_) (fun hz => ?_)
  · refine z_aload_n d_X12_meets_126 rfl rfl ?_
    refine z_getf (v := qR (m + 15)) d_X12_meets_127 fl_X12_56 rput_o rfl ?_
    refine z_iconst d_X12_meets_130 (by decide) ?_
    refine z_iload_n d_X12_meets_131 rfl rfl ?_
    refine z_imul d_X12_meets_132 (by omega) ?_
    refine z_ild (4 * j) d_X12_meets_133 (rput_a2 15 (t := 0) (n := 32) (F := (g 15)) rfl rfl rfl (by decide) (by decide)) rfl (by omega) ?_
    refine z_eq rfl (qc (qi hp2) rfl) rfl ?_
    refine z_iload d_X12_meets_134 rfl ?_
    refine z_isub d_X12_meets_136 (by omega) ?_
    refine z_iload d_X12_meets_137 rfl ?_
    refine z_imul d_X12_meets_139 (by omega) ?_
    refine z_iload d_X12_meets_140 rfl ?_
    refine z_imul d_X12_meets_142 (by omega) ?_
    refine z_iload d_X12_meets_143 rfl ?_
    refine z_iload d_X12_meets_145 rfl ?_
    refine z_imul d_X12_meets_147 (by omega) ?_
    refine z_iload d_X12_meets_148 rfl ?_
    refine z_imul d_X12_meets_150 (by omega) ?_
    refine z_iadd d_X12_meets_151 (by omega) ?_
    refine z_aload_n d_X12_meets_152 rfl rfl ?_
    refine z_getf (v := qR (m + 15)) d_X12_meets_153 fl_X12_56 rput_o rfl ?_
    refine z_iconst d_X12_meets_156 (by decide) ?_
    refine z_iload_n d_X12_meets_157 rfl rfl ?_
    refine z_imul d_X12_meets_158 (by omega) ?_
    refine z_iconst d_X12_meets_159 (by decide) ?_
    refine z_iadd d_X12_meets_160 (by omega) ?_
    refine z_ild ((4 * j) + 1) d_X12_meets_161 (rput_a2 15 (t := 0) (n := 32) (F := (g 15)) rfl rfl rfl (by decide) (by decide)) rfl (by omega) ?_
    refine z_eq rfl (qc (qi hs2) rfl) rfl ?_
    refine z_iload d_X12_meets_162 rfl ?_
    refine z_imul d_X12_meets_164 (by omega) ?_
    refine z_iload d_X12_meets_165 rfl ?_
    refine z_imul d_X12_meets_167 (by omega) ?_
    refine z_isub d_X12_meets_168 (by omega) ?_
    refine z_istore (ls' := [qR m, qI (i : Int), qI (j : Int), qI 2, qI p, qI s, qI a, qI b, qI c, qI d, qI ((a * d) - (c * b)), qI (((((p2 - p) * b) * d) + ((s * a) * d)) - ((s2 * c) * b))]) d_X12_meets_169 (by decide) rfl ?_
    refine z_iload_n d_X12_meets_171 rfl rfl ?_
    refine z_iconst d_X12_meets_172 (by decide) ?_
    refine z_icmp_ge 193 d_X12_meets_173 (by decide) (fun hc4 => ?_) (fun hc4 => absurd (by decide) hc4)
    refine z_iload d_X12_meets_193 rfl ?_
    refine z_iload d_X12_meets_195 rfl ?_
    refine z_imul d_X12_meets_197 (by omega) ?_
    refine z_iload d_X12_meets_198 rfl ?_
    refine z_imul d_X12_meets_200 (by omega) ?_
    refine z_iload d_X12_meets_201 rfl ?_
    refine z_iload d_X12_meets_203 rfl ?_
    refine z_iload d_X12_meets_205 rfl ?_
    refine z_imul d_X12_meets_207 (by omega) ?_
    refine z_isub d_X12_meets_208 (by omega) ?_
    refine z_iload d_X12_meets_209 rfl ?_
    refine z_imul d_X12_meets_211 (by omega) ?_
    refine z_iadd d_X12_meets_212 (by omega) ?_
    refine z_iload d_X12_meets_213 rfl ?_
    refine z_iload d_X12_meets_215 rfl ?_
    refine z_imul d_X12_meets_217 (by omega) ?_
    refine z_iload_n d_X12_meets_218 rfl rfl ?_
    refine z_iconst d_X12_meets_219 (by decide) ?_
    refine z_icmp_ne 227 d_X12_meets_220 (by decide) (fun hc5 => absurd hc5 (by decide)) (fun hc5 => ?_)
    refine z_iconst d_X12_meets_223 (by decide) ?_
    refine z_goto 228 d_X12_meets_224 (by decide) ?_
    refine z_cs (M1 := M_X12_lowest) d_X12_meets_228 ls_X12_408 k_X12_lowest [qI (((p * b) * ((a * d) - (c * b))) + (((((((p2 - p) * b) * d) + ((s * a) * d)) - ((s2 * c) * b)) - (s * ((a * d) - (c * b)))) * a)), qI (b * ((a * d) - (c * b))), qI 1] rfl rfl (Nat.le_of_ble_eq_true rfl) (by decide) (by decide) (Nat.le_of_ble_eq_true rfl) (c_lowest1 (((p * b) * ((a * d) - (c * b))) + (((((((p2 - p) * b) * d) + ((s * a) * d)) - ((s2 * c) * b)) - (s * ((a * d) - (c * b)))) * a)) (b * ((a * d) - (c * b))) (by omega) (by omega) (by omega)) ?_
    exact z_iret d_X12_meets_231 rfl (qer er (qif_f (by omega))) eh
  · refine z_ldcw (n := -10000000) d_X12_meets_122 ct_X12_407 (by decide) (by decide) ?_
    exact z_iret d_X12_meets_125 rfl (qer er (qif_t (by omega))) eh
set_option maxRecDepth 20000 in
set_option maxHeartbeats 4000000 in
theorem c_meets3 {h : qH} {m : Nat} {f : Nat → Int} {g : Nat → Nat → Int} {K : Nat} (i j : Nat) {p s a b p2 s2 c d : Int} (hm : 2 ≤ m) (h0 : f 0 = 0) (hM : f 27 = (K : Int)) (hK : K ≤ 8) (hi : i < K) (hj : j < K) (hp : g 15 (4 * i) = p) (hs : g 15 (4 * i + 1) = s) (ha : g 15 (4 * i + 2) = a) (hb : g 15 (4 * i + 3) = b) (hp2 : g 15 (4 * j) = p2) (hs2 : g 15 (4 * j + 1) = s2) (hc : g 15 (4 * j + 2) = c) (hd : g 15 (4 * j + 3) = d) (bp : 0 ≤ p ∧ p ≤ 99) (bs : 0 ≤ s ∧ s ≤ 99) (ba : -9 ≤ a ∧ a ≤ 9) (bb : 1 ≤ b ∧ b ≤ 9) (bp2 : 0 ≤ p2 ∧ p2 ≤ 99) (bs2 : 0 ≤ s2 ∧ s2 ≤ 99) (bc : -9 ≤ c ∧ c ≤ 9) (bd : 1 ≤ d ∧ d ≤ 9) : qEx M_X12_meets 0 [qR m, qI (i : Int), qI (j : Int), qI 3, qU, qU, qU, qU, qU, qU, qU, qU] [] (rput h m f g) (some (qI (qif ((a * d - c * b) = 0) (-10000000) (lowR (p * b * (a * d - c * b) + (((p2 - p) * b * d + s * a * d - s2 * c * b) - s * (a * d - c * b)) * a) (b * (a * d - c * b)) 0)))) (rput h m f g) := by
  refine q_gen (fun r hr er eh => ?_)
  have m1 := mulb (x := a) (y := d) 9 9 81 (by omega) (by omega) rfl
  have m2 := mulb (x := c) (y := b) 9 9 81 (by omega) (by omega) rfl
  have m3 := mulb (x := p2 - p) (y := b) 99 9 891 (by omega) (by omega) rfl
  have m4 := mulb (x := (p2 - p) * b) (y := d) 891 9 8019 (by omega) (by omega) rfl
  have m5 := mulb (x := s) (y := a) 99 9 891 (by omega) (by omega) rfl
  have m6 := mulb (x := s * a) (y := d) 891 9 8019 (by omega) (by omega) rfl
  have m7 := mulb (x := s2) (y := c) 99 9 891 (by omega) (by omega) rfl
  have m8 := mulb (x := s2 * c) (y := b) 891 9 8019 (by omega) (by omega) rfl
  have m9 := mulb (x := p) (y := b) 99 9 891 (by omega) (by omega) rfl
  have n1 := mulb (x := p * b) (y := (a * d - c * b)) 891 162 144342 (by omega) (by omega) rfl
  have n2 := mulb (x := s) (y := (a * d - c * b)) 99 162 16038 (by omega) (by omega) rfl
  have n3 := mulb (x := ((p2 - p) * b * d + s * a * d - s2 * c * b) - s * (a * d - c * b)) (y := a) 40095 9 360855 (by omega) (by omega) rfl
  have n4 := mulb (x := b) (y := (a * d - c * b)) 9 162 1458 (by omega) (by omega) rfl
  have n5 : (a * d - c * b) ≠ 0 → b * (a * d - c * b) ≠ 0 := fun z => Int.mul_ne_zero (by omega) z
  refine z_aload_n d_X12_meets_0 rfl rfl ?_
  refine z_iconst d_X12_meets_1 (by decide) ?_
  refine z_putf (fs' := [qI 0, qI (f 1), qI (f 2), qI (f 3), qI (f 4), qI (f 5), qI (f 6), qI (f 7), qR (m + 1), qR (m + 2), qR (m + 3), qR (m + 4), qR (m + 5), qR (m + 6), qR (m + 7), qR (m + 8), qR (m + 9), qR (m + 10), qI (f 18), qI (f 19), qI (f 20), qR (m + 11), qR (m + 12), qR (m + 13), qR (m + 14), qI (f 25), qR (m + 15), qI (f 27), qR (m + 16), qR (m + 17), qR (m + 18), qR (m + 19), qR (m + 20), qR (m + 21), qR (m + 22), qR (m + 23), qR (m + 24), qI (f 37), qI (f 38), qI (f 39), qI (f 40), qR (m + 25), qR (m + 26), qR (m + 27), qR (m + 28), qR (m + 29), qR (m + 30), qR (m + 31), qI (f 48), qR (m + 32), qR (m + 33), qR (m + 34), qR (m + 35), qR (m + 36), qR (m + 37)]) d_X12_meets_2 fp_X12_127 rput_o (fun _ => rfl) (fun _ => rfl) (Nat.le_of_ble_eq_true rfl) rfl ?_
  refine z_eq rfl rfl ((rput_sf (f' := qup f 0 0) rfl).trans (rput_cg (qup_self h0) rfl)) ?_
  refine z_aload_n d_X12_meets_5 rfl rfl ?_
  refine z_iload_n d_X12_meets_6 rfl rfl ?_
  refine z_cv (M1 := M_X12_isMark) d_X12_meets_7 lv_X12_404 k_X12_isMark [qI (i : Int)] rfl rfl rput_o ⟨_, _, rfl⟩ (Nat.le_of_ble_eq_true rfl) (by decide) (by decide) (Nat.le_of_ble_eq_true rfl) (c_isMark (i : Int) hm (by omega)) ?_
  refine z_ifeqB 30 d_X12_meets_10 (by decide) (fun hc1 => absurd hc1 (by omega)) (fun hc1 => ?_)
  refine z_aload_n d_X12_meets_13 rfl rfl ?_
  refine z_iload_n d_X12_meets_14 rfl rfl ?_
  refine z_cv (M1 := M_X12_isMark) d_X12_meets_15 lv_X12_404 k_X12_isMark [qI (j : Int)] rfl rfl rput_o ⟨_, _, rfl⟩ (Nat.le_of_ble_eq_true rfl) (by decide) (by decide) (Nat.le_of_ble_eq_true rfl) (c_isMark (j : Int) hm (by omega)) ?_
  refine z_ifeqB 30 d_X12_meets_18 (by decide) (fun hc2 => absurd hc2 (by omega)) (fun hc2 => ?_)
  refine z_iload_n d_X12_meets_21 rfl rfl ?_
  refine z_iconst d_X12_meets_22 (by decide) ?_
  refine z_iconst d_X12_meets_23 (by decide) ?_
  refine z_cs (M1 := M_X12_in) d_X12_meets_24 ls_X12_137 k_X12_in [qI 3, qI 0, qI 3] rfl rfl (Nat.le_of_ble_eq_true rfl) (by decide) (by decide) (Nat.le_of_ble_eq_true rfl) (c_in 3 0 3) ?_
  refine z_ifneB 34 d_X12_meets_27 (by decide) (fun hc3 => ?_) (fun hc3 => absurd hc3 (by omega))
  refine z_aload_n d_X12_meets_34 rfl rfl ?_
  refine z_getf (v := qR (m + 15)) d_X12_meets_35 fl_X12_56 rput_o rfl ?_
  refine z_iconst d_X12_meets_38 (by decide) ?_
  refine z_iload_n d_X12_meets_39 rfl rfl ?_
  refine z_imul d_X12_meets_40 (by omega) ?_
  refine z_ild (4 * i) d_X12_meets_41 (rput_a2 15 (t := 0) (n := 32) (F := (g 15)) rfl rfl rfl (by decide) (by decide)) rfl (by omega) ?_
  refine z_eq rfl (qc (qi hp) rfl) rfl ?_
  refine z_istore (ls' := [qR m, qI (i : Int), qI (j : Int), qI 3, qI p, qU, qU, qU, qU, qU, qU, qU]) d_X12_meets_42 (by decide) rfl ?_
  refine z_aload_n d_X12_meets_44 rfl rfl ?_
  refine z_getf (v := qR (m + 15)) d_X12_meets_45 fl_X12_56 rput_o rfl ?_
  refine z_iconst d_X12_meets_48 (by decide) ?_
  refine z_iload_n d_X12_meets_49 rfl rfl ?_
  refine z_imul d_X12_meets_50 (by omega) ?_
  refine z_iconst d_X12_meets_51 (by decide) ?_
  refine z_iadd d_X12_meets_52 (by omega) ?_
  refine z_ild ((4 * i) + 1) d_X12_meets_53 (rput_a2 15 (t := 0) (n := 32) (F := (g 15)) rfl rfl rfl (by decide) (by decide)) rfl (by omega) ?_
  refine z_eq rfl (qc (qi hs) rfl) rfl ?_
  refine z_istore (ls' := [qR m, qI (i : Int), qI (j : Int), qI 3, qI p, qI s, qU, qU, qU, qU, qU, qU]) d_X12_meets_54 (by decide) rfl ?_
  refine z_aload_n d_X12_meets_56 rfl rfl ?_
  refine z_getf (v := qR (m + 15)) d_X12_meets_57 fl_X12_56 rput_o rfl ?_
  refine z_iconst d_X12_meets_60 (by decide) ?_
  refine z_iload_n d_X12_meets_61 rfl rfl ?_
  refine z_imul d_X12_meets_62 (by omega) ?_
  refine z_iconst d_X12_meets_63 (by decide) ?_
  refine z_iadd d_X12_meets_64 (by omega) ?_
  refine z_ild ((4 * i) + 2) d_X12_meets_65 (rput_a2 15 (t := 0) (n := 32) (F := (g 15)) rfl rfl rfl (by decide) (by decide)) rfl (by omega) ?_
  refine z_eq rfl (qc (qi ha) rfl) rfl ?_
  refine z_istore (ls' := [qR m, qI (i : Int), qI (j : Int), qI 3, qI p, qI s, qI a, qU, qU, qU, qU, qU]) d_X12_meets_66 (by decide) rfl ?_
  refine z_aload_n d_X12_meets_68 rfl rfl ?_
  refine z_getf (v := qR (m + 15)) d_X12_meets_69 fl_X12_56 rput_o rfl ?_
  refine z_iconst d_X12_meets_72 (by decide) ?_
  refine z_iload_n d_X12_meets_73 rfl rfl ?_
  refine z_imul d_X12_meets_74 (by omega) ?_
  refine z_iconst d_X12_meets_75 (by decide) ?_
  refine z_iadd d_X12_meets_76 (by omega) ?_
  refine z_ild ((4 * i) + 3) d_X12_meets_77 (rput_a2 15 (t := 0) (n := 32) (F := (g 15)) rfl rfl rfl (by decide) (by decide)) rfl (by omega) ?_
  refine z_eq rfl (qc (qi hb) rfl) rfl ?_
  refine z_istore (ls' := [qR m, qI (i : Int), qI (j : Int), qI 3, qI p, qI s, qI a, qI b, qU, qU, qU, qU]) d_X12_meets_78 (by decide) rfl ?_
  refine z_aload_n d_X12_meets_80 rfl rfl ?_
  refine z_getf (v := qR (m + 15)) d_X12_meets_81 fl_X12_56 rput_o rfl ?_
  refine z_iconst d_X12_meets_84 (by decide) ?_
  refine z_iload_n d_X12_meets_85 rfl rfl ?_
  refine z_imul d_X12_meets_86 (by omega) ?_
  refine z_iconst d_X12_meets_87 (by decide) ?_
  refine z_iadd d_X12_meets_88 (by omega) ?_
  refine z_ild ((4 * j) + 2) d_X12_meets_89 (rput_a2 15 (t := 0) (n := 32) (F := (g 15)) rfl rfl rfl (by decide) (by decide)) rfl (by omega) ?_
  refine z_eq rfl (qc (qi hc) rfl) rfl ?_
  refine z_istore (ls' := [qR m, qI (i : Int), qI (j : Int), qI 3, qI p, qI s, qI a, qI b, qI c, qU, qU, qU]) d_X12_meets_90 (by decide) rfl ?_
  refine z_aload_n d_X12_meets_92 rfl rfl ?_
  refine z_getf (v := qR (m + 15)) d_X12_meets_93 fl_X12_56 rput_o rfl ?_
  refine z_iconst d_X12_meets_96 (by decide) ?_
  refine z_iload_n d_X12_meets_97 rfl rfl ?_
  refine z_imul d_X12_meets_98 (by omega) ?_
  refine z_iconst d_X12_meets_99 (by decide) ?_
  refine z_iadd d_X12_meets_100 (by omega) ?_
  refine z_ild ((4 * j) + 3) d_X12_meets_101 (rput_a2 15 (t := 0) (n := 32) (F := (g 15)) rfl rfl rfl (by decide) (by decide)) rfl (by omega) ?_
  refine z_eq rfl (qc (qi hd) rfl) rfl ?_
  refine z_istore (ls' := [qR m, qI (i : Int), qI (j : Int), qI 3, qI p, qI s, qI a, qI b, qI c, qI d, qU, qU]) d_X12_meets_102 (by decide) rfl ?_
  refine z_iload d_X12_meets_104 rfl ?_
  refine z_iload d_X12_meets_106 rfl ?_
  refine z_imul d_X12_meets_108 (by omega) ?_
  refine z_iload d_X12_meets_109 rfl ?_
  refine z_iload d_X12_meets_111 rfl ?_
  refine z_imul d_X12_meets_113 (by omega) ?_
  refine z_isub d_X12_meets_114 (by omega) ?_
  refine z_istore (ls' := [qR m, qI (i : Int), qI (j : Int), qI 3, qI p, qI s, qI a, qI b, qI c, qI d, qI ((a * d) - (c * b)), qU]) d_X12_meets_115 (by decide) rfl ?_
  refine z_iload d_X12_meets_117 rfl ?_
  refine z_if_ne 126 d_X12_meets_119 (by decide) (fun hz => ?_) (fun hz => ?_)
  · refine z_aload_n d_X12_meets_126 rfl rfl ?_
    refine z_getf (v := qR (m + 15)) d_X12_meets_127 fl_X12_56 rput_o rfl ?_
    refine z_iconst d_X12_meets_130 (by decide) ?_
    refine z_iload_n d_X12_meets_131 rfl rfl ?_
    refine z_imul d_X12_meets_132 (by omega) ?_
    refine z_ild (4 * j) d_X12_meets_133 (rput_a2 15 (t := 0) (n := 32) (F := (g 15)) rfl rfl rfl (by decide) (by decide)) rfl (by omega) ?_
    refine z_eq rfl (qc (qi hp2) rfl) rfl ?_
    refine z_iload d_X12_meets_134 rfl ?_
    refine z_isub d_X12_meets_136 (by omega) ?_
    refine z_iload d_X12_meets_137 rfl ?_
    refine z_imul d_X12_meets_139 (by omega) ?_
    refine z_iload d_X12_meets_140 rfl ?_
    refine z_imul d_X12_meets_142 (by omega) ?_
    refine z_iload d_X12_meets_143 rfl ?_
    refine z_iload d_X12_meets_145 rfl ?_
    refine z_imul d_X12_meets_147 (by omega) ?_
    refine z_iload d_X12_meets_148 rfl ?_
    refine z_imul d_X12_meets_150 (by omega) ?_
    refine z_iadd d_X12_meets_151 (by omega) ?_
    refine z_aload_n d_X12_meets_152 rfl rfl ?_
    refine z_getf (v := qR (m + 15)) d_X12_meets_153 fl_X12_56 rput_o rfl ?_
    refine z_iconst d_X12_meets_156 (by decide) ?_
    refine z_iload_n d_X12_meets_157 rfl rfl ?_
    refine z_imul d_X12_meets_158 (by omega) ?_
    refine z_iconst d_X12_meets_159 (by decide) ?_
    refine z_iadd d_X12_meets_160 (by omega) ?_
    refine z_ild ((4 * j) + 1) d_X12_meets_161 (rput_a2 15 (t := 0) (n := 32) (F := (g 15)) rfl rfl rfl (by decide) (by decide)) rfl (by omega) ?_
    refine z_eq rfl (qc (qi hs2) rfl) rfl ?_
    refine z_iload d_X12_meets_162 rfl ?_
    refine z_imul d_X12_meets_164 (by omega) ?_
    refine z_iload d_X12_meets_165 rfl ?_
    refine z_imul d_X12_meets_167 (by omega) ?_
    refine z_isub d_X12_meets_168 (by omega) ?_
    refine z_istore (ls' := [qR m, qI (i : Int), qI (j : Int), qI 3, qI p, qI s, qI a, qI b, qI c, qI d, qI ((a * d) - (c * b)), qI (((((p2 - p) * b) * d) + ((s * a) * d)) - ((s2 * c) * b))]) d_X12_meets_169 (by decide) rfl ?_
    refine z_iload_n d_X12_meets_171 rfl rfl ?_
    refine z_iconst d_X12_meets_172 (by decide) ?_
    refine z_icmp_ge 193 d_X12_meets_173 (by decide) (fun hc4 => ?_) (fun hc4 => absurd (by decide) hc4)
    refine z_iload d_X12_meets_193 rfl ?_
    refine z_iload d_X12_meets_195 rfl ?_
    refine z_imul d_X12_meets_197 (by omega) ?_
    refine z_iload d_X12_meets_198 rfl ?_
    refine z_imul d_X12_meets_200 (by omega) ?_
    refine z_iload d_X12_meets_201 rfl ?_
    refine z_iload d_X12_meets_203 rfl ?_
    refine z_iload d_X12_meets_205 rfl ?_
    refine z_imul d_X12_meets_207 (by omega) ?_
    refine z_isub d_X12_meets_208 (by omega) ?_
    refine z_iload d_X12_meets_209 rfl ?_
    refine z_imul d_X12_meets_211 (by omega) ?_
    refine z_iadd d_X12_meets_212 (by omega) ?_
    refine z_iload d_X12_meets_213 rfl ?_
    refine z_iload d_X12_meets_215 rfl ?_
    refine z_imul d_X12_meets_217 (by omega) ?_
    refine z_iload_n d_X12_meets_218 rfl rfl ?_
    refine z_iconst d_X12_meets_219 (by decide) ?_
    refine z_icmp_ne 227 d_X12_meets_220 (by decide) (fun hc5 => ?_) (fun hc5 => absurd (by decide) hc5)
    refine z_iconst d_X12_meets_227 (by decide) ?_
    refine z_cs (M1 := M_X12_lowest) d_X12_meets_228 ls_X12_408 k_X12_lowest [qI (((p * b) * ((a * d) - (c * b))) + (((((((p2 - p) * b) * d) + ((s * a) * d)) - ((s2 * c) * b)) - (s * ((a * d) - (c * b)))) * a)), qI (b * ((a * d) - (c * b))), qI 0] rfl rfl (Nat.le_of_ble_eq_true rfl) (by decide) (by decide) (Nat.le_of_ble_eq_true rfl) (c_lowest0 (((p * b) * ((a * d) - (c * b))) + (((((((p2 - p) * b) * d) + ((s * a) * d)) - ((s2 * c) * b)) - (s * ((a * d) - (c * b)))) * a)) (b * ((a * d) - (c * b))) (by omega) (by omega) (by omega)) ?_
    exact z_iret d_X12_meets_231 rfl (qer er (qif_f (by omega))) eh
  · refine z_ldcw (n := -10000000) d_X12_meets_122 ct_X12_407 (by decide) (by decide) ?_
    exact z_iret d_X12_meets_125 rfl (qer er (qif_t (by omega))) eh
theorem q_fm2 {x y : Int} (hy : 0 < y) : qif (x.tmod y ≥ 0) (x.tmod y) (x.tmod y + y) = x % y := by
  have hf := q_fm (x := x) hy
  by_cases h : 0 ≤ x
  · rw [qif_t (Int.tmod_nonneg y h)]
    exact (hf.1 h).symm
  · have h1 := Int.tmod_nonneg y (show 0 ≤ -x by omega)
    rw [Int.neg_tmod] at h1
    by_cases h0 : x.tmod y = 0
    · rw [qif_t (by omega), h0]
      exact (hf.2.1 (by omega) h0).symm
    · rw [qif_f (by omega)]
      exact (hf.2.2 (by omega) h0).symm
set_option maxRecDepth 20000 in
set_option maxHeartbeats 4000000 in
theorem c_echo_no {h : qH} {m : Nat} {f : Nat → Int} {g : Nat → Nat → Int} {K : Nat} (i n t what : Int) (hm : 2 ≤ m) (h0 : f 0 = 0) (hM : f 27 = (K : Int)) (hK : K ≤ 8) (hno : ¬ ((0 ≤ i ∧ i < K) ∧ (2 ≤ n ∧ n ≤ 99) ∧ (0 ≤ t ∧ t ≤ 999) ∧ 0 ≤ what ∧ what ≤ 1)) : qEx M_X12_echo 0 [qR m, qI i, qI n, qI t, qI what, qU, qU, qU] [] (rput h m f g) (some (qI (-10000000))) (rput h m f g) := by
  refine q_gen (fun r hr er eh => ?_)
  refine z_aload_n d_X12_echo_0 rfl rfl ?_
  refine z_iconst d_X12_echo_1 (by decide) ?_
  refine z_putf (fs' := [qI 0, qI (f 1), qI (f 2), qI (f 3), qI (f 4), qI (f 5), qI (f 6), qI (f 7), qR (m + 1), qR (m + 2), qR (m + 3), qR (m + 4), qR (m + 5), qR (m + 6), qR (m + 7), qR (m + 8), qR (m + 9), qR (m + 10), qI (f 18), qI (f 19), qI (f 20), qR (m + 11), qR (m + 12), qR (m + 13), qR (m + 14), qI (f 25), qR (m + 15), qI (f 27), qR (m + 16), qR (m + 17), qR (m + 18), qR (m + 19), qR (m + 20), qR (m + 21), qR (m + 22), qR (m + 23), qR (m + 24), qI (f 37), qI (f 38), qI (f 39), qI (f 40), qR (m + 25), qR (m + 26), qR (m + 27), qR (m + 28), qR (m + 29), qR (m + 30), qR (m + 31), qI (f 48), qR (m + 32), qR (m + 33), qR (m + 34), qR (m + 35), qR (m + 36), qR (m + 37)]) d_X12_echo_2 fp_X12_127 rput_o (fun _ => rfl) (fun _ => rfl) (Nat.le_of_ble_eq_true rfl) rfl ?_
  refine z_eq rfl rfl ((rput_sf (f' := qup f 0 0) rfl).trans (rput_cg (qup_self h0) rfl)) ?_
  refine z_aload_n d_X12_echo_5 rfl rfl ?_
  refine z_iload_n d_X12_echo_6 rfl rfl ?_
  refine z_cv (M1 := M_X12_isMark) d_X12_echo_7 lv_X12_404 k_X12_isMark [qI i] rfl rfl rput_o ⟨_, _, rfl⟩ (Nat.le_of_ble_eq_true rfl) (by decide) (by decide) (Nat.le_of_ble_eq_true rfl) (c_isMark i hm (by omega)) ?_
  refine z_ifeqB 58 d_X12_echo_10 (by decide) (fun hc1 => ?_) (fun hc1 => ?_)
  · refine z_ldcw (n := -10000000) d_X12_echo_58 ct_X12_407 (by decide) (by decide) ?_
    exact z_iret d_X12_echo_61 rfl er eh
  · refine z_iload_n d_X12_echo_13 rfl rfl ?_
    refine z_iconst d_X12_echo_14 (by decide) ?_
    refine z_bipush d_X12_echo_15 (by decide) ?_
    refine z_cs (M1 := M_X12_in) d_X12_echo_17 ls_X12_137 k_X12_in [qI n, qI 2, qI 99] rfl rfl (Nat.le_of_ble_eq_true rfl) (by decide) (by decide) (Nat.le_of_ble_eq_true rfl) (c_in n 2 99) ?_
    refine z_ifeqB 58 d_X12_echo_20 (by decide) (fun hc2 => ?_) (fun hc2 => ?_)
    · refine z_ldcw (n := -10000000) d_X12_echo_58 ct_X12_407 (by decide) (by decide) ?_
      exact z_iret d_X12_echo_61 rfl er eh
    · refine z_iload_n d_X12_echo_23 rfl rfl ?_
      refine z_iconst d_X12_echo_24 (by decide) ?_
      refine z_sipush d_X12_echo_25 (by decide) ?_
      refine z_cs (M1 := M_X12_in) d_X12_echo_28 ls_X12_137 k_X12_in [qI t, qI 0, qI 999] rfl rfl (Nat.le_of_ble_eq_true rfl) (by decide) (by decide) (Nat.le_of_ble_eq_true rfl) (c_in t 0 999) ?_
      refine z_ifeqB 58 d_X12_echo_31 (by decide) (fun hc3 => ?_) (fun hc3 => ?_)
      · refine z_ldcw (n := -10000000) d_X12_echo_58 ct_X12_407 (by decide) (by decide) ?_
        exact z_iret d_X12_echo_61 rfl er eh
      · refine z_iload d_X12_echo_34 rfl ?_
        refine z_iconst d_X12_echo_36 (by decide) ?_
        refine z_iconst d_X12_echo_37 (by decide) ?_
        refine z_cs (M1 := M_X12_in) d_X12_echo_38 ls_X12_137 k_X12_in [qI what, qI 0, qI 1] rfl rfl (Nat.le_of_ble_eq_true rfl) (by decide) (by decide) (Nat.le_of_ble_eq_true rfl) (c_in what 0 1) ?_
        refine z_ifeqB 58 d_X12_echo_41 (by decide) (fun hc4 => ?_) (fun hc4 => ?_)
        · refine z_ldcw (n := -10000000) d_X12_echo_58 ct_X12_407 (by decide) (by decide) ?_
          exact z_iret d_X12_echo_61 rfl er eh
        · exact absurd (by omega) hno
set_option maxRecDepth 20000 in
set_option maxHeartbeats 4000000 in
theorem c_echo0 {h : qH} {m : Nat} {f : Nat → Int} {g : Nat → Nat → Int} {K : Nat} (i n : Nat) (t : Int) {p a b : Int} (hm : 2 ≤ m) (h0 : f 0 = 0) (hM : f 27 = (K : Int)) (hK : K ≤ 8) (hi : i < K) (hn : 2 ≤ n ∧ n ≤ 99) (ht : 0 ≤ t ∧ t ≤ 999) (hp : g 15 (4 * i) = p) (ha : g 15 (4 * i + 2) = a) (hb : g 15 (4 * i + 3) = b) (bp : 0 ≤ p ∧ p ≤ 99) (ba : -9 ≤ a ∧ a ≤ 9) (bb : 1 ≤ b ∧ b ≤ 9) : qEx M_X12_echo 0 [qR m, qI (i : Int), qI (n : Int), qI t, qI 0, qU, qU, qU] [] (rput h m f g) (some (qI (qif (p > (n : Int) - 1) (-10000000) (lowR (if ((p * b + t * a) % (2 * (((n : Int) - 1) * b))) > (((n : Int) - 1) * b) then 2 * (((n : Int) - 1) * b) - ((p * b + t * a) % (2 * (((n : Int) - 1) * b))) else ((p * b + t * a) % (2 * (((n : Int) - 1) * b)))) b 1)))) (rput h m f g) := by
  refine q_gen (fun r hr er eh => ?_)
  have m1 := mulb (x := (n : Int) - 1) (y := b) 98 9 882 (by omega) (by omega) rfl
  have m2 : 0 < (((n : Int) - 1) * b) := Int.mul_pos (by omega) (by omega)
  have m3 := mulb (x := p) (y := b) 99 9 891 (by omega) (by omega) rfl
  have m4 := mulb (x := t) (y := a) 999 9 8991 (by omega) (by omega) rfl
  have t1 := Int.tmod_lt_of_pos (p * b + t * a) (show 0 < 2 * (((n : Int) - 1) * b) by omega)
  have t2 := Int.lt_tmod_of_pos (p * b + t * a) (show 0 < 2 * (((n : Int) - 1) * b) by omega)
  have t3 := Int.emod_nonneg (p * b + t * a) (show 2 * (((n : Int) - 1) * b) ≠ 0 by omega)
  have t4 := Int.emod_lt_of_pos (p * b + t * a) (show 0 < 2 * (((n : Int) - 1) * b) by omega)
  refine z_aload_n d_X12_echo_0 rfl rfl ?_
  refine z_iconst d_X12_echo_1 (by decide) ?_
  refine z_putf (fs' := [qI 0, qI (f 1), qI (f 2), qI (f 3), qI (f 4), qI (f 5), qI (f 6), qI (f 7), qR (m + 1), qR (m + 2), qR (m + 3), qR (m + 4), qR (m + 5), qR (m + 6), qR (m + 7), qR (m + 8), qR (m + 9), qR (m + 10), qI (f 18), qI (f 19), qI (f 20), qR (m + 11), qR (m + 12), qR (m + 13), qR (m + 14), qI (f 25), qR (m + 15), qI (f 27), qR (m + 16), qR (m + 17), qR (m + 18), qR (m + 19), qR (m + 20), qR (m + 21), qR (m + 22), qR (m + 23), qR (m + 24), qI (f 37), qI (f 38), qI (f 39), qI (f 40), qR (m + 25), qR (m + 26), qR (m + 27), qR (m + 28), qR (m + 29), qR (m + 30), qR (m + 31), qI (f 48), qR (m + 32), qR (m + 33), qR (m + 34), qR (m + 35), qR (m + 36), qR (m + 37)]) d_X12_echo_2 fp_X12_127 rput_o (fun _ => rfl) (fun _ => rfl) (Nat.le_of_ble_eq_true rfl) rfl ?_
  refine z_eq rfl rfl ((rput_sf (f' := qup f 0 0) rfl).trans (rput_cg (qup_self h0) rfl)) ?_
  refine z_aload_n d_X12_echo_5 rfl rfl ?_
  refine z_iload_n d_X12_echo_6 rfl rfl ?_
  refine z_cv (M1 := M_X12_isMark) d_X12_echo_7 lv_X12_404 k_X12_isMark [qI (i : Int)] rfl rfl rput_o ⟨_, _, rfl⟩ (Nat.le_of_ble_eq_true rfl) (by decide) (by decide) (Nat.le_of_ble_eq_true rfl) (c_isMark (i : Int) hm (by omega)) ?_
  refine z_ifeqB 58 d_X12_echo_10 (by decide) (fun hc1 => absurd hc1 (by omega)) (fun hc1 => ?_)
  refine z_iload_n d_X12_echo_13 rfl rfl ?_
  refine z_iconst d_X12_echo_14 (by decide) ?_
  refine z_bipush d_X12_echo_15 (by decide) ?_
  refine z_cs (M1 := M_X12_in) d_X12_echo_17 ls_X12_137 k_X12_in [qI (n : Int), qI 2, qI 99] rfl rfl (Nat.le_of_ble_eq_true rfl) (by decide) (by decide) (Nat.le_of_ble_eq_true rfl) (c_in (n : Int) 2 99) ?_
  refine z_ifeqB 58 d_X12_echo_20 (by decide) (fun hc2 => absurd hc2 (by omega)) (fun hc2 => ?_)
  refine z_iload_n d_X12_echo_23 rfl rfl ?_
  refine z_iconst d_X12_echo_24 (by decide) ?_
  refine z_sipush d_X12_echo_25 (by decide) ?_
  refine z_cs (M1 := M_X12_in) d_X12_echo_28 ls_X12_137 k_X12_in [qI t, qI 0, qI 999] rfl rfl (Nat.le_of_ble_eq_true rfl) (by decide) (by decide) (Nat.le_of_ble_eq_true rfl) (c_in t 0 999) ?_
  refine z_ifeqB 58 d_X12_echo_31 (by decide) (fun hc3 => absurd hc3 (by omega)) (fun hc3 => ?_)
  refine z_iload d_X12_echo_34 rfl ?_
  refine z_iconst d_X12_echo_36 (by decide) ?_
  refine z_iconst d_X12_echo_37 (by decide) ?_
  refine z_cs (M1 := M_X12_in) d_X12_echo_38 ls_X12_137 k_X12_in [qI 0, qI 0, qI 1] rfl rfl (Nat.le_of_ble_eq_true rfl) (by decide) (by decide) (Nat.le_of_ble_eq_true rfl) (c_in 0 0 1) ?_
  refine z_ifeqB 58 d_X12_echo_41 (by decide) (fun hc4 => absurd hc4 (by omega)) (fun hc4 => ?_)
  refine z_aload_n d_X12_echo_44 rfl rfl ?_
  refine z_getf (v := qR (m + 15)) d_X12_echo_45 fl_X12_56 rput_o rfl ?_
  refine z_iconst d_X12_echo_48 (by decide) ?_
  refine z_iload_n d_X12_echo_49 rfl rfl ?_
  refine z_imul d_X12_echo_50 (by omega) ?_
  refine z_ild (4 * i) d_X12_echo_51 (rput_a2 15 (t := 0) (n := 32) (F := (g 15)) rfl rfl rfl (by decide) (by decide)) rfl (by omega) ?_
  refine z_eq rfl (qc (qi hp) rfl) rfl ?_
  refine z_iload_n d_X12_echo_52 rfl rfl ?_
  refine z_iconst d_X12_echo_53 (by decide) ?_
  refine z_isub d_X12_echo_54 (by omega) ?_
  refine z_icmp_le 62 d_X12_echo_55 (by decide) (fun hz => ?_) (fun hz => ?_)
  · refine z_aload_n d_X12_echo_62 rfl rfl ?_
    refine z_getf (v := qR (m + 15)) d_X12_echo_63 fl_X12_56 rput_o rfl ?_
    refine z_iconst d_X12_echo_66 (by decide) ?_
    refine z_iload_n d_X12_echo_67 rfl rfl ?_
    refine z_imul d_X12_echo_68 (by omega) ?_
    refine z_iconst d_X12_echo_69 (by decide) ?_
    refine z_iadd d_X12_echo_70 (by omega) ?_
    refine z_ild ((4 * i) + 3) d_X12_echo_71 (rput_a2 15 (t := 0) (n := 32) (F := (g 15)) rfl rfl rfl (by decide) (by decide)) rfl (by omega) ?_
    refine z_eq rfl (qc (qi hb) rfl) rfl ?_
    refine z_istore (ls' := [qR m, qI (i : Int), qI (n : Int), qI t, qI 0, qI b, qU, qU]) d_X12_echo_72 (by decide) rfl ?_
    refine z_iload_n d_X12_echo_74 rfl rfl ?_
    refine z_iconst d_X12_echo_75 (by decide) ?_
    refine z_isub d_X12_echo_76 (by omega) ?_
    refine z_iload d_X12_echo_77 rfl ?_
    refine z_imul d_X12_echo_79 (by omega) ?_
    refine z_istore (ls' := [qR m, qI (i : Int), qI (n : Int), qI t, qI 0, qI b, qI (((n : Int) - 1) * b), qU]) d_X12_echo_80 (by decide) rfl ?_
    refine z_aload_n d_X12_echo_82 rfl rfl ?_
    refine z_getf (v := qR (m + 15)) d_X12_echo_83 fl_X12_56 rput_o rfl ?_
    refine z_iconst d_X12_echo_86 (by decide) ?_
    refine z_iload_n d_X12_echo_87 rfl rfl ?_
    refine z_imul d_X12_echo_88 (by omega) ?_
    refine z_ild (4 * i) d_X12_echo_89 (rput_a2 15 (t := 0) (n := 32) (F := (g 15)) rfl rfl rfl (by decide) (by decide)) rfl (by omega) ?_
    refine z_eq rfl (qc (qi hp) rfl) rfl ?_
    refine z_iload d_X12_echo_90 rfl ?_
    refine z_imul d_X12_echo_92 (by omega) ?_
    refine z_iload_n d_X12_echo_93 rfl rfl ?_
    refine z_aload_n d_X12_echo_94 rfl rfl ?_
    refine z_getf (v := qR (m + 15)) d_X12_echo_95 fl_X12_56 rput_o rfl ?_
    refine z_iconst d_X12_echo_98 (by decide) ?_
    refine z_iload_n d_X12_echo_99 rfl rfl ?_
    refine z_imul d_X12_echo_100 (by omega) ?_
    refine z_iconst d_X12_echo_101 (by decide) ?_
    refine z_iadd d_X12_echo_102 (by omega) ?_
    refine z_ild ((4 * i) + 2) d_X12_echo_103 (rput_a2 15 (t := 0) (n := 32) (F := (g 15)) rfl rfl rfl (by decide) (by decide)) rfl (by omega) ?_
    refine z_eq rfl (qc (qi ha) rfl) rfl ?_
    refine z_imul d_X12_echo_104 (by omega) ?_
    refine z_iadd d_X12_echo_105 (by omega) ?_
    refine z_iconst d_X12_echo_106 (by decide) ?_
    refine z_iload d_X12_echo_107 rfl ?_
    refine z_imul d_X12_echo_109 (by omega) ?_
    refine z_irem d_X12_echo_110 (by omega) ?_
    refine z_istore (ls' := [qR m, qI (i : Int), qI (n : Int), qI t, qI 0, qI b, qI (((n : Int) - 1) * b), qI (Int.tmod ((p * b) + (t * a)) (2 * (((n : Int) - 1) * b)))]) d_X12_echo_111 (by decide) rfl ?_
    refine z_iload d_X12_echo_113 rfl ?_
    suffices kJ115 : qEx M_X12_echo 130 [qR m, qI (i : Int), qI (n : Int), qI t, qI 0, qI b, qI (((n : Int) - 1) * b), qI (Int.tmod ((p * b) + (t * a)) (2 * (((n : Int) - 1) * b)))] [qI (qif ((Int.tmod ((p * b) + (t * a)) (2 * (((n : Int) - 1) * b))) ≥ 0) (Int.tmod ((p * b) + (t * a)) (2 * (((n : Int) - 1) * b))) ((Int.tmod ((p * b) + (t * a)) (2 * (((n : Int) - 1) * b))) + (2 * (((n : Int) - 1) * b))))] (rput h m f g) r hr by
      refine z_if_ge 128 d_X12_echo_115 (by decide) (fun hc5 => ?_) (fun hc5 => ?_)
      · refine z_iload d_X12_echo_128 rfl ?_
        exact z_eq rfl (qc (qi (qif_t hc5).symm) rfl) rfl kJ115
      · refine z_iload d_X12_echo_118 rfl ?_
        refine z_iconst d_X12_echo_120 (by decide) ?_
        refine z_iload d_X12_echo_121 rfl ?_
        refine z_imul d_X12_echo_123 (by omega) ?_
        refine z_iadd d_X12_echo_124 (by omega) ?_
        refine z_goto 130 d_X12_echo_125 (by decide) ?_
        exact z_eq rfl (qc (qi (qif_f hc5).symm) rfl) rfl kJ115
    refine z_istore (ls' := [qR m, qI (i : Int), qI (n : Int), qI t, qI 0, qI b, qI (((n : Int) - 1) * b), qI (qif ((Int.tmod ((p * b) + (t * a)) (2 * (((n : Int) - 1) * b))) ≥ 0) (Int.tmod ((p * b) + (t * a)) (2 * (((n : Int) - 1) * b))) ((Int.tmod ((p * b) + (t * a)) (2 * (((n : Int) - 1) * b))) + (2 * (((n : Int) - 1) * b))))]) d_X12_echo_130 (by decide) rfl ?_
    refine z_eq (qc rfl (qc rfl (qc rfl (qc rfl (qc rfl (qc rfl (qc rfl (qc (qi (show (qif ((Int.tmod ((p * b) + (t * a)) (2 * (((n : Int) - 1) * b))) ≥ 0) (Int.tmod ((p * b) + (t * a)) (2 * (((n : Int) - 1) * b))) ((Int.tmod ((p * b) + (t * a)) (2 * (((n : Int) - 1) * b))) + (2 * (((n : Int) - 1) * b)))) = ((p * b + t * a) % (2 * (((n : Int) - 1) * b))) from q_fm2 (by omega))) rfl)))))))) rfl rfl ?_
    refine z_iload d_X12_echo_132 rfl ?_
    refine z_iload d_X12_echo_134 rfl ?_
    suffices kJ136 : qEx M_X12_echo 151 [qR m, qI (i : Int), qI (n : Int), qI t, qI 0, qI b, qI (((n : Int) - 1) * b), qI ((p * b + t * a) % (2 * (((n : Int) - 1) * b)))] [qI (qif (((p * b + t * a) % (2 * (((n : Int) - 1) * b))) ≤ (((n : Int) - 1) * b)) ((p * b + t * a) % (2 * (((n : Int) - 1) * b))) ((2 * (((n : Int) - 1) * b)) - ((p * b + t * a) % (2 * (((n : Int) - 1) * b)))))] (rput h m f g) r hr by
      refine z_icmp_le 149 d_X12_echo_136 (by decide) (fun hc6 => ?_) (fun hc6 => ?_)
      · refine z_iload d_X12_echo_149 rfl ?_
        exact z_eq rfl (qc (qi (qif_t hc6).symm) rfl) rfl kJ136
      · refine z_iconst d_X12_echo_139 (by decide) ?_
        refine z_iload d_X12_echo_140 rfl ?_
        refine z_imul d_X12_echo_142 (by omega) ?_
        refine z_iload d_X12_echo_143 rfl ?_
        refine z_isub d_X12_echo_145 (by omega) ?_
        refine z_goto 151 d_X12_echo_146 (by decide) ?_
        exact z_eq rfl (qc (qi (qif_f hc6).symm) rfl) rfl kJ136
    refine z_eq rfl (qc (qi (show (qif (((p * b + t * a) % (2 * (((n : Int) - 1) * b))) ≤ (((n : Int) - 1) * b)) ((p * b + t * a) % (2 * (((n : Int) - 1) * b))) ((2 * (((n : Int) - 1) * b)) - ((p * b + t * a) % (2 * (((n : Int) - 1) * b))))) = (if ((p * b + t * a) % (2 * (((n : Int) - 1) * b))) > (((n : Int) - 1) * b) then 2 * (((n : Int) - 1) * b) - ((p * b + t * a) % (2 * (((n : Int) - 1) * b))) else ((p * b + t * a) % (2 * (((n : Int) - 1) * b)))) from by simp only [qif_eq]; omega)) rfl) rfl ?_
    refine z_iload d_X12_echo_151 rfl ?_
    refine z_iload d_X12_echo_153 rfl ?_
    refine z_if_ne 162 d_X12_echo_155 (by decide) (fun hc7 => absurd hc7 (by decide)) (fun hc7 => ?_)
    refine z_iconst d_X12_echo_158 (by decide) ?_
    refine z_goto 163 d_X12_echo_159 (by decide) ?_
    refine z_cs (M1 := M_X12_lowest) d_X12_echo_163 ls_X12_408 k_X12_lowest [qI (if ((p * b + t * a) % (2 * (((n : Int) - 1) * b))) > (((n : Int) - 1) * b) then 2 * (((n : Int) - 1) * b) - ((p * b + t * a) % (2 * (((n : Int) - 1) * b))) else ((p * b + t * a) % (2 * (((n : Int) - 1) * b)))), qI b, qI 1] rfl rfl (Nat.le_of_ble_eq_true rfl) (by decide) (by decide) (Nat.le_of_ble_eq_true rfl) (c_lowest1 (if ((p * b + t * a) % (2 * (((n : Int) - 1) * b))) > (((n : Int) - 1) * b) then 2 * (((n : Int) - 1) * b) - ((p * b + t * a) % (2 * (((n : Int) - 1) * b))) else ((p * b + t * a) % (2 * (((n : Int) - 1) * b)))) b (by omega) (by omega) (by omega)) ?_
    exact z_iret d_X12_echo_166 rfl (qer er (qif_f (by omega))) eh
  · refine z_ldcw (n := -10000000) d_X12_echo_58 ct_X12_407 (by decide) (by decide) ?_
    exact z_iret d_X12_echo_61 rfl (qer er (qif_t (by omega))) eh
set_option maxRecDepth 20000 in
set_option maxHeartbeats 4000000 in
theorem c_echo1 {h : qH} {m : Nat} {f : Nat → Int} {g : Nat → Nat → Int} {K : Nat} (i n : Nat) (t : Int) {p a b : Int} (hm : 2 ≤ m) (h0 : f 0 = 0) (hM : f 27 = (K : Int)) (hK : K ≤ 8) (hi : i < K) (hn : 2 ≤ n ∧ n ≤ 99) (ht : 0 ≤ t ∧ t ≤ 999) (hp : g 15 (4 * i) = p) (ha : g 15 (4 * i + 2) = a) (hb : g 15 (4 * i + 3) = b) (bp : 0 ≤ p ∧ p ≤ 99) (ba : -9 ≤ a ∧ a ≤ 9) (bb : 1 ≤ b ∧ b ≤ 9) : qEx M_X12_echo 0 [qR m, qI (i : Int), qI (n : Int), qI t, qI 1, qU, qU, qU] [] (rput h m f g) (some (qI (qif (p > (n : Int) - 1) (-10000000) (lowR (if ((p * b + t * a) % (2 * (((n : Int) - 1) * b))) > (((n : Int) - 1) * b) then 2 * (((n : Int) - 1) * b) - ((p * b + t * a) % (2 * (((n : Int) - 1) * b))) else ((p * b + t * a) % (2 * (((n : Int) - 1) * b)))) b 0)))) (rput h m f g) := by
  refine q_gen (fun r hr er eh => ?_)
  have m1 := mulb (x := (n : Int) - 1) (y := b) 98 9 882 (by omega) (by omega) rfl
  have m2 : 0 < (((n : Int) - 1) * b) := Int.mul_pos (by omega) (by omega)
  have m3 := mulb (x := p) (y := b) 99 9 891 (by omega) (by omega) rfl
  have m4 := mulb (x := t) (y := a) 999 9 8991 (by omega) (by omega) rfl
  have t1 := Int.tmod_lt_of_pos (p * b + t * a) (show 0 < 2 * (((n : Int) - 1) * b) by omega)
  have t2 := Int.lt_tmod_of_pos (p * b + t * a) (show 0 < 2 * (((n : Int) - 1) * b) by omega)
  have t3 := Int.emod_nonneg (p * b + t * a) (show 2 * (((n : Int) - 1) * b) ≠ 0 by omega)
  have t4 := Int.emod_lt_of_pos (p * b + t * a) (show 0 < 2 * (((n : Int) - 1) * b) by omega)
  refine z_aload_n d_X12_echo_0 rfl rfl ?_
  refine z_iconst d_X12_echo_1 (by decide) ?_
  refine z_putf (fs' := [qI 0, qI (f 1), qI (f 2), qI (f 3), qI (f 4), qI (f 5), qI (f 6), qI (f 7), qR (m + 1), qR (m + 2), qR (m + 3), qR (m + 4), qR (m + 5), qR (m + 6), qR (m + 7), qR (m + 8), qR (m + 9), qR (m + 10), qI (f 18), qI (f 19), qI (f 20), qR (m + 11), qR (m + 12), qR (m + 13), qR (m + 14), qI (f 25), qR (m + 15), qI (f 27), qR (m + 16), qR (m + 17), qR (m + 18), qR (m + 19), qR (m + 20), qR (m + 21), qR (m + 22), qR (m + 23), qR (m + 24), qI (f 37), qI (f 38), qI (f 39), qI (f 40), qR (m + 25), qR (m + 26), qR (m + 27), qR (m + 28), qR (m + 29), qR (m + 30), qR (m + 31), qI (f 48), qR (m + 32), qR (m + 33), qR (m + 34), qR (m + 35), qR (m + 36), qR (m + 37)]) d_X12_echo_2 fp_X12_127 rput_o (fun _ => rfl) (fun _ => rfl) (Nat.le_of_ble_eq_true rfl) rfl ?_
  refine z_eq rfl rfl ((rput_sf (f' := qup f 0 0) rfl).trans (rput_cg (qup_self h0) rfl)) ?_
  refine z_aload_n d_X12_echo_5 rfl rfl ?_
  refine z_iload_n d_X12_echo_6 rfl rfl ?_
  refine z_cv (M1 := M_X12_isMark) d_X12_echo_7 lv_X12_404 k_X12_isMark [qI (i : Int)] rfl rfl rput_o ⟨_, _, rfl⟩ (Nat.le_of_ble_eq_true rfl) (by decide) (by decide) (Nat.le_of_ble_eq_true rfl) (c_isMark (i : Int) hm (by omega)) ?_
  refine z_ifeqB 58 d_X12_echo_10 (by decide) (fun hc1 => absurd hc1 (by omega)) (fun hc1 => ?_)
  refine z_iload_n d_X12_echo_13 rfl rfl ?_
  refine z_iconst d_X12_echo_14 (by decide) ?_
  refine z_bipush d_X12_echo_15 (by decide) ?_
  refine z_cs (M1 := M_X12_in) d_X12_echo_17 ls_X12_137 k_X12_in [qI (n : Int), qI 2, qI 99] rfl rfl (Nat.le_of_ble_eq_true rfl) (by decide) (by decide) (Nat.le_of_ble_eq_true rfl) (c_in (n : Int) 2 99) ?_
  refine z_ifeqB 58 d_X12_echo_20 (by decide) (fun hc2 => absurd hc2 (by omega)) (fun hc2 => ?_)
  refine z_iload_n d_X12_echo_23 rfl rfl ?_
  refine z_iconst d_X12_echo_24 (by decide) ?_
  refine z_sipush d_X12_echo_25 (by decide) ?_
  refine z_cs (M1 := M_X12_in) d_X12_echo_28 ls_X12_137 k_X12_in [qI t, qI 0, qI 999] rfl rfl (Nat.le_of_ble_eq_true rfl) (by decide) (by decide) (Nat.le_of_ble_eq_true rfl) (c_in t 0 999) ?_
  refine z_ifeqB 58 d_X12_echo_31 (by decide) (fun hc3 => absurd hc3 (by omega)) (fun hc3 => ?_)
  refine z_iload d_X12_echo_34 rfl ?_
  refine z_iconst d_X12_echo_36 (by decide) ?_
  refine z_iconst d_X12_echo_37 (by decide) ?_
  refine z_cs (M1 := M_X12_in) d_X12_echo_38 ls_X12_137 k_X12_in [qI 1, qI 0, qI 1] rfl rfl (Nat.le_of_ble_eq_true rfl) (by decide) (by decide) (Nat.le_of_ble_eq_true rfl) (c_in 1 0 1) ?_
  refine z_ifeqB 58 d_X12_echo_41 (by decide) (fun hc4 => absurd hc4 (by omega)) (fun hc4 => ?_)
  refine z_aload_n d_X12_echo_44 rfl rfl ?_
  refine z_getf (v := qR (m + 15)) d_X12_echo_45 fl_X12_56 rput_o rfl ?_
  refine z_iconst d_X12_echo_48 (by decide) ?_
  refine z_iload_n d_X12_echo_49 rfl rfl ?_
  refine z_imul d_X12_echo_50 (by omega) ?_
  refine z_ild (4 * i) d_X12_echo_51 (rput_a2 15 (t := 0) (n := 32) (F := (g 15)) rfl rfl rfl (by decide) (by decide)) rfl (by omega) ?_
  refine z_eq rfl (qc (qi hp) rfl) rfl ?_
  refine z_iload_n d_X12_echo_52 rfl rfl ?_
  refine z_iconst d_X12_echo_53 (by decide) ?_
  refine z_isub d_X12_echo_54 (by omega) ?_
  refine z_icmp_le 62 d_X12_echo_55 (by decide) (fun hz => ?_) (fun hz => ?_)
  · refine z_aload_n d_X12_echo_62 rfl rfl ?_
    refine z_getf (v := qR (m + 15)) d_X12_echo_63 fl_X12_56 rput_o rfl ?_
    refine z_iconst d_X12_echo_66 (by decide) ?_
    refine z_iload_n d_X12_echo_67 rfl rfl ?_
    refine z_imul d_X12_echo_68 (by omega) ?_
    refine z_iconst d_X12_echo_69 (by decide) ?_
    refine z_iadd d_X12_echo_70 (by omega) ?_
    refine z_ild ((4 * i) + 3) d_X12_echo_71 (rput_a2 15 (t := 0) (n := 32) (F := (g 15)) rfl rfl rfl (by decide) (by decide)) rfl (by omega) ?_
    refine z_eq rfl (qc (qi hb) rfl) rfl ?_
    refine z_istore (ls' := [qR m, qI (i : Int), qI (n : Int), qI t, qI 1, qI b, qU, qU]) d_X12_echo_72 (by decide) rfl ?_
    refine z_iload_n d_X12_echo_74 rfl rfl ?_
    refine z_iconst d_X12_echo_75 (by decide) ?_
    refine z_isub d_X12_echo_76 (by omega) ?_
    refine z_iload d_X12_echo_77 rfl ?_
    refine z_imul d_X12_echo_79 (by omega) ?_
    refine z_istore (ls' := [qR m, qI (i : Int), qI (n : Int), qI t, qI 1, qI b, qI (((n : Int) - 1) * b), qU]) d_X12_echo_80 (by decide) rfl ?_
    refine z_aload_n d_X12_echo_82 rfl rfl ?_
    refine z_getf (v := qR (m + 15)) d_X12_echo_83 fl_X12_56 rput_o rfl ?_
    refine z_iconst d_X12_echo_86 (by decide) ?_
    refine z_iload_n d_X12_echo_87 rfl rfl ?_
    refine z_imul d_X12_echo_88 (by omega) ?_
    refine z_ild (4 * i) d_X12_echo_89 (rput_a2 15 (t := 0) (n := 32) (F := (g 15)) rfl rfl rfl (by decide) (by decide)) rfl (by omega) ?_
    refine z_eq rfl (qc (qi hp) rfl) rfl ?_
    refine z_iload d_X12_echo_90 rfl ?_
    refine z_imul d_X12_echo_92 (by omega) ?_
    refine z_iload_n d_X12_echo_93 rfl rfl ?_
    refine z_aload_n d_X12_echo_94 rfl rfl ?_
    refine z_getf (v := qR (m + 15)) d_X12_echo_95 fl_X12_56 rput_o rfl ?_
    refine z_iconst d_X12_echo_98 (by decide) ?_
    refine z_iload_n d_X12_echo_99 rfl rfl ?_
    refine z_imul d_X12_echo_100 (by omega) ?_
    refine z_iconst d_X12_echo_101 (by decide) ?_
    refine z_iadd d_X12_echo_102 (by omega) ?_
    refine z_ild ((4 * i) + 2) d_X12_echo_103 (rput_a2 15 (t := 0) (n := 32) (F := (g 15)) rfl rfl rfl (by decide) (by decide)) rfl (by omega) ?_
    refine z_eq rfl (qc (qi ha) rfl) rfl ?_
    refine z_imul d_X12_echo_104 (by omega) ?_
    refine z_iadd d_X12_echo_105 (by omega) ?_
    refine z_iconst d_X12_echo_106 (by decide) ?_
    refine z_iload d_X12_echo_107 rfl ?_
    refine z_imul d_X12_echo_109 (by omega) ?_
    refine z_irem d_X12_echo_110 (by omega) ?_
    refine z_istore (ls' := [qR m, qI (i : Int), qI (n : Int), qI t, qI 1, qI b, qI (((n : Int) - 1) * b), qI (Int.tmod ((p * b) + (t * a)) (2 * (((n : Int) - 1) * b)))]) d_X12_echo_111 (by decide) rfl ?_
    refine z_iload d_X12_echo_113 rfl ?_
    suffices kJ115 : qEx M_X12_echo 130 [qR m, qI (i : Int), qI (n : Int), qI t, qI 1, qI b, qI (((n : Int) - 1) * b), qI (Int.tmod ((p * b) + (t * a)) (2 * (((n : Int) - 1) * b)))] [qI (qif ((Int.tmod ((p * b) + (t * a)) (2 * (((n : Int) - 1) * b))) ≥ 0) (Int.tmod ((p * b) + (t * a)) (2 * (((n : Int) - 1) * b))) ((Int.tmod ((p * b) + (t * a)) (2 * (((n : Int) - 1) * b))) + (2 * (((n : Int) - 1) * b))))] (rput h m f g) r hr by
      refine z_if_ge 128 d_X12_echo_115 (by decide) (fun hc5 => ?_) (fun hc5 => ?_)
      · refine z_iload d_X12_echo_128 rfl ?_
        exact z_eq rfl (qc (qi (qif_t hc5).symm) rfl) rfl kJ115
      · refine z_iload d_X12_echo_118 rfl ?_
        refine z_iconst d_X12_echo_120 (by decide) ?_
        refine z_iload d_X12_echo_121 rfl ?_
        refine z_imul d_X12_echo_123 (by omega) ?_
        refine z_iadd d_X12_echo_124 (by omega) ?_
        refine z_goto 130 d_X12_echo_125 (by decide) ?_
        exact z_eq rfl (qc (qi (qif_f hc5).symm) rfl) rfl kJ115
    refine z_istore (ls' := [qR m, qI (i : Int), qI (n : Int), qI t, qI 1, qI b, qI (((n : Int) - 1) * b), qI (qif ((Int.tmod ((p * b) + (t * a)) (2 * (((n : Int) - 1) * b))) ≥ 0) (Int.tmod ((p * b) + (t * a)) (2 * (((n : Int) - 1) * b))) ((Int.tmod ((p * b) + (t * a)) (2 * (((n : Int) - 1) * b))) + (2 * (((n : Int) - 1) * b))))]) d_X12_echo_130 (by decide) rfl ?_
    refine z_eq (qc rfl (qc rfl (qc rfl (qc rfl (qc rfl (qc rfl (qc rfl (qc (qi (show (qif ((Int.tmod ((p * b) + (t * a)) (2 * (((n : Int) - 1) * b))) ≥ 0) (Int.tmod ((p * b) + (t * a)) (2 * (((n : Int) - 1) * b))) ((Int.tmod ((p * b) + (t * a)) (2 * (((n : Int) - 1) * b))) + (2 * (((n : Int) - 1) * b)))) = ((p * b + t * a) % (2 * (((n : Int) - 1) * b))) from q_fm2 (by omega))) rfl)))))))) rfl rfl ?_
    refine z_iload d_X12_echo_132 rfl ?_
    refine z_iload d_X12_echo_134 rfl ?_
    suffices kJ136 : qEx M_X12_echo 151 [qR m, qI (i : Int), qI (n : Int), qI t, qI 1, qI b, qI (((n : Int) - 1) * b), qI ((p * b + t * a) % (2 * (((n : Int) - 1) * b)))] [qI (qif (((p * b + t * a) % (2 * (((n : Int) - 1) * b))) ≤ (((n : Int) - 1) * b)) ((p * b + t * a) % (2 * (((n : Int) - 1) * b))) ((2 * (((n : Int) - 1) * b)) - ((p * b + t * a) % (2 * (((n : Int) - 1) * b)))))] (rput h m f g) r hr by
      refine z_icmp_le 149 d_X12_echo_136 (by decide) (fun hc6 => ?_) (fun hc6 => ?_)
      · refine z_iload d_X12_echo_149 rfl ?_
        exact z_eq rfl (qc (qi (qif_t hc6).symm) rfl) rfl kJ136
      · refine z_iconst d_X12_echo_139 (by decide) ?_
        refine z_iload d_X12_echo_140 rfl ?_
        refine z_imul d_X12_echo_142 (by omega) ?_
        refine z_iload d_X12_echo_143 rfl ?_
        refine z_isub d_X12_echo_145 (by omega) ?_
        refine z_goto 151 d_X12_echo_146 (by decide) ?_
        exact z_eq rfl (qc (qi (qif_f hc6).symm) rfl) rfl kJ136
    refine z_eq rfl (qc (qi (show (qif (((p * b + t * a) % (2 * (((n : Int) - 1) * b))) ≤ (((n : Int) - 1) * b)) ((p * b + t * a) % (2 * (((n : Int) - 1) * b))) ((2 * (((n : Int) - 1) * b)) - ((p * b + t * a) % (2 * (((n : Int) - 1) * b))))) = (if ((p * b + t * a) % (2 * (((n : Int) - 1) * b))) > (((n : Int) - 1) * b) then 2 * (((n : Int) - 1) * b) - ((p * b + t * a) % (2 * (((n : Int) - 1) * b))) else ((p * b + t * a) % (2 * (((n : Int) - 1) * b)))) from by simp only [qif_eq]; omega)) rfl) rfl ?_
    refine z_iload d_X12_echo_151 rfl ?_
    refine z_iload d_X12_echo_153 rfl ?_
    refine z_if_ne 162 d_X12_echo_155 (by decide) (fun hc7 => ?_) (fun hc7 => absurd (by decide) hc7)
    refine z_iconst d_X12_echo_162 (by decide) ?_
    refine z_cs (M1 := M_X12_lowest) d_X12_echo_163 ls_X12_408 k_X12_lowest [qI (if ((p * b + t * a) % (2 * (((n : Int) - 1) * b))) > (((n : Int) - 1) * b) then 2 * (((n : Int) - 1) * b) - ((p * b + t * a) % (2 * (((n : Int) - 1) * b))) else ((p * b + t * a) % (2 * (((n : Int) - 1) * b)))), qI b, qI 0] rfl rfl (Nat.le_of_ble_eq_true rfl) (by decide) (by decide) (Nat.le_of_ble_eq_true rfl) (c_lowest0 (if ((p * b + t * a) % (2 * (((n : Int) - 1) * b))) > (((n : Int) - 1) * b) then 2 * (((n : Int) - 1) * b) - ((p * b + t * a) % (2 * (((n : Int) - 1) * b))) else ((p * b + t * a) % (2 * (((n : Int) - 1) * b)))) b (by omega) (by omega) (by omega)) ?_
    exact z_iret d_X12_echo_166 rfl (qer er (qif_f (by omega))) eh
  · refine z_ldcw (n := -10000000) d_X12_echo_58 ct_X12_407 (by decide) (by decide) ?_
    exact z_iret d_X12_echo_61 rfl (qer er (qif_t (by omega))) eh
