/-! ===== CONTRACTS: the reference: fires, ring, works, soon, worn, says, quiet ===== -/
set_option maxRecDepth 20000 in
set_option maxHeartbeats 4000000 in
theorem c_fires_no {h : qH} {m : Nat} {f : Nat → Int} {g : Nat → Nat → Int} (n b what : Int) (hm : 2 ≤ m) (h0 : f 0 = 0) (hnR : R32 n) (hno : ¬ (((1 ≤ n ∧ n ≤ 32) ∧ 0 ≤ b ∧ b < n) ∧ 0 ≤ what ∧ what ≤ 2)) : qEx M_X12_fires 0 [qR m, qI n, qI b, qI what] [] (rput h m f g) (some (qI (-1))) (rput h m f g) := by
  refine q_gen (fun r hr er eh => ?_)
  refine z_aload_n d_X12_fires_0 rfl rfl ?_
  refine z_iconst d_X12_fires_1 (by decide) ?_
  refine z_putf (fs' := [qI 0, qI (f 1), qI (f 2), qI (f 3), qI (f 4), qI (f 5), qI (f 6), qI (f 7), qR (m + 1), qR (m + 2), qR (m + 3), qR (m + 4), qR (m + 5), qR (m + 6), qR (m + 7), qR (m + 8), qR (m + 9), qR (m + 10), qI (f 18), qI (f 19), qI (f 20), qR (m + 11), qR (m + 12), qR (m + 13), qR (m + 14), qI (f 25), qR (m + 15), qI (f 27), qR (m + 16), qR (m + 17), qR (m + 18), qR (m + 19), qR (m + 20), qR (m + 21), qR (m + 22), qR (m + 23), qR (m + 24), qI (f 37), qI (f 38), qI (f 39), qI (f 40), qR (m + 25), qR (m + 26), qR (m + 27), qR (m + 28), qR (m + 29), qR (m + 30), qR (m + 31), qI (f 48), qR (m + 32), qR (m + 33), qR (m + 34), qR (m + 35), qR (m + 36), qR (m + 37)]) d_X12_fires_2 fp_X12_127 rput_o (fun _ => rfl) (fun _ => rfl) (Nat.le_of_ble_eq_true rfl) rfl ?_
  refine z_eq rfl rfl ((rput_sf (f' := qup f 0 0) rfl).trans (rput_cg (qup_self h0) rfl)) ?_
  refine z_iload_n d_X12_fires_5 rfl rfl ?_
  refine z_iload_n d_X12_fires_6 rfl rfl ?_
  refine z_cs (M1 := M_X12_isRun) d_X12_fires_7 ls_X12_347 k_X12_isRun [qI n, qI b] rfl rfl (Nat.le_of_ble_eq_true rfl) (by decide) (by decide) (Nat.le_of_ble_eq_true rfl) (c_isRun2 n b (by omega)) ?_
  refine z_ifeqB 33 d_X12_fires_10 (by decide) (fun hc1 => ?_) (fun hc1 => ?_)
  · refine z_iconst d_X12_fires_33 (by decide) ?_
    exact z_iret d_X12_fires_34 rfl er eh
  · refine z_iload_n d_X12_fires_13 rfl rfl ?_
    refine z_iconst d_X12_fires_14 (by decide) ?_
    refine z_iconst d_X12_fires_15 (by decide) ?_
    refine z_cs (M1 := M_X12_in) d_X12_fires_16 ls_X12_137 k_X12_in [qI what, qI 0, qI 2] rfl rfl (Nat.le_of_ble_eq_true rfl) (by decide) (by decide) (Nat.le_of_ble_eq_true rfl) (c_in what 0 2) ?_
    refine z_ifeqB 33 d_X12_fires_19 (by decide) (fun hc2 => ?_) (fun hc2 => ?_)
    · refine z_iconst d_X12_fires_33 (by decide) ?_
      exact z_iret d_X12_fires_34 rfl er eh
    · exact absurd (by omega) hno
set_option maxRecDepth 20000 in
set_option maxHeartbeats 4000000 in
theorem c_fires0 {h : qH} {m : Nat} {f : Nat → Int} {g : Nat → Nat → Int} {n : Nat} (b : Int) (hm : 2 ≤ m) (h0 : f 0 = 0) (hn : 1 ≤ n ∧ n ≤ 32) (hb : 0 ≤ b ∧ b < n) (hO : bkOk (g 2) (g 5)) : qEx M_X12_fires 0 [qR m, qI (n : Int), qI b, qI 0] [] (rput h m f g) (some (qI (rnT (ownT g) n 0 b))) (rput h m f (scr (layG g) n (rnE (layG g 25) n 0 b))) := by
  refine q_gen (fun r hr er eh => ?_)
  refine z_aload_n d_X12_fires_0 rfl rfl ?_
  refine z_iconst d_X12_fires_1 (by decide) ?_
  refine z_putf (fs' := [qI 0, qI (f 1), qI (f 2), qI (f 3), qI (f 4), qI (f 5), qI (f 6), qI (f 7), qR (m + 1), qR (m + 2), qR (m + 3), qR (m + 4), qR (m + 5), qR (m + 6), qR (m + 7), qR (m + 8), qR (m + 9), qR (m + 10), qI (f 18), qI (f 19), qI (f 20), qR (m + 11), qR (m + 12), qR (m + 13), qR (m + 14), qI (f 25), qR (m + 15), qI (f 27), qR (m + 16), qR (m + 17), qR (m + 18), qR (m + 19), qR (m + 20), qR (m + 21), qR (m + 22), qR (m + 23), qR (m + 24), qI (f 37), qI (f 38), qI (f 39), qI (f 40), qR (m + 25), qR (m + 26), qR (m + 27), qR (m + 28), qR (m + 29), qR (m + 30), qR (m + 31), qI (f 48), qR (m + 32), qR (m + 33), qR (m + 34), qR (m + 35), qR (m + 36), qR (m + 37)]) d_X12_fires_2 fp_X12_127 rput_o (fun _ => rfl) (fun _ => rfl) (Nat.le_of_ble_eq_true rfl) rfl ?_
  refine z_eq rfl rfl ((rput_sf (f' := qup f 0 0) rfl).trans (rput_cg (qup_self h0) rfl)) ?_
  refine z_iload_n d_X12_fires_5 rfl rfl ?_
  refine z_iload_n d_X12_fires_6 rfl rfl ?_
  refine z_cs (M1 := M_X12_isRun) d_X12_fires_7 ls_X12_347 k_X12_isRun [qI (n : Int), qI b] rfl rfl (Nat.le_of_ble_eq_true rfl) (by decide) (by decide) (Nat.le_of_ble_eq_true rfl) (c_isRun2 (n : Int) b (by omega)) ?_
  refine z_ifeqB 33 d_X12_fires_10 (by decide) (fun hc1 => absurd hc1 (by omega)) (fun hc1 => ?_)
  refine z_iload_n d_X12_fires_13 rfl rfl ?_
  refine z_iconst d_X12_fires_14 (by decide) ?_
  refine z_iconst d_X12_fires_15 (by decide) ?_
  refine z_cs (M1 := M_X12_in) d_X12_fires_16 ls_X12_137 k_X12_in [qI 0, qI 0, qI 2] rfl rfl (Nat.le_of_ble_eq_true rfl) (by decide) (by decide) (Nat.le_of_ble_eq_true rfl) (c_in 0 0 2) ?_
  refine z_ifeqB 33 d_X12_fires_19 (by decide) (fun hc2 => absurd hc2 (by omega)) (fun hc2 => ?_)
  refine z_aload_n d_X12_fires_22 rfl rfl ?_
  refine z_iload_n d_X12_fires_23 rfl rfl ?_
  refine z_iload_n d_X12_fires_24 rfl rfl ?_
  refine z_iconst d_X12_fires_25 (by decide) ?_
  refine z_iload_n d_X12_fires_26 rfl rfl ?_
  refine z_cv (M1 := M_X12_fireOf) d_X12_fires_27 lv_X12_350 k_X12_fireOf [qI (n : Int), qI b, qI 0, qI 0] rfl rfl rput_o ⟨_, _, rfl⟩ (Nat.le_of_ble_eq_true rfl) (by decide) (by decide) (Nat.le_of_ble_eq_true rfl) (c_fireOf00 (n := n) b hm (by omega) hO) ?_
  refine z_goto 34 d_X12_fires_30 (by decide) ?_
  exact z_iret d_X12_fires_34 rfl (qer er (rnT_cg layG_T2 (ownT_bd hO)).symm) eh
set_option maxRecDepth 20000 in
set_option maxHeartbeats 4000000 in
theorem c_fires1 {h : qH} {m : Nat} {f : Nat → Int} {g : Nat → Nat → Int} {n : Nat} (b : Int) (hm : 2 ≤ m) (h0 : f 0 = 0) (hn : 1 ≤ n ∧ n ≤ 32) (hb : 0 ≤ b ∧ b < n) (hO : bkOk (g 2) (g 5)) : qEx M_X12_fires 0 [qR m, qI (n : Int), qI b, qI 1] [] (rput h m f g) (some (qI (cnt (fun k => (rnE (ownT g) n 0 b) k = 7) n))) (rput h m f (scr (layG g) n (rnE (layG g 25) n 0 b))) := by
  refine q_gen (fun r hr er eh => ?_)
  refine z_aload_n d_X12_fires_0 rfl rfl ?_
  refine z_iconst d_X12_fires_1 (by decide) ?_
  refine z_putf (fs' := [qI 0, qI (f 1), qI (f 2), qI (f 3), qI (f 4), qI (f 5), qI (f 6), qI (f 7), qR (m + 1), qR (m + 2), qR (m + 3), qR (m + 4), qR (m + 5), qR (m + 6), qR (m + 7), qR (m + 8), qR (m + 9), qR (m + 10), qI (f 18), qI (f 19), qI (f 20), qR (m + 11), qR (m + 12), qR (m + 13), qR (m + 14), qI (f 25), qR (m + 15), qI (f 27), qR (m + 16), qR (m + 17), qR (m + 18), qR (m + 19), qR (m + 20), qR (m + 21), qR (m + 22), qR (m + 23), qR (m + 24), qI (f 37), qI (f 38), qI (f 39), qI (f 40), qR (m + 25), qR (m + 26), qR (m + 27), qR (m + 28), qR (m + 29), qR (m + 30), qR (m + 31), qI (f 48), qR (m + 32), qR (m + 33), qR (m + 34), qR (m + 35), qR (m + 36), qR (m + 37)]) d_X12_fires_2 fp_X12_127 rput_o (fun _ => rfl) (fun _ => rfl) (Nat.le_of_ble_eq_true rfl) rfl ?_
  refine z_eq rfl rfl ((rput_sf (f' := qup f 0 0) rfl).trans (rput_cg (qup_self h0) rfl)) ?_
  refine z_iload_n d_X12_fires_5 rfl rfl ?_
  refine z_iload_n d_X12_fires_6 rfl rfl ?_
  refine z_cs (M1 := M_X12_isRun) d_X12_fires_7 ls_X12_347 k_X12_isRun [qI (n : Int), qI b] rfl rfl (Nat.le_of_ble_eq_true rfl) (by decide) (by decide) (Nat.le_of_ble_eq_true rfl) (c_isRun2 (n : Int) b (by omega)) ?_
  refine z_ifeqB 33 d_X12_fires_10 (by decide) (fun hc1 => absurd hc1 (by omega)) (fun hc1 => ?_)
  refine z_iload_n d_X12_fires_13 rfl rfl ?_
  refine z_iconst d_X12_fires_14 (by decide) ?_
  refine z_iconst d_X12_fires_15 (by decide) ?_
  refine z_cs (M1 := M_X12_in) d_X12_fires_16 ls_X12_137 k_X12_in [qI 1, qI 0, qI 2] rfl rfl (Nat.le_of_ble_eq_true rfl) (by decide) (by decide) (Nat.le_of_ble_eq_true rfl) (c_in 1 0 2) ?_
  refine z_ifeqB 33 d_X12_fires_19 (by decide) (fun hc2 => absurd hc2 (by omega)) (fun hc2 => ?_)
  refine z_aload_n d_X12_fires_22 rfl rfl ?_
  refine z_iload_n d_X12_fires_23 rfl rfl ?_
  refine z_iload_n d_X12_fires_24 rfl rfl ?_
  refine z_iconst d_X12_fires_25 (by decide) ?_
  refine z_iload_n d_X12_fires_26 rfl rfl ?_
  refine z_cv (M1 := M_X12_fireOf) d_X12_fires_27 lv_X12_350 k_X12_fireOf [qI (n : Int), qI b, qI 0, qI 1] rfl rfl rput_o ⟨_, _, rfl⟩ (Nat.le_of_ble_eq_true rfl) (by decide) (by decide) (Nat.le_of_ble_eq_true rfl) (c_fireOf01 (n := n) b hm (by omega) hO) ?_
  refine z_goto 34 d_X12_fires_30 (by decide) ?_
  exact z_iret d_X12_fires_34 rfl (qer er (rnL_cg layG_T2 (ownT_bd hO)).symm) eh
set_option maxRecDepth 20000 in
set_option maxHeartbeats 4000000 in
theorem c_fires2 {h : qH} {m : Nat} {f : Nat → Int} {g : Nat → Nat → Int} {n : Nat} (b : Int) (hm : 2 ≤ m) (h0 : f 0 = 0) (hn : 1 ≤ n ∧ n ≤ 32) (hb : 0 ≤ b ∧ b < n) (hO : bkOk (g 2) (g 5)) : qEx M_X12_fires 0 [qR m, qI (n : Int), qI b, qI 2] [] (rput h m f g) (some (qI (fst (fun k => ¬ (rnE (ownT g) n 0 b) k = 7) n))) (rput h m f (scr (layG g) n (rnE (layG g 25) n 0 b))) := by
  refine q_gen (fun r hr er eh => ?_)
  refine z_aload_n d_X12_fires_0 rfl rfl ?_
  refine z_iconst d_X12_fires_1 (by decide) ?_
  refine z_putf (fs' := [qI 0, qI (f 1), qI (f 2), qI (f 3), qI (f 4), qI (f 5), qI (f 6), qI (f 7), qR (m + 1), qR (m + 2), qR (m + 3), qR (m + 4), qR (m + 5), qR (m + 6), qR (m + 7), qR (m + 8), qR (m + 9), qR (m + 10), qI (f 18), qI (f 19), qI (f 20), qR (m + 11), qR (m + 12), qR (m + 13), qR (m + 14), qI (f 25), qR (m + 15), qI (f 27), qR (m + 16), qR (m + 17), qR (m + 18), qR (m + 19), qR (m + 20), qR (m + 21), qR (m + 22), qR (m + 23), qR (m + 24), qI (f 37), qI (f 38), qI (f 39), qI (f 40), qR (m + 25), qR (m + 26), qR (m + 27), qR (m + 28), qR (m + 29), qR (m + 30), qR (m + 31), qI (f 48), qR (m + 32), qR (m + 33), qR (m + 34), qR (m + 35), qR (m + 36), qR (m + 37)]) d_X12_fires_2 fp_X12_127 rput_o (fun _ => rfl) (fun _ => rfl) (Nat.le_of_ble_eq_true rfl) rfl ?_
  refine z_eq rfl rfl ((rput_sf (f' := qup f 0 0) rfl).trans (rput_cg (qup_self h0) rfl)) ?_
  refine z_iload_n d_X12_fires_5 rfl rfl ?_
  refine z_iload_n d_X12_fires_6 rfl rfl ?_
  refine z_cs (M1 := M_X12_isRun) d_X12_fires_7 ls_X12_347 k_X12_isRun [qI (n : Int), qI b] rfl rfl (Nat.le_of_ble_eq_true rfl) (by decide) (by decide) (Nat.le_of_ble_eq_true rfl) (c_isRun2 (n : Int) b (by omega)) ?_
  refine z_ifeqB 33 d_X12_fires_10 (by decide) (fun hc1 => absurd hc1 (by omega)) (fun hc1 => ?_)
  refine z_iload_n d_X12_fires_13 rfl rfl ?_
  refine z_iconst d_X12_fires_14 (by decide) ?_
  refine z_iconst d_X12_fires_15 (by decide) ?_
  refine z_cs (M1 := M_X12_in) d_X12_fires_16 ls_X12_137 k_X12_in [qI 2, qI 0, qI 2] rfl rfl (Nat.le_of_ble_eq_true rfl) (by decide) (by decide) (Nat.le_of_ble_eq_true rfl) (c_in 2 0 2) ?_
  refine z_ifeqB 33 d_X12_fires_19 (by decide) (fun hc2 => absurd hc2 (by omega)) (fun hc2 => ?_)
  refine z_aload_n d_X12_fires_22 rfl rfl ?_
  refine z_iload_n d_X12_fires_23 rfl rfl ?_
  refine z_iload_n d_X12_fires_24 rfl rfl ?_
  refine z_iconst d_X12_fires_25 (by decide) ?_
  refine z_iload_n d_X12_fires_26 rfl rfl ?_
  refine z_cv (M1 := M_X12_fireOf) d_X12_fires_27 lv_X12_350 k_X12_fireOf [qI (n : Int), qI b, qI 0, qI 2] rfl rfl rput_o ⟨_, _, rfl⟩ (Nat.le_of_ble_eq_true rfl) (by decide) (by decide) (Nat.le_of_ble_eq_true rfl) (c_fireOf02 (n := n) b hm (by omega) hO) ?_
  refine z_goto 34 d_X12_fires_30 (by decide) ?_
  exact z_iret d_X12_fires_34 rfl (qer er (rnD_cg layG_T2 (ownT_bd hO)).symm) eh
set_option maxRecDepth 20000 in
set_option maxHeartbeats 4000000 in
theorem c_ring_no {h : qH} {m : Nat} {f : Nat → Int} {g : Nat → Nat → Int} (n b what : Int) (hm : 2 ≤ m) (h0 : f 0 = 0) (hnR : R32 n) (hno : ¬ (((1 ≤ n ∧ n ≤ 32) ∧ 0 ≤ b ∧ b < n) ∧ 0 ≤ what ∧ what ≤ 2)) : qEx M_X12_ring 0 [qR m, qI n, qI b, qI what] [] (rput h m f g) (some (qI (-1))) (rput h m f g) := by
  refine q_gen (fun r hr er eh => ?_)
  refine z_aload_n d_X12_ring_0 rfl rfl ?_
  refine z_iconst d_X12_ring_1 (by decide) ?_
  refine z_putf (fs' := [qI 0, qI (f 1), qI (f 2), qI (f 3), qI (f 4), qI (f 5), qI (f 6), qI (f 7), qR (m + 1), qR (m + 2), qR (m + 3), qR (m + 4), qR (m + 5), qR (m + 6), qR (m + 7), qR (m + 8), qR (m + 9), qR (m + 10), qI (f 18), qI (f 19), qI (f 20), qR (m + 11), qR (m + 12), qR (m + 13), qR (m + 14), qI (f 25), qR (m + 15), qI (f 27), qR (m + 16), qR (m + 17), qR (m + 18), qR (m + 19), qR (m + 20), qR (m + 21), qR (m + 22), qR (m + 23), qR (m + 24), qI (f 37), qI (f 38), qI (f 39), qI (f 40), qR (m + 25), qR (m + 26), qR (m + 27), qR (m + 28), qR (m + 29), qR (m + 30), qR (m + 31), qI (f 48), qR (m + 32), qR (m + 33), qR (m + 34), qR (m + 35), qR (m + 36), qR (m + 37)]) d_X12_ring_2 fp_X12_127 rput_o (fun _ => rfl) (fun _ => rfl) (Nat.le_of_ble_eq_true rfl) rfl ?_
  refine z_eq rfl rfl ((rput_sf (f' := qup f 0 0) rfl).trans (rput_cg (qup_self h0) rfl)) ?_
  refine z_iload_n d_X12_ring_5 rfl rfl ?_
  refine z_iload_n d_X12_ring_6 rfl rfl ?_
  refine z_cs (M1 := M_X12_isRun) d_X12_ring_7 ls_X12_347 k_X12_isRun [qI n, qI b] rfl rfl (Nat.le_of_ble_eq_true rfl) (by decide) (by decide) (Nat.le_of_ble_eq_true rfl) (c_isRun2 n b (by omega)) ?_
  refine z_ifeqB 33 d_X12_ring_10 (by decide) (fun hc1 => ?_) (fun hc1 => ?_)
  · refine z_iconst d_X12_ring_33 (by decide) ?_
    exact z_iret d_X12_ring_34 rfl er eh
  · refine z_iload_n d_X12_ring_13 rfl rfl ?_
    refine z_iconst d_X12_ring_14 (by decide) ?_
    refine z_iconst d_X12_ring_15 (by decide) ?_
    refine z_cs (M1 := M_X12_in) d_X12_ring_16 ls_X12_137 k_X12_in [qI what, qI 0, qI 2] rfl rfl (Nat.le_of_ble_eq_true rfl) (by decide) (by decide) (Nat.le_of_ble_eq_true rfl) (c_in what 0 2) ?_
    refine z_ifeqB 33 d_X12_ring_19 (by decide) (fun hc2 => ?_) (fun hc2 => ?_)
    · refine z_iconst d_X12_ring_33 (by decide) ?_
      exact z_iret d_X12_ring_34 rfl er eh
    · exact absurd (by omega) hno
set_option maxRecDepth 20000 in
set_option maxHeartbeats 4000000 in
theorem c_ring0 {h : qH} {m : Nat} {f : Nat → Int} {g : Nat → Nat → Int} {n : Nat} (b : Int) (hm : 2 ≤ m) (h0 : f 0 = 0) (hn : 1 ≤ n ∧ n ≤ 32) (hb : 0 ≤ b ∧ b < n) (hO : bkOk (g 2) (g 5)) : qEx M_X12_ring 0 [qR m, qI (n : Int), qI b, qI 0] [] (rput h m f g) (some (qI (rnT (ownT g) n 1 b))) (rput h m f (scr (layG g) n (rnE (layG g 25) n 1 b))) := by
  refine q_gen (fun r hr er eh => ?_)
  refine z_aload_n d_X12_ring_0 rfl rfl ?_
  refine z_iconst d_X12_ring_1 (by decide) ?_
  refine z_putf (fs' := [qI 0, qI (f 1), qI (f 2), qI (f 3), qI (f 4), qI (f 5), qI (f 6), qI (f 7), qR (m + 1), qR (m + 2), qR (m + 3), qR (m + 4), qR (m + 5), qR (m + 6), qR (m + 7), qR (m + 8), qR (m + 9), qR (m + 10), qI (f 18), qI (f 19), qI (f 20), qR (m + 11), qR (m + 12), qR (m + 13), qR (m + 14), qI (f 25), qR (m + 15), qI (f 27), qR (m + 16), qR (m + 17), qR (m + 18), qR (m + 19), qR (m + 20), qR (m + 21), qR (m + 22), qR (m + 23), qR (m + 24), qI (f 37), qI (f 38), qI (f 39), qI (f 40), qR (m + 25), qR (m + 26), qR (m + 27), qR (m + 28), qR (m + 29), qR (m + 30), qR (m + 31), qI (f 48), qR (m + 32), qR (m + 33), qR (m + 34), qR (m + 35), qR (m + 36), qR (m + 37)]) d_X12_ring_2 fp_X12_127 rput_o (fun _ => rfl) (fun _ => rfl) (Nat.le_of_ble_eq_true rfl) rfl ?_
  refine z_eq rfl rfl ((rput_sf (f' := qup f 0 0) rfl).trans (rput_cg (qup_self h0) rfl)) ?_
  refine z_iload_n d_X12_ring_5 rfl rfl ?_
  refine z_iload_n d_X12_ring_6 rfl rfl ?_
  refine z_cs (M1 := M_X12_isRun) d_X12_ring_7 ls_X12_347 k_X12_isRun [qI (n : Int), qI b] rfl rfl (Nat.le_of_ble_eq_true rfl) (by decide) (by decide) (Nat.le_of_ble_eq_true rfl) (c_isRun2 (n : Int) b (by omega)) ?_
  refine z_ifeqB 33 d_X12_ring_10 (by decide) (fun hc1 => absurd hc1 (by omega)) (fun hc1 => ?_)
  refine z_iload_n d_X12_ring_13 rfl rfl ?_
  refine z_iconst d_X12_ring_14 (by decide) ?_
  refine z_iconst d_X12_ring_15 (by decide) ?_
  refine z_cs (M1 := M_X12_in) d_X12_ring_16 ls_X12_137 k_X12_in [qI 0, qI 0, qI 2] rfl rfl (Nat.le_of_ble_eq_true rfl) (by decide) (by decide) (Nat.le_of_ble_eq_true rfl) (c_in 0 0 2) ?_
  refine z_ifeqB 33 d_X12_ring_19 (by decide) (fun hc2 => absurd hc2 (by omega)) (fun hc2 => ?_)
  refine z_aload_n d_X12_ring_22 rfl rfl ?_
  refine z_iload_n d_X12_ring_23 rfl rfl ?_
  refine z_iload_n d_X12_ring_24 rfl rfl ?_
  refine z_iconst d_X12_ring_25 (by decide) ?_
  refine z_iload_n d_X12_ring_26 rfl rfl ?_
  refine z_cv (M1 := M_X12_fireOf) d_X12_ring_27 lv_X12_350 k_X12_fireOf [qI (n : Int), qI b, qI 1, qI 0] rfl rfl rput_o ⟨_, _, rfl⟩ (Nat.le_of_ble_eq_true rfl) (by decide) (by decide) (Nat.le_of_ble_eq_true rfl) (c_fireOf10 (n := n) b hm (by omega) hO) ?_
  refine z_goto 34 d_X12_ring_30 (by decide) ?_
  exact z_iret d_X12_ring_34 rfl (qer er (rnT_cg layG_T2 (ownT_bd hO)).symm) eh
set_option maxRecDepth 20000 in
set_option maxHeartbeats 4000000 in
theorem c_ring1 {h : qH} {m : Nat} {f : Nat → Int} {g : Nat → Nat → Int} {n : Nat} (b : Int) (hm : 2 ≤ m) (h0 : f 0 = 0) (hn : 1 ≤ n ∧ n ≤ 32) (hb : 0 ≤ b ∧ b < n) (hO : bkOk (g 2) (g 5)) : qEx M_X12_ring 0 [qR m, qI (n : Int), qI b, qI 1] [] (rput h m f g) (some (qI (cnt (fun k => (rnE (ownT g) n 1 b) k = 7) n))) (rput h m f (scr (layG g) n (rnE (layG g 25) n 1 b))) := by
  refine q_gen (fun r hr er eh => ?_)
  refine z_aload_n d_X12_ring_0 rfl rfl ?_
  refine z_iconst d_X12_ring_1 (by decide) ?_
  refine z_putf (fs' := [qI 0, qI (f 1), qI (f 2), qI (f 3), qI (f 4), qI (f 5), qI (f 6), qI (f 7), qR (m + 1), qR (m + 2), qR (m + 3), qR (m + 4), qR (m + 5), qR (m + 6), qR (m + 7), qR (m + 8), qR (m + 9), qR (m + 10), qI (f 18), qI (f 19), qI (f 20), qR (m + 11), qR (m + 12), qR (m + 13), qR (m + 14), qI (f 25), qR (m + 15), qI (f 27), qR (m + 16), qR (m + 17), qR (m + 18), qR (m + 19), qR (m + 20), qR (m + 21), qR (m + 22), qR (m + 23), qR (m + 24), qI (f 37), qI (f 38), qI (f 39), qI (f 40), qR (m + 25), qR (m + 26), qR (m + 27), qR (m + 28), qR (m + 29), qR (m + 30), qR (m + 31), qI (f 48), qR (m + 32), qR (m + 33), qR (m + 34), qR (m + 35), qR (m + 36), qR (m + 37)]) d_X12_ring_2 fp_X12_127 rput_o (fun _ => rfl) (fun _ => rfl) (Nat.le_of_ble_eq_true rfl) rfl ?_
  refine z_eq rfl rfl ((rput_sf (f' := qup f 0 0) rfl).trans (rput_cg (qup_self h0) rfl)) ?_
  refine z_iload_n d_X12_ring_5 rfl rfl ?_
  refine z_iload_n d_X12_ring_6 rfl rfl ?_
  refine z_cs (M1 := M_X12_isRun) d_X12_ring_7 ls_X12_347 k_X12_isRun [qI (n : Int), qI b] rfl rfl (Nat.le_of_ble_eq_true rfl) (by decide) (by decide) (Nat.le_of_ble_eq_true rfl) (c_isRun2 (n : Int) b (by omega)) ?_
  refine z_ifeqB 33 d_X12_ring_10 (by decide) (fun hc1 => absurd hc1 (by omega)) (fun hc1 => ?_)
  refine z_iload_n d_X12_ring_13 rfl rfl ?_
  refine z_iconst d_X12_ring_14 (by decide) ?_
  refine z_iconst d_X12_ring_15 (by decide) ?_
  refine z_cs (M1 := M_X12_in) d_X12_ring_16 ls_X12_137 k_X12_in [qI 1, qI 0, qI 2] rfl rfl (Nat.le_of_ble_eq_true rfl) (by decide) (by decide) (Nat.le_of_ble_eq_true rfl) (c_in 1 0 2) ?_
  refine z_ifeqB 33 d_X12_ring_19 (by decide) (fun hc2 => absurd hc2 (by omega)) (fun hc2 => ?_)
  refine z_aload_n d_X12_ring_22 rfl rfl ?_
  refine z_iload_n d_X12_ring_23 rfl rfl ?_
  refine z_iload_n d_X12_ring_24 rfl rfl ?_
  refine z_iconst d_X12_ring_25 (by decide) ?_
  refine z_iload_n d_X12_ring_26 rfl rfl ?_
  refine z_cv (M1 := M_X12_fireOf) d_X12_ring_27 lv_X12_350 k_X12_fireOf [qI (n : Int), qI b, qI 1, qI 1] rfl rfl rput_o ⟨_, _, rfl⟩ (Nat.le_of_ble_eq_true rfl) (by decide) (by decide) (Nat.le_of_ble_eq_true rfl) (c_fireOf11 (n := n) b hm (by omega) hO) ?_
  refine z_goto 34 d_X12_ring_30 (by decide) ?_
  exact z_iret d_X12_ring_34 rfl (qer er (rnL_cg layG_T2 (ownT_bd hO)).symm) eh
set_option maxRecDepth 20000 in
set_option maxHeartbeats 4000000 in
theorem c_ring2 {h : qH} {m : Nat} {f : Nat → Int} {g : Nat → Nat → Int} {n : Nat} (b : Int) (hm : 2 ≤ m) (h0 : f 0 = 0) (hn : 1 ≤ n ∧ n ≤ 32) (hb : 0 ≤ b ∧ b < n) (hO : bkOk (g 2) (g 5)) : qEx M_X12_ring 0 [qR m, qI (n : Int), qI b, qI 2] [] (rput h m f g) (some (qI (fst (fun k => ¬ (rnE (ownT g) n 1 b) k = 7) n))) (rput h m f (scr (layG g) n (rnE (layG g 25) n 1 b))) := by
  refine q_gen (fun r hr er eh => ?_)
  refine z_aload_n d_X12_ring_0 rfl rfl ?_
  refine z_iconst d_X12_ring_1 (by decide) ?_
  refine z_putf (fs' := [qI 0, qI (f 1), qI (f 2), qI (f 3), qI (f 4), qI (f 5), qI (f 6), qI (f 7), qR (m + 1), qR (m + 2), qR (m + 3), qR (m + 4), qR (m + 5), qR (m + 6), qR (m + 7), qR (m + 8), qR (m + 9), qR (m + 10), qI (f 18), qI (f 19), qI (f 20), qR (m + 11), qR (m + 12), qR (m + 13), qR (m + 14), qI (f 25), qR (m + 15), qI (f 27), qR (m + 16), qR (m + 17), qR (m + 18), qR (m + 19), qR (m + 20), qR (m + 21), qR (m + 22), qR (m + 23), qR (m + 24), qI (f 37), qI (f 38), qI (f 39), qI (f 40), qR (m + 25), qR (m + 26), qR (m + 27), qR (m + 28), qR (m + 29), qR (m + 30), qR (m + 31), qI (f 48), qR (m + 32), qR (m + 33), qR (m + 34), qR (m + 35), qR (m + 36), qR (m + 37)]) d_X12_ring_2 fp_X12_127 rput_o (fun _ => rfl) (fun _ => rfl) (Nat.le_of_ble_eq_true rfl) rfl ?_
  refine z_eq rfl rfl ((rput_sf (f' := qup f 0 0) rfl).trans (rput_cg (qup_self h0) rfl)) ?_
  refine z_iload_n d_X12_ring_5 rfl rfl ?_
  refine z_iload_n d_X12_ring_6 rfl rfl ?_
  refine z_cs (M1 := M_X12_isRun) d_X12_ring_7 ls_X12_347 k_X12_isRun [qI (n : Int), qI b] rfl rfl (Nat.le_of_ble_eq_true rfl) (by decide) (by decide) (Nat.le_of_ble_eq_true rfl) (c_isRun2 (n : Int) b (by omega)) ?_
  refine z_ifeqB 33 d_X12_ring_10 (by decide) (fun hc1 => absurd hc1 (by omega)) (fun hc1 => ?_)
  refine z_iload_n d_X12_ring_13 rfl rfl ?_
  refine z_iconst d_X12_ring_14 (by decide) ?_
  refine z_iconst d_X12_ring_15 (by decide) ?_
  refine z_cs (M1 := M_X12_in) d_X12_ring_16 ls_X12_137 k_X12_in [qI 2, qI 0, qI 2] rfl rfl (Nat.le_of_ble_eq_true rfl) (by decide) (by decide) (Nat.le_of_ble_eq_true rfl) (c_in 2 0 2) ?_
  refine z_ifeqB 33 d_X12_ring_19 (by decide) (fun hc2 => absurd hc2 (by omega)) (fun hc2 => ?_)
  refine z_aload_n d_X12_ring_22 rfl rfl ?_
  refine z_iload_n d_X12_ring_23 rfl rfl ?_
  refine z_iload_n d_X12_ring_24 rfl rfl ?_
  refine z_iconst d_X12_ring_25 (by decide) ?_
  refine z_iload_n d_X12_ring_26 rfl rfl ?_
  refine z_cv (M1 := M_X12_fireOf) d_X12_ring_27 lv_X12_350 k_X12_fireOf [qI (n : Int), qI b, qI 1, qI 2] rfl rfl rput_o ⟨_, _, rfl⟩ (Nat.le_of_ble_eq_true rfl) (by decide) (by decide) (Nat.le_of_ble_eq_true rfl) (c_fireOf12 (n := n) b hm (by omega) hO) ?_
  refine z_goto 34 d_X12_ring_30 (by decide) ?_
  exact z_iret d_X12_ring_34 rfl (qer er (rnD_cg layG_T2 (ownT_bd hO)).symm) eh
set_option maxRecDepth 20000 in
set_option maxHeartbeats 4000000 in
theorem c_works_no {h : qH} {m : Nat} {f : Nat → Int} {g : Nat → Nat → Int} (to what : Int) (hm : 2 ≤ m) (h0 : f 0 = 0) (hno : ¬ ((1 ≤ to ∧ to ≤ 24) ∧ 0 ≤ what ∧ what ≤ 2)) : qEx M_X12_works 0 [qR m, qI to, qI what, qU] [] (rput h m f g) (some (qI (-1))) (rput h m f g) := by
  refine q_gen (fun r hr er eh => ?_)
  refine z_aload_n d_X12_works_0 rfl rfl ?_
  refine z_iconst d_X12_works_1 (by decide) ?_
  refine z_putf (fs' := [qI 0, qI (f 1), qI (f 2), qI (f 3), qI (f 4), qI (f 5), qI (f 6), qI (f 7), qR (m + 1), qR (m + 2), qR (m + 3), qR (m + 4), qR (m + 5), qR (m + 6), qR (m + 7), qR (m + 8), qR (m + 9), qR (m + 10), qI (f 18), qI (f 19), qI (f 20), qR (m + 11), qR (m + 12), qR (m + 13), qR (m + 14), qI (f 25), qR (m + 15), qI (f 27), qR (m + 16), qR (m + 17), qR (m + 18), qR (m + 19), qR (m + 20), qR (m + 21), qR (m + 22), qR (m + 23), qR (m + 24), qI (f 37), qI (f 38), qI (f 39), qI (f 40), qR (m + 25), qR (m + 26), qR (m + 27), qR (m + 28), qR (m + 29), qR (m + 30), qR (m + 31), qI (f 48), qR (m + 32), qR (m + 33), qR (m + 34), qR (m + 35), qR (m + 36), qR (m + 37)]) d_X12_works_2 fp_X12_127 rput_o (fun _ => rfl) (fun _ => rfl) (Nat.le_of_ble_eq_true rfl) rfl ?_
  refine z_eq rfl rfl ((rput_sf (f' := qup f 0 0) rfl).trans (rput_cg (qup_self h0) rfl)) ?_
  refine z_iload_n d_X12_works_5 rfl rfl ?_
  refine z_iconst d_X12_works_6 (by decide) ?_
  refine z_bipush d_X12_works_7 (by decide) ?_
  refine z_cs (M1 := M_X12_in) d_X12_works_9 ls_X12_137 k_X12_in [qI to, qI 1, qI 24] rfl rfl (Nat.le_of_ble_eq_true rfl) (by decide) (by decide) (Nat.le_of_ble_eq_true rfl) (c_in to 1 24) ?_
  refine z_ifeqB 24 d_X12_works_12 (by decide) (fun hc1 => ?_) (fun hc1 => ?_)
  · refine z_iconst d_X12_works_24 (by decide) ?_
    exact z_iret d_X12_works_25 rfl er eh
  · refine z_iload_n d_X12_works_15 rfl rfl ?_
    refine z_iconst d_X12_works_16 (by decide) ?_
    refine z_iconst d_X12_works_17 (by decide) ?_
    refine z_cs (M1 := M_X12_in) d_X12_works_18 ls_X12_137 k_X12_in [qI what, qI 0, qI 2] rfl rfl (Nat.le_of_ble_eq_true rfl) (by decide) (by decide) (Nat.le_of_ble_eq_true rfl) (c_in what 0 2) ?_
    refine z_ifneB 26 d_X12_works_21 (by decide) (fun hc2 => ?_) (fun hc2 => ?_)
    · exact absurd (by omega) hno
    · refine z_iconst d_X12_works_24 (by decide) ?_
      exact z_iret d_X12_works_25 rfl er eh
set_option maxRecDepth 20000 in
set_option maxHeartbeats 4000000 in
theorem c_works0 {h : qH} {m : Nat} {f : Nat → Int} {g : Nat → Nat → Int} {to : Nat} (hm : 2 ≤ m) (h0 : f 0 = 0) (ht : 1 ≤ to ∧ to ≤ 24) (hO : bkOk (g 2) (g 5)) : qEx M_X12_works 0 [qR m, qI (to : Int), qI 0, qU] [] (rput h m f g) (some (qI (fbR (ownT g) to))) (rput h m f (scr (layG g) (fbN (layG g 25) to) (rnE (layG g 25) (fbN (layG g 25) to) 0 0))) := by
  refine q_gen (fun r hr er eh => ?_)
  refine z_aload_n d_X12_works_0 rfl rfl ?_
  refine z_iconst d_X12_works_1 (by decide) ?_
  refine z_putf (fs' := [qI 0, qI (f 1), qI (f 2), qI (f 3), qI (f 4), qI (f 5), qI (f 6), qI (f 7), qR (m + 1), qR (m + 2), qR (m + 3), qR (m + 4), qR (m + 5), qR (m + 6), qR (m + 7), qR (m + 8), qR (m + 9), qR (m + 10), qI (f 18), qI (f 19), qI (f 20), qR (m + 11), qR (m + 12), qR (m + 13), qR (m + 14), qI (f 25), qR (m + 15), qI (f 27), qR (m + 16), qR (m + 17), qR (m + 18), qR (m + 19), qR (m + 20), qR (m + 21), qR (m + 22), qR (m + 23), qR (m + 24), qI (f 37), qI (f 38), qI (f 39), qI (f 40), qR (m + 25), qR (m + 26), qR (m + 27), qR (m + 28), qR (m + 29), qR (m + 30), qR (m + 31), qI (f 48), qR (m + 32), qR (m + 33), qR (m + 34), qR (m + 35), qR (m + 36), qR (m + 37)]) d_X12_works_2 fp_X12_127 rput_o (fun _ => rfl) (fun _ => rfl) (Nat.le_of_ble_eq_true rfl) rfl ?_
  refine z_eq rfl rfl ((rput_sf (f' := qup f 0 0) rfl).trans (rput_cg (qup_self h0) rfl)) ?_
  refine z_iload_n d_X12_works_5 rfl rfl ?_
  refine z_iconst d_X12_works_6 (by decide) ?_
  refine z_bipush d_X12_works_7 (by decide) ?_
  refine z_cs (M1 := M_X12_in) d_X12_works_9 ls_X12_137 k_X12_in [qI (to : Int), qI 1, qI 24] rfl rfl (Nat.le_of_ble_eq_true rfl) (by decide) (by decide) (Nat.le_of_ble_eq_true rfl) (c_in (to : Int) 1 24) ?_
  refine z_ifeqB 24 d_X12_works_12 (by decide) (fun hc1 => absurd hc1 (by omega)) (fun hc1 => ?_)
  refine z_iload_n d_X12_works_15 rfl rfl ?_
  refine z_iconst d_X12_works_16 (by decide) ?_
  refine z_iconst d_X12_works_17 (by decide) ?_
  refine z_cs (M1 := M_X12_in) d_X12_works_18 ls_X12_137 k_X12_in [qI 0, qI 0, qI 2] rfl rfl (Nat.le_of_ble_eq_true rfl) (by decide) (by decide) (Nat.le_of_ble_eq_true rfl) (c_in 0 0 2) ?_
  refine z_ifneB 26 d_X12_works_21 (by decide) (fun hc2 => ?_) (fun hc2 => absurd hc2 (by omega))
  refine z_aload_n d_X12_works_26 rfl rfl ?_
  refine z_cv0 (M1 := M_X12_laysOwn) d_X12_works_27 lv_X12_275 k_X12_laysOwn [] rfl rfl rput_o ⟨_, _, rfl⟩ (Nat.le_of_ble_eq_true rfl) (by decide) (by decide) (Nat.le_of_ble_eq_true rfl) (c_laysOwn hm) ?_
  refine z_aload_n d_X12_works_30 rfl rfl ?_
  refine z_iload_n d_X12_works_31 rfl rfl ?_
  refine z_cv (M1 := M_X12_firstBad) d_X12_works_32 lv_X12_354 k_X12_firstBad [qI (to : Int)] rfl rfl rput_o ⟨_, _, rfl⟩ (Nat.le_of_ble_eq_true rfl) (by decide) (by decide) (Nat.le_of_ble_eq_true rfl) (c_firstBad (to := to) hm (by omega) (fun c hc => by rw [show layG g 25 c = ownT g c from layG_T hc]; exact bkTc_bd hO (by decide) c hc)) ?_
  refine z_istore_n (ls' := [qR m, qI (to : Int), qI 0, qI (fbR (layG g 25) to)]) d_X12_works_35 rfl (by decide) rfl ?_
  refine z_iload_n d_X12_works_36 rfl rfl ?_
  refine z_iconst d_X12_works_37 (by decide) ?_
  refine z_icmp_eq 45 d_X12_works_38 (by decide) (fun hc3 => ?_) (fun hc3 => ?_)
  · refine z_iload_n d_X12_works_45 rfl rfl ?_
    refine z_goto 66 d_X12_works_46 (by decide) ?_
    exact z_iret d_X12_works_66 rfl (qer er (fbR_cg layG_T2 (ownT_bd hO)).symm) eh
  · refine z_iload_n d_X12_works_41 rfl rfl ?_
    refine z_if_ne 49 d_X12_works_42 (by decide) (fun hc4 => absurd hc4 (by decide)) (fun hc4 => ?_)
    refine z_iload_n d_X12_works_45 rfl rfl ?_
    refine z_goto 66 d_X12_works_46 (by decide) ?_
    exact z_iret d_X12_works_66 rfl (qer er (fbR_cg layG_T2 (ownT_bd hO)).symm) eh
set_option maxRecDepth 20000 in
set_option maxHeartbeats 4000000 in
theorem c_works1_all {h : qH} {m : Nat} {f : Nat → Int} {g : Nat → Nat → Int} {to : Nat} (hm : 2 ≤ m) (h0 : f 0 = 0) (ht : 1 ≤ to ∧ to ≤ 24) (hO : bkOk (g 2) (g 5)) (hg : fbR (ownT g) to = -1) : qEx M_X12_works 0 [qR m, qI (to : Int), qI 1, qU] [] (rput h m f g) (some (qI (-1))) (rput h m f (scr (layG g) (fbN (layG g 25) to) (rnE (layG g 25) (fbN (layG g 25) to) 0 0))) := by
  refine q_gen (fun r hr er eh => ?_)
  refine z_aload_n d_X12_works_0 rfl rfl ?_
  refine z_iconst d_X12_works_1 (by decide) ?_
  refine z_putf (fs' := [qI 0, qI (f 1), qI (f 2), qI (f 3), qI (f 4), qI (f 5), qI (f 6), qI (f 7), qR (m + 1), qR (m + 2), qR (m + 3), qR (m + 4), qR (m + 5), qR (m + 6), qR (m + 7), qR (m + 8), qR (m + 9), qR (m + 10), qI (f 18), qI (f 19), qI (f 20), qR (m + 11), qR (m + 12), qR (m + 13), qR (m + 14), qI (f 25), qR (m + 15), qI (f 27), qR (m + 16), qR (m + 17), qR (m + 18), qR (m + 19), qR (m + 20), qR (m + 21), qR (m + 22), qR (m + 23), qR (m + 24), qI (f 37), qI (f 38), qI (f 39), qI (f 40), qR (m + 25), qR (m + 26), qR (m + 27), qR (m + 28), qR (m + 29), qR (m + 30), qR (m + 31), qI (f 48), qR (m + 32), qR (m + 33), qR (m + 34), qR (m + 35), qR (m + 36), qR (m + 37)]) d_X12_works_2 fp_X12_127 rput_o (fun _ => rfl) (fun _ => rfl) (Nat.le_of_ble_eq_true rfl) rfl ?_
  refine z_eq rfl rfl ((rput_sf (f' := qup f 0 0) rfl).trans (rput_cg (qup_self h0) rfl)) ?_
  refine z_iload_n d_X12_works_5 rfl rfl ?_
  refine z_iconst d_X12_works_6 (by decide) ?_
  refine z_bipush d_X12_works_7 (by decide) ?_
  refine z_cs (M1 := M_X12_in) d_X12_works_9 ls_X12_137 k_X12_in [qI (to : Int), qI 1, qI 24] rfl rfl (Nat.le_of_ble_eq_true rfl) (by decide) (by decide) (Nat.le_of_ble_eq_true rfl) (c_in (to : Int) 1 24) ?_
  refine z_ifeqB 24 d_X12_works_12 (by decide) (fun hc1 => absurd hc1 (by omega)) (fun hc1 => ?_)
  refine z_iload_n d_X12_works_15 rfl rfl ?_
  refine z_iconst d_X12_works_16 (by decide) ?_
  refine z_iconst d_X12_works_17 (by decide) ?_
  refine z_cs (M1 := M_X12_in) d_X12_works_18 ls_X12_137 k_X12_in [qI 1, qI 0, qI 2] rfl rfl (Nat.le_of_ble_eq_true rfl) (by decide) (by decide) (Nat.le_of_ble_eq_true rfl) (c_in 1 0 2) ?_
  refine z_ifneB 26 d_X12_works_21 (by decide) (fun hc2 => ?_) (fun hc2 => absurd hc2 (by omega))
  refine z_aload_n d_X12_works_26 rfl rfl ?_
  refine z_cv0 (M1 := M_X12_laysOwn) d_X12_works_27 lv_X12_275 k_X12_laysOwn [] rfl rfl rput_o ⟨_, _, rfl⟩ (Nat.le_of_ble_eq_true rfl) (by decide) (by decide) (Nat.le_of_ble_eq_true rfl) (c_laysOwn hm) ?_
  refine z_aload_n d_X12_works_30 rfl rfl ?_
  refine z_iload_n d_X12_works_31 rfl rfl ?_
  refine z_cv (M1 := M_X12_firstBad) d_X12_works_32 lv_X12_354 k_X12_firstBad [qI (to : Int)] rfl rfl rput_o ⟨_, _, rfl⟩ (Nat.le_of_ble_eq_true rfl) (by decide) (by decide) (Nat.le_of_ble_eq_true rfl) (c_firstBad (to := to) hm (by omega) (fun c hc => by rw [show layG g 25 c = ownT g c from layG_T hc]; exact bkTc_bd hO (by decide) c hc)) ?_
  refine z_istore_n (ls' := [qR m, qI (to : Int), qI 1, qI (fbR (layG g 25) to)]) d_X12_works_35 rfl (by decide) rfl ?_
  refine z_iload_n d_X12_works_36 rfl rfl ?_
  refine z_iconst d_X12_works_37 (by decide) ?_
  refine z_icmp_eq 45 d_X12_works_38 (by decide) (fun hc3 => ?_) (fun hc3 => absurd hc3 (by exact fun z => z ((fbR_cg layG_T2 (ownT_bd hO)).trans hg)))
  refine z_iload_n d_X12_works_45 rfl rfl ?_
  refine z_goto 66 d_X12_works_46 (by decide) ?_
  exact z_iret d_X12_works_66 rfl (qer er ((fbR_cg layG_T2 (ownT_bd hO)).trans hg).symm) eh
set_option maxRecDepth 20000 in
set_option maxHeartbeats 4000000 in
theorem c_works2_all {h : qH} {m : Nat} {f : Nat → Int} {g : Nat → Nat → Int} {to : Nat} (hm : 2 ≤ m) (h0 : f 0 = 0) (ht : 1 ≤ to ∧ to ≤ 24) (hO : bkOk (g 2) (g 5)) (hg : fbR (ownT g) to = -1) : qEx M_X12_works 0 [qR m, qI (to : Int), qI 2, qU] [] (rput h m f g) (some (qI (-1))) (rput h m f (scr (layG g) (fbN (layG g 25) to) (rnE (layG g 25) (fbN (layG g 25) to) 0 0))) := by
  refine q_gen (fun r hr er eh => ?_)
  refine z_aload_n d_X12_works_0 rfl rfl ?_
  refine z_iconst d_X12_works_1 (by decide) ?_
  refine z_putf (fs' := [qI 0, qI (f 1), qI (f 2), qI (f 3), qI (f 4), qI (f 5), qI (f 6), qI (f 7), qR (m + 1), qR (m + 2), qR (m + 3), qR (m + 4), qR (m + 5), qR (m + 6), qR (m + 7), qR (m + 8), qR (m + 9), qR (m + 10), qI (f 18), qI (f 19), qI (f 20), qR (m + 11), qR (m + 12), qR (m + 13), qR (m + 14), qI (f 25), qR (m + 15), qI (f 27), qR (m + 16), qR (m + 17), qR (m + 18), qR (m + 19), qR (m + 20), qR (m + 21), qR (m + 22), qR (m + 23), qR (m + 24), qI (f 37), qI (f 38), qI (f 39), qI (f 40), qR (m + 25), qR (m + 26), qR (m + 27), qR (m + 28), qR (m + 29), qR (m + 30), qR (m + 31), qI (f 48), qR (m + 32), qR (m + 33), qR (m + 34), qR (m + 35), qR (m + 36), qR (m + 37)]) d_X12_works_2 fp_X12_127 rput_o (fun _ => rfl) (fun _ => rfl) (Nat.le_of_ble_eq_true rfl) rfl ?_
  refine z_eq rfl rfl ((rput_sf (f' := qup f 0 0) rfl).trans (rput_cg (qup_self h0) rfl)) ?_
  refine z_iload_n d_X12_works_5 rfl rfl ?_
  refine z_iconst d_X12_works_6 (by decide) ?_
  refine z_bipush d_X12_works_7 (by decide) ?_
  refine z_cs (M1 := M_X12_in) d_X12_works_9 ls_X12_137 k_X12_in [qI (to : Int), qI 1, qI 24] rfl rfl (Nat.le_of_ble_eq_true rfl) (by decide) (by decide) (Nat.le_of_ble_eq_true rfl) (c_in (to : Int) 1 24) ?_
  refine z_ifeqB 24 d_X12_works_12 (by decide) (fun hc1 => absurd hc1 (by omega)) (fun hc1 => ?_)
  refine z_iload_n d_X12_works_15 rfl rfl ?_
  refine z_iconst d_X12_works_16 (by decide) ?_
  refine z_iconst d_X12_works_17 (by decide) ?_
  refine z_cs (M1 := M_X12_in) d_X12_works_18 ls_X12_137 k_X12_in [qI 2, qI 0, qI 2] rfl rfl (Nat.le_of_ble_eq_true rfl) (by decide) (by decide) (Nat.le_of_ble_eq_true rfl) (c_in 2 0 2) ?_
  refine z_ifneB 26 d_X12_works_21 (by decide) (fun hc2 => ?_) (fun hc2 => absurd hc2 (by omega))
  refine z_aload_n d_X12_works_26 rfl rfl ?_
  refine z_cv0 (M1 := M_X12_laysOwn) d_X12_works_27 lv_X12_275 k_X12_laysOwn [] rfl rfl rput_o ⟨_, _, rfl⟩ (Nat.le_of_ble_eq_true rfl) (by decide) (by decide) (Nat.le_of_ble_eq_true rfl) (c_laysOwn hm) ?_
  refine z_aload_n d_X12_works_30 rfl rfl ?_
  refine z_iload_n d_X12_works_31 rfl rfl ?_
  refine z_cv (M1 := M_X12_firstBad) d_X12_works_32 lv_X12_354 k_X12_firstBad [qI (to : Int)] rfl rfl rput_o ⟨_, _, rfl⟩ (Nat.le_of_ble_eq_true rfl) (by decide) (by decide) (Nat.le_of_ble_eq_true rfl) (c_firstBad (to := to) hm (by omega) (fun c hc => by rw [show layG g 25 c = ownT g c from layG_T hc]; exact bkTc_bd hO (by decide) c hc)) ?_
  refine z_istore_n (ls' := [qR m, qI (to : Int), qI 2, qI (fbR (layG g 25) to)]) d_X12_works_35 rfl (by decide) rfl ?_
  refine z_iload_n d_X12_works_36 rfl rfl ?_
  refine z_iconst d_X12_works_37 (by decide) ?_
  refine z_icmp_eq 45 d_X12_works_38 (by decide) (fun hc3 => ?_) (fun hc3 => absurd hc3 (by exact fun z => z ((fbR_cg layG_T2 (ownT_bd hO)).trans hg)))
  refine z_iload_n d_X12_works_45 rfl rfl ?_
  refine z_goto 66 d_X12_works_46 (by decide) ?_
  exact z_iret d_X12_works_66 rfl (qer er ((fbR_cg layG_T2 (ownT_bd hO)).trans hg).symm) eh
set_option maxRecDepth 20000 in
set_option maxHeartbeats 4000000 in
theorem c_soon_no {h : qH} {m : Nat} {f : Nat → Int} {g : Nat → Nat → Int} (n b what : Int) (hm : 2 ≤ m) (h0 : f 0 = 0) (hnR : R32 n) (hno : ¬ (((1 ≤ n ∧ n ≤ 32) ∧ 0 ≤ b ∧ b < n) ∧ 0 ≤ what ∧ what ≤ 1)) : qEx M_X12_soon 0 [qR m, qI n, qI b, qI what, qU, qU] [] (rput h m f g) (some (qI (-100))) (rput h m f g) := by
  refine q_gen (fun r hr er eh => ?_)
  refine z_aload_n d_X12_soon_0 rfl rfl ?_
  refine z_iconst d_X12_soon_1 (by decide) ?_
  refine z_putf (fs' := [qI 0, qI (f 1), qI (f 2), qI (f 3), qI (f 4), qI (f 5), qI (f 6), qI (f 7), qR (m + 1), qR (m + 2), qR (m + 3), qR (m + 4), qR (m + 5), qR (m + 6), qR (m + 7), qR (m + 8), qR (m + 9), qR (m + 10), qI (f 18), qI (f 19), qI (f 20), qR (m + 11), qR (m + 12), qR (m + 13), qR (m + 14), qI (f 25), qR (m + 15), qI (f 27), qR (m + 16), qR (m + 17), qR (m + 18), qR (m + 19), qR (m + 20), qR (m + 21), qR (m + 22), qR (m + 23), qR (m + 24), qI (f 37), qI (f 38), qI (f 39), qI (f 40), qR (m + 25), qR (m + 26), qR (m + 27), qR (m + 28), qR (m + 29), qR (m + 30), qR (m + 31), qI (f 48), qR (m + 32), qR (m + 33), qR (m + 34), qR (m + 35), qR (m + 36), qR (m + 37)]) d_X12_soon_2 fp_X12_127 rput_o (fun _ => rfl) (fun _ => rfl) (Nat.le_of_ble_eq_true rfl) rfl ?_
  refine z_eq rfl rfl ((rput_sf (f' := qup f 0 0) rfl).trans (rput_cg (qup_self h0) rfl)) ?_
  refine z_iload_n d_X12_soon_5 rfl rfl ?_
  refine z_iload_n d_X12_soon_6 rfl rfl ?_
  refine z_cs (M1 := M_X12_isRun) d_X12_soon_7 ls_X12_347 k_X12_isRun [qI n, qI b] rfl rfl (Nat.le_of_ble_eq_true rfl) (by decide) (by decide) (Nat.le_of_ble_eq_true rfl) (c_isRun2 n b (by omega)) ?_
  refine z_ifeqB 22 d_X12_soon_10 (by decide) (fun hc1 => ?_) (fun hc1 => ?_)
  · refine z_bipush d_X12_soon_22 (by decide) ?_
    exact z_iret d_X12_soon_24 rfl er eh
  · refine z_iload_n d_X12_soon_13 rfl rfl ?_
    refine z_iconst d_X12_soon_14 (by decide) ?_
    refine z_iconst d_X12_soon_15 (by decide) ?_
    refine z_cs (M1 := M_X12_in) d_X12_soon_16 ls_X12_137 k_X12_in [qI what, qI 0, qI 1] rfl rfl (Nat.le_of_ble_eq_true rfl) (by decide) (by decide) (Nat.le_of_ble_eq_true rfl) (c_in what 0 1) ?_
    refine z_ifneB 25 d_X12_soon_19 (by decide) (fun hc2 => ?_) (fun hc2 => ?_)
    · exact absurd (by omega) hno
    · refine z_bipush d_X12_soon_22 (by decide) ?_
      exact z_iret d_X12_soon_24 rfl er eh
set_option maxRecDepth 20000 in
set_option maxHeartbeats 4000000 in
theorem c_soon0 {h : qH} {m : Nat} {f : Nat → Int} {g : Nat → Nat → Int} {n : Nat} (b : Int) (hm : 2 ≤ m) (h0 : f 0 = 0) (hn : 1 ≤ n ∧ n ≤ 32) (hb : 0 ≤ b ∧ b < n) : qEx M_X12_soon 0 [qR m, qI (n : Int), qI b, qI 0, qU, qU] [] (rput h m f g) (some (qI (2 * (n : Int) - 2 - if b < (n : Int) - 1 - b then b else (n : Int) - 1 - b))) (rput h m f g) := by
  refine q_gen (fun r hr er eh => ?_)
  refine z_aload_n d_X12_soon_0 rfl rfl ?_
  refine z_iconst d_X12_soon_1 (by decide) ?_
  refine z_putf (fs' := [qI 0, qI (f 1), qI (f 2), qI (f 3), qI (f 4), qI (f 5), qI (f 6), qI (f 7), qR (m + 1), qR (m + 2), qR (m + 3), qR (m + 4), qR (m + 5), qR (m + 6), qR (m + 7), qR (m + 8), qR (m + 9), qR (m + 10), qI (f 18), qI (f 19), qI (f 20), qR (m + 11), qR (m + 12), qR (m + 13), qR (m + 14), qI (f 25), qR (m + 15), qI (f 27), qR (m + 16), qR (m + 17), qR (m + 18), qR (m + 19), qR (m + 20), qR (m + 21), qR (m + 22), qR (m + 23), qR (m + 24), qI (f 37), qI (f 38), qI (f 39), qI (f 40), qR (m + 25), qR (m + 26), qR (m + 27), qR (m + 28), qR (m + 29), qR (m + 30), qR (m + 31), qI (f 48), qR (m + 32), qR (m + 33), qR (m + 34), qR (m + 35), qR (m + 36), qR (m + 37)]) d_X12_soon_2 fp_X12_127 rput_o (fun _ => rfl) (fun _ => rfl) (Nat.le_of_ble_eq_true rfl) rfl ?_
  refine z_eq rfl rfl ((rput_sf (f' := qup f 0 0) rfl).trans (rput_cg (qup_self h0) rfl)) ?_
  refine z_iload_n d_X12_soon_5 rfl rfl ?_
  refine z_iload_n d_X12_soon_6 rfl rfl ?_
  refine z_cs (M1 := M_X12_isRun) d_X12_soon_7 ls_X12_347 k_X12_isRun [qI (n : Int), qI b] rfl rfl (Nat.le_of_ble_eq_true rfl) (by decide) (by decide) (Nat.le_of_ble_eq_true rfl) (c_isRun2 (n : Int) b (by omega)) ?_
  refine z_ifeqB 22 d_X12_soon_10 (by decide) (fun hc1 => absurd hc1 (by omega)) (fun hc1 => ?_)
  refine z_iload_n d_X12_soon_13 rfl rfl ?_
  refine z_iconst d_X12_soon_14 (by decide) ?_
  refine z_iconst d_X12_soon_15 (by decide) ?_
  refine z_cs (M1 := M_X12_in) d_X12_soon_16 ls_X12_137 k_X12_in [qI 0, qI 0, qI 1] rfl rfl (Nat.le_of_ble_eq_true rfl) (by decide) (by decide) (Nat.le_of_ble_eq_true rfl) (c_in 0 0 1) ?_
  refine z_ifneB 25 d_X12_soon_19 (by decide) (fun hc2 => ?_) (fun hc2 => absurd hc2 (by omega))
  refine z_iconst d_X12_soon_25 (by decide) ?_
  refine z_iload_n d_X12_soon_26 rfl rfl ?_
  refine z_imul d_X12_soon_27 (by omega) ?_
  refine z_iconst d_X12_soon_28 (by decide) ?_
  refine z_isub d_X12_soon_29 (by omega) ?_
  refine z_iload_n d_X12_soon_30 rfl rfl ?_
  refine z_iload_n d_X12_soon_31 rfl rfl ?_
  refine z_iconst d_X12_soon_32 (by decide) ?_
  refine z_isub d_X12_soon_33 (by omega) ?_
  refine z_iload_n d_X12_soon_34 rfl rfl ?_
  refine z_isub d_X12_soon_35 (by omega) ?_
  refine z_cs (M1 := M_X12_less) d_X12_soon_36 ls_X12_357 k_X12_less [qI b, qI (((n : Int) - 1) - b)] rfl rfl (Nat.le_of_ble_eq_true rfl) (by decide) (by decide) (Nat.le_of_ble_eq_true rfl) (c_less b (((n : Int) - 1) - b)) ?_
  refine z_isub d_X12_soon_39 (by omega) ?_
  refine z_istore (ls' := [qR m, qI (n : Int), qI b, qI 0, qI (((2 * (n : Int)) - 2) - (if b < (((n : Int) - 1) - b) then b else (((n : Int) - 1) - b))), qU]) d_X12_soon_40 (by decide) rfl ?_
  refine z_iload_n d_X12_soon_42 rfl rfl ?_
  refine z_if_ne 49 d_X12_soon_43 (by decide) (fun hc3 => absurd hc3 (by decide)) (fun hc3 => ?_)
  refine z_iload d_X12_soon_46 rfl ?_
  exact z_iret d_X12_soon_48 rfl (qer er (by omega)) eh
set_option maxRecDepth 20000 in
set_option maxHeartbeats 4000000 in
theorem c_soon1 {h : qH} {m : Nat} {f : Nat → Int} {g : Nat → Nat → Int} {n : Nat} (b : Int) (hm : 2 ≤ m) (h0 : f 0 = 0) (hn : 1 ≤ n ∧ n ≤ 32) (hb : 0 ≤ b ∧ b < n) (hO : bkOk (g 2) (g 5)) : qEx M_X12_soon 0 [qR m, qI (n : Int), qI b, qI 1, qU, qU] [] (rput h m f g) (some (qI (qif (rnT (ownT g) n 0 b = -1) (-100) (rnT (ownT g) n 0 b - (2 * (n : Int) - 2 - if b < (n : Int) - 1 - b then b else (n : Int) - 1 - b))))) (rput h m f (scr (layG g) n (rnE (layG g 25) n 0 b))) := by
  refine q_gen (fun r hr er eh => ?_)
  refine z_aload_n d_X12_soon_0 rfl rfl ?_
  refine z_iconst d_X12_soon_1 (by decide) ?_
  refine z_putf (fs' := [qI 0, qI (f 1), qI (f 2), qI (f 3), qI (f 4), qI (f 5), qI (f 6), qI (f 7), qR (m + 1), qR (m + 2), qR (m + 3), qR (m + 4), qR (m + 5), qR (m + 6), qR (m + 7), qR (m + 8), qR (m + 9), qR (m + 10), qI (f 18), qI (f 19), qI (f 20), qR (m + 11), qR (m + 12), qR (m + 13), qR (m + 14), qI (f 25), qR (m + 15), qI (f 27), qR (m + 16), qR (m + 17), qR (m + 18), qR (m + 19), qR (m + 20), qR (m + 21), qR (m + 22), qR (m + 23), qR (m + 24), qI (f 37), qI (f 38), qI (f 39), qI (f 40), qR (m + 25), qR (m + 26), qR (m + 27), qR (m + 28), qR (m + 29), qR (m + 30), qR (m + 31), qI (f 48), qR (m + 32), qR (m + 33), qR (m + 34), qR (m + 35), qR (m + 36), qR (m + 37)]) d_X12_soon_2 fp_X12_127 rput_o (fun _ => rfl) (fun _ => rfl) (Nat.le_of_ble_eq_true rfl) rfl ?_
  refine z_eq rfl rfl ((rput_sf (f' := qup f 0 0) rfl).trans (rput_cg (qup_self h0) rfl)) ?_
  refine z_iload_n d_X12_soon_5 rfl rfl ?_
  refine z_iload_n d_X12_soon_6 rfl rfl ?_
  refine z_cs (M1 := M_X12_isRun) d_X12_soon_7 ls_X12_347 k_X12_isRun [qI (n : Int), qI b] rfl rfl (Nat.le_of_ble_eq_true rfl) (by decide) (by decide) (Nat.le_of_ble_eq_true rfl) (c_isRun2 (n : Int) b (by omega)) ?_
  refine z_ifeqB 22 d_X12_soon_10 (by decide) (fun hc1 => absurd hc1 (by omega)) (fun hc1 => ?_)
  refine z_iload_n d_X12_soon_13 rfl rfl ?_
  refine z_iconst d_X12_soon_14 (by decide) ?_
  refine z_iconst d_X12_soon_15 (by decide) ?_
  refine z_cs (M1 := M_X12_in) d_X12_soon_16 ls_X12_137 k_X12_in [qI 1, qI 0, qI 1] rfl rfl (Nat.le_of_ble_eq_true rfl) (by decide) (by decide) (Nat.le_of_ble_eq_true rfl) (c_in 1 0 1) ?_
  refine z_ifneB 25 d_X12_soon_19 (by decide) (fun hc2 => ?_) (fun hc2 => absurd hc2 (by omega))
  refine z_iconst d_X12_soon_25 (by decide) ?_
  refine z_iload_n d_X12_soon_26 rfl rfl ?_
  refine z_imul d_X12_soon_27 (by omega) ?_
  refine z_iconst d_X12_soon_28 (by decide) ?_
  refine z_isub d_X12_soon_29 (by omega) ?_
  refine z_iload_n d_X12_soon_30 rfl rfl ?_
  refine z_iload_n d_X12_soon_31 rfl rfl ?_
  refine z_iconst d_X12_soon_32 (by decide) ?_
  refine z_isub d_X12_soon_33 (by omega) ?_
  refine z_iload_n d_X12_soon_34 rfl rfl ?_
  refine z_isub d_X12_soon_35 (by omega) ?_
  refine z_cs (M1 := M_X12_less) d_X12_soon_36 ls_X12_357 k_X12_less [qI b, qI (((n : Int) - 1) - b)] rfl rfl (Nat.le_of_ble_eq_true rfl) (by decide) (by decide) (Nat.le_of_ble_eq_true rfl) (c_less b (((n : Int) - 1) - b)) ?_
  refine z_isub d_X12_soon_39 (by omega) ?_
  refine z_istore (ls' := [qR m, qI (n : Int), qI b, qI 1, qI (((2 * (n : Int)) - 2) - (if b < (((n : Int) - 1) - b) then b else (((n : Int) - 1) - b))), qU]) d_X12_soon_40 (by decide) rfl ?_
  refine z_iload_n d_X12_soon_42 rfl rfl ?_
  refine z_if_ne 49 d_X12_soon_43 (by decide) (fun hc3 => ?_) (fun hc3 => absurd (by decide) hc3)
  refine z_aload_n d_X12_soon_49 rfl rfl ?_
  refine z_iload_n d_X12_soon_50 rfl rfl ?_
  refine z_iload_n d_X12_soon_51 rfl rfl ?_
  refine z_iconst d_X12_soon_52 (by decide) ?_
  refine z_iconst d_X12_soon_53 (by decide) ?_
  refine z_cv (M1 := M_X12_fireOf) d_X12_soon_54 lv_X12_350 k_X12_fireOf [qI (n : Int), qI b, qI 0, qI 0] rfl rfl rput_o ⟨_, _, rfl⟩ (Nat.le_of_ble_eq_true rfl) (by decide) (by decide) (Nat.le_of_ble_eq_true rfl) (c_fireOf00 (n := n) b hm (by omega) hO) ?_
  refine z_eq rfl (qc (qi (show (rnT (layG g 25) n 0 b) = (rnT (ownT g) n 0 b) from rnT_cg layG_T2 (ownT_bd hO))) rfl) rfl ?_
  have hrb := rnT_bd (T := ownT g) (n := n) (rg := 0) (b := b)
  refine z_istore (ls' := [qR m, qI (n : Int), qI b, qI 1, qI (((2 * (n : Int)) - 2) - (if b < (((n : Int) - 1) - b) then b else (((n : Int) - 1) - b))), qI (rnT (ownT g) n 0 b)]) d_X12_soon_57 (by decide) rfl ?_
  refine z_iload d_X12_soon_59 rfl ?_
  refine z_iconst d_X12_soon_61 (by decide) ?_
  suffices kJ62 : qEx M_X12_soon 75 [qR m, qI (n : Int), qI b, qI 1, qI (((2 * (n : Int)) - 2) - (if b < (((n : Int) - 1) - b) then b else (((n : Int) - 1) - b))), qI (rnT (ownT g) n 0 b)] [qI (qif ((rnT (ownT g) n 0 b) ≠ (-1)) ((rnT (ownT g) n 0 b) - (((2 * (n : Int)) - 2) - (if b < (((n : Int) - 1) - b) then b else (((n : Int) - 1) - b)))) (-100))] (rput h m f (scr (layG g) n (rnE (layG g 25) n 0 b))) r hr by
    refine z_icmp_ne 70 d_X12_soon_62 (by decide) (fun hc4 => ?_) (fun hc4 => ?_)
    · refine z_iload d_X12_soon_70 rfl ?_
      refine z_iload d_X12_soon_72 rfl ?_
      refine z_isub d_X12_soon_74 (by omega) ?_
      exact z_eq rfl (qc (qi (qif_t hc4).symm) rfl) rfl kJ62
    · refine z_bipush d_X12_soon_65 (by decide) ?_
      refine z_goto 75 d_X12_soon_67 (by decide) ?_
      exact z_eq rfl (qc (qi (qif_f hc4).symm) rfl) rfl kJ62
  exact z_iret d_X12_soon_75 rfl (qer er (by rw [qif_not])) eh
set_option maxRecDepth 20000 in
set_option maxHeartbeats 4000000 in
theorem c_works1 {h : qH} {m : Nat} {f : Nat → Int} {g : Nat → Nat → Int} {to : Nat} (hm : 2 ≤ m) (h0 : f 0 = 0) (ht : 1 ≤ to ∧ to ≤ 24) (hO : bkOk (g 2) (g 5)) (hbad : fbR (ownT g) to ≠ -1) : qEx M_X12_works 0 [qR m, qI (to : Int), qI 1, qU] [] (rput h m f g) (some (qI (rnT (ownT g) (fbN (ownT g) to) 0 0))) (rput h m f (scr (layG (scr (layG g) (fbN (layG g 25) to) (rnE (layG g 25) (fbN (layG g 25) to) 0 0))) (fbN (ownT g) to) (rnE (layG (scr (layG g) (fbN (layG g 25) to) (rnE (layG g 25) (fbN (layG g 25) to) 0 0)) 25) (fbN (ownT g) to) 0 0))) := by
  refine q_gen (fun r hr er eh => ?_)
  have hN9 := fbR_N hbad
  refine z_aload_n d_X12_works_0 rfl rfl ?_
  refine z_iconst d_X12_works_1 (by decide) ?_
  refine z_putf (fs' := [qI 0, qI (f 1), qI (f 2), qI (f 3), qI (f 4), qI (f 5), qI (f 6), qI (f 7), qR (m + 1), qR (m + 2), qR (m + 3), qR (m + 4), qR (m + 5), qR (m + 6), qR (m + 7), qR (m + 8), qR (m + 9), qR (m + 10), qI (f 18), qI (f 19), qI (f 20), qR (m + 11), qR (m + 12), qR (m + 13), qR (m + 14), qI (f 25), qR (m + 15), qI (f 27), qR (m + 16), qR (m + 17), qR (m + 18), qR (m + 19), qR (m + 20), qR (m + 21), qR (m + 22), qR (m + 23), qR (m + 24), qI (f 37), qI (f 38), qI (f 39), qI (f 40), qR (m + 25), qR (m + 26), qR (m + 27), qR (m + 28), qR (m + 29), qR (m + 30), qR (m + 31), qI (f 48), qR (m + 32), qR (m + 33), qR (m + 34), qR (m + 35), qR (m + 36), qR (m + 37)]) d_X12_works_2 fp_X12_127 rput_o (fun _ => rfl) (fun _ => rfl) (Nat.le_of_ble_eq_true rfl) rfl ?_
  refine z_eq rfl rfl ((rput_sf (f' := qup f 0 0) rfl).trans (rput_cg (qup_self h0) rfl)) ?_
  refine z_iload_n d_X12_works_5 rfl rfl ?_
  refine z_iconst d_X12_works_6 (by decide) ?_
  refine z_bipush d_X12_works_7 (by decide) ?_
  refine z_cs (M1 := M_X12_in) d_X12_works_9 ls_X12_137 k_X12_in [qI (to : Int), qI 1, qI 24] rfl rfl (Nat.le_of_ble_eq_true rfl) (by decide) (by decide) (Nat.le_of_ble_eq_true rfl) (c_in (to : Int) 1 24) ?_
  refine z_ifeqB 24 d_X12_works_12 (by decide) (fun hc1 => absurd hc1 (by omega)) (fun hc1 => ?_)
  refine z_iload_n d_X12_works_15 rfl rfl ?_
  refine z_iconst d_X12_works_16 (by decide) ?_
  refine z_iconst d_X12_works_17 (by decide) ?_
  refine z_cs (M1 := M_X12_in) d_X12_works_18 ls_X12_137 k_X12_in [qI 1, qI 0, qI 2] rfl rfl (Nat.le_of_ble_eq_true rfl) (by decide) (by decide) (Nat.le_of_ble_eq_true rfl) (c_in 1 0 2) ?_
  refine z_ifneB 26 d_X12_works_21 (by decide) (fun hc2 => ?_) (fun hc2 => absurd hc2 (by omega))
  refine z_aload_n d_X12_works_26 rfl rfl ?_
  refine z_cv0 (M1 := M_X12_laysOwn) d_X12_works_27 lv_X12_275 k_X12_laysOwn [] rfl rfl rput_o ⟨_, _, rfl⟩ (Nat.le_of_ble_eq_true rfl) (by decide) (by decide) (Nat.le_of_ble_eq_true rfl) (c_laysOwn hm) ?_
  refine z_aload_n d_X12_works_30 rfl rfl ?_
  refine z_iload_n d_X12_works_31 rfl rfl ?_
  refine z_cv (M1 := M_X12_firstBad) d_X12_works_32 lv_X12_354 k_X12_firstBad [qI (to : Int)] rfl rfl rput_o ⟨_, _, rfl⟩ (Nat.le_of_ble_eq_true rfl) (by decide) (by decide) (Nat.le_of_ble_eq_true rfl) (c_firstBad (to := to) hm (by omega) (fun c hc => by rw [show layG g 25 c = ownT g c from layG_T hc]; exact bkTc_bd hO (by decide) c hc)) ?_
  refine z_istore_n (ls' := [qR m, qI (to : Int), qI 1, qI (fbR (layG g 25) to)]) d_X12_works_35 rfl (by decide) rfl ?_
  refine z_eq (qc rfl (qc rfl (qc rfl (qc (qi (show (fbR (layG g 25) to) = (((fbN (ownT g) to) : Nat) : Int) from (fbR_cg layG_T2 (ownT_bd hO)).trans hN9.1)) rfl)))) rfl rfl ?_
  refine z_iload_n d_X12_works_36 rfl rfl ?_
  refine z_iconst d_X12_works_37 (by decide) ?_
  refine z_icmp_eq 45 d_X12_works_38 (by decide) (fun hc3 => absurd hc3 (by omega)) (fun hc3 => ?_)
  refine z_iload_n d_X12_works_41 rfl rfl ?_
  refine z_if_ne 49 d_X12_works_42 (by decide) (fun hc4 => ?_) (fun hc4 => absurd (by decide) hc4)
  refine z_aload_n d_X12_works_49 rfl rfl ?_
  refine z_iload_n d_X12_works_50 rfl rfl ?_
  refine z_iconst d_X12_works_51 (by decide) ?_
  refine z_iconst d_X12_works_52 (by decide) ?_
  refine z_iload_n d_X12_works_53 rfl rfl ?_
  refine z_iconst d_X12_works_54 (by decide) ?_
  refine z_icmp_ne 62 d_X12_works_55 (by decide) (fun hc5 => absurd hc5 (by decide)) (fun hc5 => ?_)
  refine z_iconst d_X12_works_58 (by decide) ?_
  refine z_goto 63 d_X12_works_59 (by decide) ?_
  refine z_cv (M1 := M_X12_fireOf) d_X12_works_63 lv_X12_350 k_X12_fireOf [qI (((fbN (ownT g) to) : Nat) : Int), qI 0, qI 0, qI 0] rfl rfl rput_o ⟨_, _, rfl⟩ (Nat.le_of_ble_eq_true rfl) (by decide) (by decide) (Nat.le_of_ble_eq_true rfl) (c_fireOf00 (n := (fbN (ownT g) to)) 0 hm (by omega) hO) ?_
  exact z_iret d_X12_works_66 rfl (qer er (rnT_cg (T := layG (scr (layG g) (fbN (layG g 25) to) (rnE (layG g 25) (fbN (layG g 25) to) 0 0)) 25) (S := ownT g) (fun c hc => layG_T (g := scr (layG g) (fbN (layG g 25) to) (rnE (layG g 25) (fbN (layG g 25) to) 0 0)) hc) (ownT_bd hO)).symm) eh
set_option maxRecDepth 20000 in
set_option maxHeartbeats 4000000 in
theorem c_works2 {h : qH} {m : Nat} {f : Nat → Int} {g : Nat → Nat → Int} {to : Nat} (hm : 2 ≤ m) (h0 : f 0 = 0) (ht : 1 ≤ to ∧ to ≤ 24) (hO : bkOk (g 2) (g 5)) (hbad : fbR (ownT g) to ≠ -1) : qEx M_X12_works 0 [qR m, qI (to : Int), qI 2, qU] [] (rput h m f g) (some (qI (fst (fun k => ¬ rnE (ownT g) (fbN (ownT g) to) 0 0 k = 7) (fbN (ownT g) to)))) (rput h m f (scr (layG (scr (layG g) (fbN (layG g 25) to) (rnE (layG g 25) (fbN (layG g 25) to) 0 0))) (fbN (ownT g) to) (rnE (layG (scr (layG g) (fbN (layG g 25) to) (rnE (layG g 25) (fbN (layG g 25) to) 0 0)) 25) (fbN (ownT g) to) 0 0))) := by
  refine q_gen (fun r hr er eh => ?_)
  have hN9 := fbR_N hbad
  refine z_aload_n d_X12_works_0 rfl rfl ?_
  refine z_iconst d_X12_works_1 (by decide) ?_
  refine z_putf (fs' := [qI 0, qI (f 1), qI (f 2), qI (f 3), qI (f 4), qI (f 5), qI (f 6), qI (f 7), qR (m + 1), qR (m + 2), qR (m + 3), qR (m + 4), qR (m + 5), qR (m + 6), qR (m + 7), qR (m + 8), qR (m + 9), qR (m + 10), qI (f 18), qI (f 19), qI (f 20), qR (m + 11), qR (m + 12), qR (m + 13), qR (m + 14), qI (f 25), qR (m + 15), qI (f 27), qR (m + 16), qR (m + 17), qR (m + 18), qR (m + 19), qR (m + 20), qR (m + 21), qR (m + 22), qR (m + 23), qR (m + 24), qI (f 37), qI (f 38), qI (f 39), qI (f 40), qR (m + 25), qR (m + 26), qR (m + 27), qR (m + 28), qR (m + 29), qR (m + 30), qR (m + 31), qI (f 48), qR (m + 32), qR (m + 33), qR (m + 34), qR (m + 35), qR (m + 36), qR (m + 37)]) d_X12_works_2 fp_X12_127 rput_o (fun _ => rfl) (fun _ => rfl) (Nat.le_of_ble_eq_true rfl) rfl ?_
  refine z_eq rfl rfl ((rput_sf (f' := qup f 0 0) rfl).trans (rput_cg (qup_self h0) rfl)) ?_
  refine z_iload_n d_X12_works_5 rfl rfl ?_
  refine z_iconst d_X12_works_6 (by decide) ?_
  refine z_bipush d_X12_works_7 (by decide) ?_
  refine z_cs (M1 := M_X12_in) d_X12_works_9 ls_X12_137 k_X12_in [qI (to : Int), qI 1, qI 24] rfl rfl (Nat.le_of_ble_eq_true rfl) (by decide) (by decide) (Nat.le_of_ble_eq_true rfl) (c_in (to : Int) 1 24) ?_
  refine z_ifeqB 24 d_X12_works_12 (by decide) (fun hc1 => absurd hc1 (by omega)) (fun hc1 => ?_)
  refine z_iload_n d_X12_works_15 rfl rfl ?_
  refine z_iconst d_X12_works_16 (by decide) ?_
  refine z_iconst d_X12_works_17 (by decide) ?_
  refine z_cs (M1 := M_X12_in) d_X12_works_18 ls_X12_137 k_X12_in [qI 2, qI 0, qI 2] rfl rfl (Nat.le_of_ble_eq_true rfl) (by decide) (by decide) (Nat.le_of_ble_eq_true rfl) (c_in 2 0 2) ?_
  refine z_ifneB 26 d_X12_works_21 (by decide) (fun hc2 => ?_) (fun hc2 => absurd hc2 (by omega))
  refine z_aload_n d_X12_works_26 rfl rfl ?_
  refine z_cv0 (M1 := M_X12_laysOwn) d_X12_works_27 lv_X12_275 k_X12_laysOwn [] rfl rfl rput_o ⟨_, _, rfl⟩ (Nat.le_of_ble_eq_true rfl) (by decide) (by decide) (Nat.le_of_ble_eq_true rfl) (c_laysOwn hm) ?_
  refine z_aload_n d_X12_works_30 rfl rfl ?_
  refine z_iload_n d_X12_works_31 rfl rfl ?_
  refine z_cv (M1 := M_X12_firstBad) d_X12_works_32 lv_X12_354 k_X12_firstBad [qI (to : Int)] rfl rfl rput_o ⟨_, _, rfl⟩ (Nat.le_of_ble_eq_true rfl) (by decide) (by decide) (Nat.le_of_ble_eq_true rfl) (c_firstBad (to := to) hm (by omega) (fun c hc => by rw [show layG g 25 c = ownT g c from layG_T hc]; exact bkTc_bd hO (by decide) c hc)) ?_
  refine z_istore_n (ls' := [qR m, qI (to : Int), qI 2, qI (fbR (layG g 25) to)]) d_X12_works_35 rfl (by decide) rfl ?_
  refine z_eq (qc rfl (qc rfl (qc rfl (qc (qi (show (fbR (layG g 25) to) = (((fbN (ownT g) to) : Nat) : Int) from (fbR_cg layG_T2 (ownT_bd hO)).trans hN9.1)) rfl)))) rfl rfl ?_
  refine z_iload_n d_X12_works_36 rfl rfl ?_
  refine z_iconst d_X12_works_37 (by decide) ?_
  refine z_icmp_eq 45 d_X12_works_38 (by decide) (fun hc3 => absurd hc3 (by omega)) (fun hc3 => ?_)
  refine z_iload_n d_X12_works_41 rfl rfl ?_
  refine z_if_ne 49 d_X12_works_42 (by decide) (fun hc4 => ?_) (fun hc4 => absurd (by decide) hc4)
  refine z_aload_n d_X12_works_49 rfl rfl ?_
  refine z_iload_n d_X12_works_50 rfl rfl ?_
  refine z_iconst d_X12_works_51 (by decide) ?_
  refine z_iconst d_X12_works_52 (by decide) ?_
  refine z_iload_n d_X12_works_53 rfl rfl ?_
  refine z_iconst d_X12_works_54 (by decide) ?_
  refine z_icmp_ne 62 d_X12_works_55 (by decide) (fun hc5 => ?_) (fun hc5 => absurd (by decide) hc5)
  refine z_iconst d_X12_works_62 (by decide) ?_
  refine z_cv (M1 := M_X12_fireOf) d_X12_works_63 lv_X12_350 k_X12_fireOf [qI (((fbN (ownT g) to) : Nat) : Int), qI 0, qI 0, qI 2] rfl rfl rput_o ⟨_, _, rfl⟩ (Nat.le_of_ble_eq_true rfl) (by decide) (by decide) (Nat.le_of_ble_eq_true rfl) (c_fireOf02 (n := (fbN (ownT g) to)) 0 hm (by omega) hO) ?_
  exact z_iret d_X12_works_66 rfl (qer er (rnD_cg (T := layG (scr (layG g) (fbN (layG g 25) to) (rnE (layG g 25) (fbN (layG g 25) to) 0 0)) 25) (S := ownT g) (fun c hc => layG_T (g := scr (layG g) (fbN (layG g 25) to) (rnE (layG g 25) (fbN (layG g 25) to) 0 0)) hc) (ownT_bd hO)).symm) eh
noncomputable def wornT (g : Nat → Nat → Int) (i : Int) : Nat → Int := bkTc (g 2) (g 5) 15 i (-1) 0
noncomputable def mendT (g : Nat → Nat → Int) (i m : Int) : Nat → Int := bkTc (g 2) (g 5) 15 (-1) i m
theorem q648 {X Z : Nat → Int} : ∀ c, c < 648 → qmx 648 X Z c = X c := fun _ h => qmx_lt h
set_option maxRecDepth 20000 in
set_option maxHeartbeats 4000000 in
theorem c_worn_no {h : qH} {m : Nat} {f : Nat → Int} {g : Nat → Nat → Int} (i to : Int) (hm : 2 ≤ m) (h0 : f 0 = 0) (hno : ¬ ((0 ≤ i ∧ i ≤ 95 ∧ i % 24 < g 5 (i.toNat / 24)) ∧ 1 ≤ to ∧ to ≤ 24)) : qEx M_X12_worn 0 [qR m, qI i, qI to] [] (rput h m f g) (some (qI (-1))) (rput h m f g) := by
  refine q_gen (fun r hr er eh => ?_)
  refine z_aload_n d_X12_worn_0 rfl rfl ?_
  refine z_iconst d_X12_worn_1 (by decide) ?_
  refine z_putf (fs' := [qI 0, qI (f 1), qI (f 2), qI (f 3), qI (f 4), qI (f 5), qI (f 6), qI (f 7), qR (m + 1), qR (m + 2), qR (m + 3), qR (m + 4), qR (m + 5), qR (m + 6), qR (m + 7), qR (m + 8), qR (m + 9), qR (m + 10), qI (f 18), qI (f 19), qI (f 20), qR (m + 11), qR (m + 12), qR (m + 13), qR (m + 14), qI (f 25), qR (m + 15), qI (f 27), qR (m + 16), qR (m + 17), qR (m + 18), qR (m + 19), qR (m + 20), qR (m + 21), qR (m + 22), qR (m + 23), qR (m + 24), qI (f 37), qI (f 38), qI (f 39), qI (f 40), qR (m + 25), qR (m + 26), qR (m + 27), qR (m + 28), qR (m + 29), qR (m + 30), qR (m + 31), qI (f 48), qR (m + 32), qR (m + 33), qR (m + 34), qR (m + 35), qR (m + 36), qR (m + 37)]) d_X12_worn_2 fp_X12_127 rput_o (fun _ => rfl) (fun _ => rfl) (Nat.le_of_ble_eq_true rfl) rfl ?_
  refine z_eq rfl rfl ((rput_sf (f' := qup f 0 0) rfl).trans (rput_cg (qup_self h0) rfl)) ?_
  refine z_aload_n d_X12_worn_5 rfl rfl ?_
  refine z_iload_n d_X12_worn_6 rfl rfl ?_
  refine z_cv (M1 := M_X12_isRule) d_X12_worn_7 lv_X12_366 k_X12_isRule [qI i] rfl rfl rput_o ⟨_, _, rfl⟩ (Nat.le_of_ble_eq_true rfl) (by decide) (by decide) (Nat.le_of_ble_eq_true rfl) (c_isRule i hm) ?_
  refine z_ifeqB 23 d_X12_worn_10 (by decide) (fun q1 => ?_) (fun q1 => ?_)
  · refine z_iconst d_X12_worn_23 (by decide) ?_
    exact z_iret d_X12_worn_24 rfl er eh
  · refine z_iload_n d_X12_worn_13 rfl rfl ?_
    refine z_iconst d_X12_worn_14 (by decide) ?_
    refine z_bipush d_X12_worn_15 (by decide) ?_
    refine z_cs (M1 := M_X12_in) d_X12_worn_17 ls_X12_137 k_X12_in [qI to, qI 1, qI 24] rfl rfl (Nat.le_of_ble_eq_true rfl) (by decide) (by decide) (Nat.le_of_ble_eq_true rfl) (c_in to 1 24) ?_
    refine z_ifneB 25 d_X12_worn_20 (by decide) (fun q2 => ?_) (fun q2 => ?_)
    · exact absurd ⟨q1, q2⟩ hno
    · refine z_iconst d_X12_worn_23 (by decide) ?_
      exact z_iret d_X12_worn_24 rfl er eh
set_option maxRecDepth 20000 in
set_option maxHeartbeats 4000000 in
theorem c_mends_no {h : qH} {m : Nat} {f : Nat → Int} {g : Nat → Nat → Int} (i to : Int) (hm : 2 ≤ m) (h0 : f 0 = 0) (hno : ¬ ((0 ≤ i ∧ i ≤ 95 ∧ i % 24 < g 5 (i.toNat / 24)) ∧ 1 ≤ to ∧ to ≤ 24)) : qEx M_X12_mends 0 [qR m, qI i, qI to, qU, qU] [] (rput h m f g) (some (qI (-1))) (rput h m f g) := by
  refine q_gen (fun r hr er eh => ?_)
  refine z_aload_n d_X12_mends_0 rfl rfl ?_
  refine z_iconst d_X12_mends_1 (by decide) ?_
  refine z_putf (fs' := [qI 0, qI (f 1), qI (f 2), qI (f 3), qI (f 4), qI (f 5), qI (f 6), qI (f 7), qR (m + 1), qR (m + 2), qR (m + 3), qR (m + 4), qR (m + 5), qR (m + 6), qR (m + 7), qR (m + 8), qR (m + 9), qR (m + 10), qI (f 18), qI (f 19), qI (f 20), qR (m + 11), qR (m + 12), qR (m + 13), qR (m + 14), qI (f 25), qR (m + 15), qI (f 27), qR (m + 16), qR (m + 17), qR (m + 18), qR (m + 19), qR (m + 20), qR (m + 21), qR (m + 22), qR (m + 23), qR (m + 24), qI (f 37), qI (f 38), qI (f 39), qI (f 40), qR (m + 25), qR (m + 26), qR (m + 27), qR (m + 28), qR (m + 29), qR (m + 30), qR (m + 31), qI (f 48), qR (m + 32), qR (m + 33), qR (m + 34), qR (m + 35), qR (m + 36), qR (m + 37)]) d_X12_mends_2 fp_X12_127 rput_o (fun _ => rfl) (fun _ => rfl) (Nat.le_of_ble_eq_true rfl) rfl ?_
  refine z_eq rfl rfl ((rput_sf (f' := qup f 0 0) rfl).trans (rput_cg (qup_self h0) rfl)) ?_
  refine z_aload_n d_X12_mends_5 rfl rfl ?_
  refine z_iload_n d_X12_mends_6 rfl rfl ?_
  refine z_cv (M1 := M_X12_isRule) d_X12_mends_7 lv_X12_366 k_X12_isRule [qI i] rfl rfl rput_o ⟨_, _, rfl⟩ (Nat.le_of_ble_eq_true rfl) (by decide) (by decide) (Nat.le_of_ble_eq_true rfl) (c_isRule i hm) ?_
  refine z_ifeqB 23 d_X12_mends_10 (by decide) (fun q1 => ?_) (fun q1 => ?_)
  · refine z_iconst d_X12_mends_23 (by decide) ?_
    exact z_iret d_X12_mends_24 rfl er eh
  · refine z_iload_n d_X12_mends_13 rfl rfl ?_
    refine z_iconst d_X12_mends_14 (by decide) ?_
    refine z_bipush d_X12_mends_15 (by decide) ?_
    refine z_cs (M1 := M_X12_in) d_X12_mends_17 ls_X12_137 k_X12_in [qI to, qI 1, qI 24] rfl rfl (Nat.le_of_ble_eq_true rfl) (by decide) (by decide) (Nat.le_of_ble_eq_true rfl) (c_in to 1 24) ?_
    refine z_ifneB 25 d_X12_mends_20 (by decide) (fun q2 => ?_) (fun q2 => ?_)
    · exact absurd ⟨q1, q2⟩ hno
    · refine z_iconst d_X12_mends_23 (by decide) ?_
      exact z_iret d_X12_mends_24 rfl er eh
set_option maxRecDepth 20000 in
set_option maxHeartbeats 4000000 in
theorem c_worn {h : qH} {m : Nat} {f : Nat → Int} {g : Nat → Nat → Int} (i : Int) {to : Nat} (hm : 2 ≤ m) (h0 : f 0 = 0) (hi : (0 ≤ i ∧ i ≤ 95 ∧ i % 24 < g 5 (i.toNat / 24))) (ht : 1 ≤ to ∧ to ≤ 24) (hO : bkOk (g 2) (g 5)) : qEx M_X12_worn 0 [qR m, qI i, qI (to : Int)] [] (rput h m f g) (some (qI (fbR (wornT g i) to))) (rput h m f (scr (gup (gup g 25 (qmx 648 (bkTc (g 2) (g 5) 15 i (-1) 0) (g 25))) 26 (qmx 648 (bkFc (g 2) (g 5) 15 i) (g 26))) (fbN (qmx 648 (bkTc (g 2) (g 5) 15 i (-1) 0) (g 25)) to) (rnE (qmx 648 (bkTc (g 2) (g 5) 15 i (-1) 0) (g 25)) (fbN (qmx 648 (bkTc (g 2) (g 5) 15 i (-1) 0) (g 25)) to) 0 0))) := by
  refine q_gen (fun r hr er eh => ?_)
  refine z_aload_n d_X12_worn_0 rfl rfl ?_
  refine z_iconst d_X12_worn_1 (by decide) ?_
  refine z_putf (fs' := [qI 0, qI (f 1), qI (f 2), qI (f 3), qI (f 4), qI (f 5), qI (f 6), qI (f 7), qR (m + 1), qR (m + 2), qR (m + 3), qR (m + 4), qR (m + 5), qR (m + 6), qR (m + 7), qR (m + 8), qR (m + 9), qR (m + 10), qI (f 18), qI (f 19), qI (f 20), qR (m + 11), qR (m + 12), qR (m + 13), qR (m + 14), qI (f 25), qR (m + 15), qI (f 27), qR (m + 16), qR (m + 17), qR (m + 18), qR (m + 19), qR (m + 20), qR (m + 21), qR (m + 22), qR (m + 23), qR (m + 24), qI (f 37), qI (f 38), qI (f 39), qI (f 40), qR (m + 25), qR (m + 26), qR (m + 27), qR (m + 28), qR (m + 29), qR (m + 30), qR (m + 31), qI (f 48), qR (m + 32), qR (m + 33), qR (m + 34), qR (m + 35), qR (m + 36), qR (m + 37)]) d_X12_worn_2 fp_X12_127 rput_o (fun _ => rfl) (fun _ => rfl) (Nat.le_of_ble_eq_true rfl) rfl ?_
  refine z_eq rfl rfl ((rput_sf (f' := qup f 0 0) rfl).trans (rput_cg (qup_self h0) rfl)) ?_
  refine z_aload_n d_X12_worn_5 rfl rfl ?_
  refine z_iload_n d_X12_worn_6 rfl rfl ?_
  refine z_cv (M1 := M_X12_isRule) d_X12_worn_7 lv_X12_366 k_X12_isRule [qI i] rfl rfl rput_o ⟨_, _, rfl⟩ (Nat.le_of_ble_eq_true rfl) (by decide) (by decide) (Nat.le_of_ble_eq_true rfl) (c_isRule i hm) ?_
  refine z_ifeqB 23 d_X12_worn_10 (by decide) (fun hc1 => absurd hc1 (by exact fun z => z hi)) (fun hc1 => ?_)
  refine z_iload_n d_X12_worn_13 rfl rfl ?_
  refine z_iconst d_X12_worn_14 (by decide) ?_
  refine z_bipush d_X12_worn_15 (by decide) ?_
  refine z_cs (M1 := M_X12_in) d_X12_worn_17 ls_X12_137 k_X12_in [qI (to : Int), qI 1, qI 24] rfl rfl (Nat.le_of_ble_eq_true rfl) (by decide) (by decide) (Nat.le_of_ble_eq_true rfl) (c_in (to : Int) 1 24) ?_
  refine z_ifneB 25 d_X12_worn_20 (by decide) (fun hc2 => ?_) (fun hc2 => absurd hc2 (by omega))
  refine z_aload_n d_X12_worn_25 rfl rfl ?_
  refine z_aload_n d_X12_worn_26 rfl rfl ?_
  refine z_getf (v := qR (m + 2)) d_X12_worn_27 fl_X12_17 rput_o rfl ?_
  refine z_aload_n d_X12_worn_30 rfl rfl ?_
  refine z_getf (v := qR (m + 5)) d_X12_worn_31 fl_X12_26 rput_o rfl ?_
  refine z_bipush d_X12_worn_34 (by decide) ?_
  refine z_iload_n d_X12_worn_36 rfl rfl ?_
  refine z_iconst d_X12_worn_37 (by decide) ?_
  refine z_iconst d_X12_worn_38 (by decide) ?_
  refine z_aload_n d_X12_worn_39 rfl rfl ?_
  refine z_getf (v := qR (m + 25)) d_X12_worn_40 fl_X12_86 rput_o rfl ?_
  refine z_cv0 (M1 := M_X12_laysBook) d_X12_worn_43 lv_X12_271 k_X12_laysBook [qR (m + 2), qR (m + 5), qI 15, qI i, qI (-1), qI 0, qR (m + 25)] rfl rfl rput_o ⟨_, _, rfl⟩ (Nat.le_of_ble_eq_true rfl) (by decide) (by decide) (Nat.le_of_ble_eq_true rfl) (c_laysBook 15 i (-1) 0 hm (by decide) (by decide) (by decide) (by decide) (by decide) (by decide) (by decide) (by decide)) ?_
  refine z_aload_n d_X12_worn_46 rfl rfl ?_
  refine z_iload_n d_X12_worn_47 rfl rfl ?_
  refine z_cv (M1 := M_X12_firstBad) d_X12_worn_48 lv_X12_354 k_X12_firstBad [qI (to : Int)] rfl rfl rput_o ⟨_, _, rfl⟩ (Nat.le_of_ble_eq_true rfl) (by decide) (by decide) (Nat.le_of_ble_eq_true rfl) (c_firstBad (to := to) hm (by omega) (fun c hc => show 0 ≤ qmx 648 (bkTc (g 2) (g 5) 15 i (-1) 0) (g 25) c ∧ qmx 648 (bkTc (g 2) (g 5) 15 i (-1) 0) (g 25) c ≤ 7 by rw [qmx_lt hc]; exact bkTc_bd hO (by decide) c hc)) ?_
  exact z_iret d_X12_worn_51 rfl (qer er (fbR_cg q648 (fun c hc => bkTc_bd hO (by decide) c hc)).symm) eh
set_option maxRecDepth 20000 in
set_option maxHeartbeats 4000000 in
theorem c_says_no {h : qH} {m : Nat} {f : Nat → Int} {g : Nat → Nat → Int} (o l r0 what : Int) (hm : 2 ≤ m) (h0 : f 0 = 0) (hno : ¬ ((0 ≤ o ∧ o ≤ 7) ∧ (0 ≤ l ∧ l ≤ 8) ∧ (0 ≤ r0 ∧ r0 ≤ 8) ∧ 0 ≤ what ∧ what ≤ 1)) : qEx M_X12_says 0 [qR m, qI o, qI l, qI r0, qI what] [] (rput h m f g) (some (qI (-1))) (rput h m f g) := by
  refine q_gen (fun r hr er eh => ?_)
  refine z_aload_n d_X12_says_0 rfl rfl ?_
  refine z_iconst d_X12_says_1 (by decide) ?_
  refine z_putf (fs' := [qI 0, qI (f 1), qI (f 2), qI (f 3), qI (f 4), qI (f 5), qI (f 6), qI (f 7), qR (m + 1), qR (m + 2), qR (m + 3), qR (m + 4), qR (m + 5), qR (m + 6), qR (m + 7), qR (m + 8), qR (m + 9), qR (m + 10), qI (f 18), qI (f 19), qI (f 20), qR (m + 11), qR (m + 12), qR (m + 13), qR (m + 14), qI (f 25), qR (m + 15), qI (f 27), qR (m + 16), qR (m + 17), qR (m + 18), qR (m + 19), qR (m + 20), qR (m + 21), qR (m + 22), qR (m + 23), qR (m + 24), qI (f 37), qI (f 38), qI (f 39), qI (f 40), qR (m + 25), qR (m + 26), qR (m + 27), qR (m + 28), qR (m + 29), qR (m + 30), qR (m + 31), qI (f 48), qR (m + 32), qR (m + 33), qR (m + 34), qR (m + 35), qR (m + 36), qR (m + 37)]) d_X12_says_2 fp_X12_127 rput_o (fun _ => rfl) (fun _ => rfl) (Nat.le_of_ble_eq_true rfl) rfl ?_
  refine z_eq rfl rfl ((rput_sf (f' := qup f 0 0) rfl).trans (rput_cg (qup_self h0) rfl)) ?_
  refine z_iload_n d_X12_says_5 rfl rfl ?_
  refine z_iconst d_X12_says_6 (by decide) ?_
  refine z_bipush d_X12_says_7 (by decide) ?_
  refine z_cs (M1 := M_X12_in) d_X12_says_9 ls_X12_137 k_X12_in [qI o, qI 0, qI 7] rfl rfl (Nat.le_of_ble_eq_true rfl) (by decide) (by decide) (Nat.le_of_ble_eq_true rfl) (c_in o 0 7) ?_
  refine z_ifeqB 45 d_X12_says_12 (by decide) (fun hc1 => ?_) (fun hc1 => ?_)
  · refine z_iconst d_X12_says_45 (by decide) ?_
    exact z_iret d_X12_says_46 rfl er eh
  · refine z_iload_n d_X12_says_15 rfl rfl ?_
    refine z_iconst d_X12_says_16 (by decide) ?_
    refine z_bipush d_X12_says_17 (by decide) ?_
    refine z_cs (M1 := M_X12_in) d_X12_says_19 ls_X12_137 k_X12_in [qI l, qI 0, qI 8] rfl rfl (Nat.le_of_ble_eq_true rfl) (by decide) (by decide) (Nat.le_of_ble_eq_true rfl) (c_in l 0 8) ?_
    refine z_ifeqB 45 d_X12_says_22 (by decide) (fun hc2 => ?_) (fun hc2 => ?_)
    · refine z_iconst d_X12_says_45 (by decide) ?_
      exact z_iret d_X12_says_46 rfl er eh
    · refine z_iload_n d_X12_says_25 rfl rfl ?_
      refine z_iconst d_X12_says_26 (by decide) ?_
      refine z_bipush d_X12_says_27 (by decide) ?_
      refine z_cs (M1 := M_X12_in) d_X12_says_29 ls_X12_137 k_X12_in [qI r0, qI 0, qI 8] rfl rfl (Nat.le_of_ble_eq_true rfl) (by decide) (by decide) (Nat.le_of_ble_eq_true rfl) (c_in r0 0 8) ?_
      refine z_ifeqB 45 d_X12_says_32 (by decide) (fun hc3 => ?_) (fun hc3 => ?_)
      · refine z_iconst d_X12_says_45 (by decide) ?_
        exact z_iret d_X12_says_46 rfl er eh
      · refine z_iload d_X12_says_35 rfl ?_
        refine z_iconst d_X12_says_37 (by decide) ?_
        refine z_iconst d_X12_says_38 (by decide) ?_
        refine z_cs (M1 := M_X12_in) d_X12_says_39 ls_X12_137 k_X12_in [qI what, qI 0, qI 1] rfl rfl (Nat.le_of_ble_eq_true rfl) (by decide) (by decide) (Nat.le_of_ble_eq_true rfl) (c_in what 0 1) ?_
        refine z_ifneB 47 d_X12_says_42 (by decide) (fun hc4 => ?_) (fun hc4 => ?_)
        · exact absurd (by omega) hno
        · refine z_iconst d_X12_says_45 (by decide) ?_
          exact z_iret d_X12_says_46 rfl er eh
set_option maxRecDepth 20000 in
set_option maxHeartbeats 4000000 in
theorem c_says0 {h : qH} {m : Nat} {f : Nat → Int} {g : Nat → Nat → Int} (o l r0 : Nat) (hm : 2 ≤ m) (h0 : f 0 = 0) (ho : o < 8) (hl : l < 9) (hr0 : r0 < 9) : qEx M_X12_says 0 [qR m, qI (o : Int), qI (l : Int), qI (r0 : Int), qI 0] [] (rput h m f g) (some (qI (ownT g (81 * o + 9 * l + r0)))) (rput h m f (layG g)) := by
  refine q_gen (fun r hr er eh => ?_)
  refine z_aload_n d_X12_says_0 rfl rfl ?_
  refine z_iconst d_X12_says_1 (by decide) ?_
  refine z_putf (fs' := [qI 0, qI (f 1), qI (f 2), qI (f 3), qI (f 4), qI (f 5), qI (f 6), qI (f 7), qR (m + 1), qR (m + 2), qR (m + 3), qR (m + 4), qR (m + 5), qR (m + 6), qR (m + 7), qR (m + 8), qR (m + 9), qR (m + 10), qI (f 18), qI (f 19), qI (f 20), qR (m + 11), qR (m + 12), qR (m + 13), qR (m + 14), qI (f 25), qR (m + 15), qI (f 27), qR (m + 16), qR (m + 17), qR (m + 18), qR (m + 19), qR (m + 20), qR (m + 21), qR (m + 22), qR (m + 23), qR (m + 24), qI (f 37), qI (f 38), qI (f 39), qI (f 40), qR (m + 25), qR (m + 26), qR (m + 27), qR (m + 28), qR (m + 29), qR (m + 30), qR (m + 31), qI (f 48), qR (m + 32), qR (m + 33), qR (m + 34), qR (m + 35), qR (m + 36), qR (m + 37)]) d_X12_says_2 fp_X12_127 rput_o (fun _ => rfl) (fun _ => rfl) (Nat.le_of_ble_eq_true rfl) rfl ?_
  refine z_eq rfl rfl ((rput_sf (f' := qup f 0 0) rfl).trans (rput_cg (qup_self h0) rfl)) ?_
  refine z_iload_n d_X12_says_5 rfl rfl ?_
  refine z_iconst d_X12_says_6 (by decide) ?_
  refine z_bipush d_X12_says_7 (by decide) ?_
  refine z_cs (M1 := M_X12_in) d_X12_says_9 ls_X12_137 k_X12_in [qI (o : Int), qI 0, qI 7] rfl rfl (Nat.le_of_ble_eq_true rfl) (by decide) (by decide) (Nat.le_of_ble_eq_true rfl) (c_in (o : Int) 0 7) ?_
  refine z_ifeqB 45 d_X12_says_12 (by decide) (fun hc1 => absurd hc1 (by omega)) (fun hc1 => ?_)
  refine z_iload_n d_X12_says_15 rfl rfl ?_
  refine z_iconst d_X12_says_16 (by decide) ?_
  refine z_bipush d_X12_says_17 (by decide) ?_
  refine z_cs (M1 := M_X12_in) d_X12_says_19 ls_X12_137 k_X12_in [qI (l : Int), qI 0, qI 8] rfl rfl (Nat.le_of_ble_eq_true rfl) (by decide) (by decide) (Nat.le_of_ble_eq_true rfl) (c_in (l : Int) 0 8) ?_
  refine z_ifeqB 45 d_X12_says_22 (by decide) (fun hc2 => absurd hc2 (by omega)) (fun hc2 => ?_)
  refine z_iload_n d_X12_says_25 rfl rfl ?_
  refine z_iconst d_X12_says_26 (by decide) ?_
  refine z_bipush d_X12_says_27 (by decide) ?_
  refine z_cs (M1 := M_X12_in) d_X12_says_29 ls_X12_137 k_X12_in [qI (r0 : Int), qI 0, qI 8] rfl rfl (Nat.le_of_ble_eq_true rfl) (by decide) (by decide) (Nat.le_of_ble_eq_true rfl) (c_in (r0 : Int) 0 8) ?_
  refine z_ifeqB 45 d_X12_says_32 (by decide) (fun hc3 => absurd hc3 (by omega)) (fun hc3 => ?_)
  refine z_iload d_X12_says_35 rfl ?_
  refine z_iconst d_X12_says_37 (by decide) ?_
  refine z_iconst d_X12_says_38 (by decide) ?_
  refine z_cs (M1 := M_X12_in) d_X12_says_39 ls_X12_137 k_X12_in [qI 0, qI 0, qI 1] rfl rfl (Nat.le_of_ble_eq_true rfl) (by decide) (by decide) (Nat.le_of_ble_eq_true rfl) (c_in 0 0 1) ?_
  refine z_ifneB 47 d_X12_says_42 (by decide) (fun hc4 => ?_) (fun hc4 => absurd hc4 (by omega))
  refine z_aload_n d_X12_says_47 rfl rfl ?_
  refine z_cv0 (M1 := M_X12_laysOwn) d_X12_says_48 lv_X12_275 k_X12_laysOwn [] rfl rfl rput_o ⟨_, _, rfl⟩ (Nat.le_of_ble_eq_true rfl) (by decide) (by decide) (Nat.le_of_ble_eq_true rfl) (c_laysOwn hm) ?_
  refine z_iload d_X12_says_51 rfl ?_
  refine z_if_ne 70 d_X12_says_53 (by decide) (fun hc5 => absurd hc5 (by decide)) (fun hc5 => ?_)
  refine z_aload_n d_X12_says_56 rfl rfl ?_
  refine z_getf (v := qR (m + 25)) d_X12_says_57 fl_X12_86 rput_o rfl ?_
  refine z_iload_n d_X12_says_60 rfl rfl ?_
  refine z_iload_n d_X12_says_61 rfl rfl ?_
  refine z_iload_n d_X12_says_62 rfl rfl ?_
  refine z_cs (M1 := M_X12_caseOf) d_X12_says_63 ls_X12_263 k_X12_caseOf [qI (o : Int), qI (l : Int), qI (r0 : Int)] rfl rfl (Nat.le_of_ble_eq_true rfl) (by decide) (by decide) (Nat.le_of_ble_eq_true rfl) (c_caseOf2 (o : Int) (l : Int) (r0 : Int) (by omega) (by omega) (by omega)) ?_
  refine z_ild (81 * o + 9 * l + r0) d_X12_says_66 (rput_a2 25 (t := 0) (n := 648) (F := ((layG g) 25)) rfl rfl rfl (by decide) (by decide)) rfl (by omega) ?_
  refine z_goto 81 d_X12_says_67 (by decide) ?_
  exact z_iret d_X12_says_81 rfl (qer er (layG_T (by omega)).symm) eh
set_option maxRecDepth 20000 in
set_option maxHeartbeats 4000000 in
theorem c_says1 {h : qH} {m : Nat} {f : Nat → Int} {g : Nat → Nat → Int} (o l r0 : Nat) (hm : 2 ≤ m) (h0 : f 0 = 0) (ho : o < 8) (hl : l < 9) (hr0 : r0 < 9) : qEx M_X12_says 0 [qR m, qI (o : Int), qI (l : Int), qI (r0 : Int), qI 1] [] (rput h m f g) (some (qI (ownF g (81 * o + 9 * l + r0)))) (rput h m f (layG g)) := by
  refine q_gen (fun r hr er eh => ?_)
  refine z_aload_n d_X12_says_0 rfl rfl ?_
  refine z_iconst d_X12_says_1 (by decide) ?_
  refine z_putf (fs' := [qI 0, qI (f 1), qI (f 2), qI (f 3), qI (f 4), qI (f 5), qI (f 6), qI (f 7), qR (m + 1), qR (m + 2), qR (m + 3), qR (m + 4), qR (m + 5), qR (m + 6), qR (m + 7), qR (m + 8), qR (m + 9), qR (m + 10), qI (f 18), qI (f 19), qI (f 20), qR (m + 11), qR (m + 12), qR (m + 13), qR (m + 14), qI (f 25), qR (m + 15), qI (f 27), qR (m + 16), qR (m + 17), qR (m + 18), qR (m + 19), qR (m + 20), qR (m + 21), qR (m + 22), qR (m + 23), qR (m + 24), qI (f 37), qI (f 38), qI (f 39), qI (f 40), qR (m + 25), qR (m + 26), qR (m + 27), qR (m + 28), qR (m + 29), qR (m + 30), qR (m + 31), qI (f 48), qR (m + 32), qR (m + 33), qR (m + 34), qR (m + 35), qR (m + 36), qR (m + 37)]) d_X12_says_2 fp_X12_127 rput_o (fun _ => rfl) (fun _ => rfl) (Nat.le_of_ble_eq_true rfl) rfl ?_
  refine z_eq rfl rfl ((rput_sf (f' := qup f 0 0) rfl).trans (rput_cg (qup_self h0) rfl)) ?_
  refine z_iload_n d_X12_says_5 rfl rfl ?_
  refine z_iconst d_X12_says_6 (by decide) ?_
  refine z_bipush d_X12_says_7 (by decide) ?_
  refine z_cs (M1 := M_X12_in) d_X12_says_9 ls_X12_137 k_X12_in [qI (o : Int), qI 0, qI 7] rfl rfl (Nat.le_of_ble_eq_true rfl) (by decide) (by decide) (Nat.le_of_ble_eq_true rfl) (c_in (o : Int) 0 7) ?_
  refine z_ifeqB 45 d_X12_says_12 (by decide) (fun hc1 => absurd hc1 (by omega)) (fun hc1 => ?_)
  refine z_iload_n d_X12_says_15 rfl rfl ?_
  refine z_iconst d_X12_says_16 (by decide) ?_
  refine z_bipush d_X12_says_17 (by decide) ?_
  refine z_cs (M1 := M_X12_in) d_X12_says_19 ls_X12_137 k_X12_in [qI (l : Int), qI 0, qI 8] rfl rfl (Nat.le_of_ble_eq_true rfl) (by decide) (by decide) (Nat.le_of_ble_eq_true rfl) (c_in (l : Int) 0 8) ?_
  refine z_ifeqB 45 d_X12_says_22 (by decide) (fun hc2 => absurd hc2 (by omega)) (fun hc2 => ?_)
  refine z_iload_n d_X12_says_25 rfl rfl ?_
  refine z_iconst d_X12_says_26 (by decide) ?_
  refine z_bipush d_X12_says_27 (by decide) ?_
  refine z_cs (M1 := M_X12_in) d_X12_says_29 ls_X12_137 k_X12_in [qI (r0 : Int), qI 0, qI 8] rfl rfl (Nat.le_of_ble_eq_true rfl) (by decide) (by decide) (Nat.le_of_ble_eq_true rfl) (c_in (r0 : Int) 0 8) ?_
  refine z_ifeqB 45 d_X12_says_32 (by decide) (fun hc3 => absurd hc3 (by omega)) (fun hc3 => ?_)
  refine z_iload d_X12_says_35 rfl ?_
  refine z_iconst d_X12_says_37 (by decide) ?_
  refine z_iconst d_X12_says_38 (by decide) ?_
  refine z_cs (M1 := M_X12_in) d_X12_says_39 ls_X12_137 k_X12_in [qI 1, qI 0, qI 1] rfl rfl (Nat.le_of_ble_eq_true rfl) (by decide) (by decide) (Nat.le_of_ble_eq_true rfl) (c_in 1 0 1) ?_
  refine z_ifneB 47 d_X12_says_42 (by decide) (fun hc4 => ?_) (fun hc4 => absurd hc4 (by omega))
  refine z_aload_n d_X12_says_47 rfl rfl ?_
  refine z_cv0 (M1 := M_X12_laysOwn) d_X12_says_48 lv_X12_275 k_X12_laysOwn [] rfl rfl rput_o ⟨_, _, rfl⟩ (Nat.le_of_ble_eq_true rfl) (by decide) (by decide) (Nat.le_of_ble_eq_true rfl) (c_laysOwn hm) ?_
  refine z_iload d_X12_says_51 rfl ?_
  refine z_if_ne 70 d_X12_says_53 (by decide) (fun hc5 => ?_) (fun hc5 => absurd (by decide) hc5)
  refine z_aload_n d_X12_says_70 rfl rfl ?_
  refine z_getf (v := qR (m + 26)) d_X12_says_71 fl_X12_89 rput_o rfl ?_
  refine z_iload_n d_X12_says_74 rfl rfl ?_
  refine z_iload_n d_X12_says_75 rfl rfl ?_
  refine z_iload_n d_X12_says_76 rfl rfl ?_
  refine z_cs (M1 := M_X12_caseOf) d_X12_says_77 ls_X12_263 k_X12_caseOf [qI (o : Int), qI (l : Int), qI (r0 : Int)] rfl rfl (Nat.le_of_ble_eq_true rfl) (by decide) (by decide) (Nat.le_of_ble_eq_true rfl) (c_caseOf2 (o : Int) (l : Int) (r0 : Int) (by omega) (by omega) (by omega)) ?_
  refine z_ild (81 * o + 9 * l + r0) d_X12_says_80 (rput_a2 26 (t := 0) (n := 648) (F := ((layG g) 26)) rfl rfl rfl (by decide) (by decide)) rfl (by omega) ?_
  exact z_iret d_X12_says_81 rfl (qer er (layG_F (by omega)).symm) eh
/-- the set of the first n places that have p -/
noncomputable def bitsF (p : Nat → Prop) : Nat → Int
  | 0 => 0
  | n + 1 => qOr (bitsF p n) (qif (p n) (qShl 1 (n : Int)) 0)
set_option maxRecDepth 20000 in
set_option maxHeartbeats 4000000 in
theorem c_quiet_no {h : qH} {m : Nat} {f : Nat → Int} {g : Nat → Nat → Int} (what : Int) (hm : 2 ≤ m) (h0 : f 0 = 0) (hno : ¬ (0 ≤ what ∧ what ≤ 1)) : qEx M_X12_quiet 0 [qR m, qI what, qU, qU] [] (rput h m f g) (some (qI (-1))) (rput h m f g) := by
  refine q_gen (fun r hr er eh => ?_)
  refine z_aload_n d_X12_quiet_0 rfl rfl ?_
  refine z_iconst d_X12_quiet_1 (by decide) ?_
  refine z_putf (fs' := [qI 0, qI (f 1), qI (f 2), qI (f 3), qI (f 4), qI (f 5), qI (f 6), qI (f 7), qR (m + 1), qR (m + 2), qR (m + 3), qR (m + 4), qR (m + 5), qR (m + 6), qR (m + 7), qR (m + 8), qR (m + 9), qR (m + 10), qI (f 18), qI (f 19), qI (f 20), qR (m + 11), qR (m + 12), qR (m + 13), qR (m + 14), qI (f 25), qR (m + 15), qI (f 27), qR (m + 16), qR (m + 17), qR (m + 18), qR (m + 19), qR (m + 20), qR (m + 21), qR (m + 22), qR (m + 23), qR (m + 24), qI (f 37), qI (f 38), qI (f 39), qI (f 40), qR (m + 25), qR (m + 26), qR (m + 27), qR (m + 28), qR (m + 29), qR (m + 30), qR (m + 31), qI (f 48), qR (m + 32), qR (m + 33), qR (m + 34), qR (m + 35), qR (m + 36), qR (m + 37)]) d_X12_quiet_2 fp_X12_127 rput_o (fun _ => rfl) (fun _ => rfl) (Nat.le_of_ble_eq_true rfl) rfl ?_
  refine z_eq rfl rfl ((rput_sf (f' := qup f 0 0) rfl).trans (rput_cg (qup_self h0) rfl)) ?_
  refine z_iload_n d_X12_quiet_5 rfl rfl ?_
  refine z_iconst d_X12_quiet_6 (by decide) ?_
  refine z_iconst d_X12_quiet_7 (by decide) ?_
  refine z_cs (M1 := M_X12_in) d_X12_quiet_8 ls_X12_137 k_X12_in [qI what, qI 0, qI 1] rfl rfl (Nat.le_of_ble_eq_true rfl) (by decide) (by decide) (Nat.le_of_ble_eq_true rfl) (c_in what 0 1) ?_
  refine z_ifneB 16 d_X12_quiet_11 (by decide) (fun hc1 => absurd hc1 (by exact hno)) (fun hc1 => ?_)
  refine z_iconst d_X12_quiet_14 (by decide) ?_
  exact z_iret d_X12_quiet_15 rfl er eh
set_option maxRecDepth 20000 in
set_option maxHeartbeats 4000000 in
theorem c_quiet0 {h : qH} {m : Nat} {f : Nat → Int} {g : Nat → Nat → Int}  (hm : 2 ≤ m) (h0 : f 0 = 0) : qEx M_X12_quiet 0 [qR m, qI 0, qU, qU] [] (rput h m f g) (some (qI (bitsF (fun k => ownT g (81 * k + 9 * k + k) = (k : Int)) 8))) (rput h m f (layG g)) := by
  refine q_gen (fun r hr er eh => ?_)
  refine z_aload_n d_X12_quiet_0 rfl rfl ?_
  refine z_iconst d_X12_quiet_1 (by decide) ?_
  refine z_putf (fs' := [qI 0, qI (f 1), qI (f 2), qI (f 3), qI (f 4), qI (f 5), qI (f 6), qI (f 7), qR (m + 1), qR (m + 2), qR (m + 3), qR (m + 4), qR (m + 5), qR (m + 6), qR (m + 7), qR (m + 8), qR (m + 9), qR (m + 10), qI (f 18), qI (f 19), qI (f 20), qR (m + 11), qR (m + 12), qR (m + 13), qR (m + 14), qI (f 25), qR (m + 15), qI (f 27), qR (m + 16), qR (m + 17), qR (m + 18), qR (m + 19), qR (m + 20), qR (m + 21), qR (m + 22), qR (m + 23), qR (m + 24), qI (f 37), qI (f 38), qI (f 39), qI (f 40), qR (m + 25), qR (m + 26), qR (m + 27), qR (m + 28), qR (m + 29), qR (m + 30), qR (m + 31), qI (f 48), qR (m + 32), qR (m + 33), qR (m + 34), qR (m + 35), qR (m + 36), qR (m + 37)]) d_X12_quiet_2 fp_X12_127 rput_o (fun _ => rfl) (fun _ => rfl) (Nat.le_of_ble_eq_true rfl) rfl ?_
  refine z_eq rfl rfl ((rput_sf (f' := qup f 0 0) rfl).trans (rput_cg (qup_self h0) rfl)) ?_
  refine z_iload_n d_X12_quiet_5 rfl rfl ?_
  refine z_iconst d_X12_quiet_6 (by decide) ?_
  refine z_iconst d_X12_quiet_7 (by decide) ?_
  refine z_cs (M1 := M_X12_in) d_X12_quiet_8 ls_X12_137 k_X12_in [qI 0, qI 0, qI 1] rfl rfl (Nat.le_of_ble_eq_true rfl) (by decide) (by decide) (Nat.le_of_ble_eq_true rfl) (c_in 0 0 1) ?_
  refine z_ifneB 16 d_X12_quiet_11 (by decide) (fun hc1 => ?_) (fun hc1 => absurd hc1 (by exact fun z => z (by decide)))
  refine z_aload_n d_X12_quiet_16 rfl rfl ?_
  refine z_cv0 (M1 := M_X12_laysOwn) d_X12_quiet_17 lv_X12_275 k_X12_laysOwn [] rfl rfl rput_o ⟨_, _, rfl⟩ (Nat.le_of_ble_eq_true rfl) (by decide) (by decide) (Nat.le_of_ble_eq_true rfl) (c_laysOwn hm) ?_
  refine z_iconst d_X12_quiet_20 (by decide) ?_
  refine z_istore_n (ls' := [qR m, qI 0, qI 0, qU]) d_X12_quiet_21 rfl (by decide) rfl ?_
  refine z_iconst d_X12_quiet_22 (by decide) ?_
  refine z_istore_n (ls' := [qR m, qI 0, qI 0, qI 0]) d_X12_quiet_23 rfl (by decide) rfl ?_
  refine z_eq (qc rfl (qc rfl (qc (qi (rfl)) (qc (qi (by omega)) rfl)))) rfl rfl (z_for 8 (fun i => [qR m, qI 0, qI (bitsF (fun k => ownT g (81 * k + 9 * k + k) = (k : Int)) i), qI (i : Int)]) (fun i => (rput h m f (layG g))) (fun i => True) trivial (fun i hii hp kki => ?_) (fun hp => ?_))
  · show qEx M_X12_quiet 24 [qR m, qI 0, qI (bitsF (fun k => ownT g (81 * k + 9 * k + k) = (k : Int)) i), qI (i : Int)] [] (rput h m f (layG g)) r hr
    refine z_iload_n d_X12_quiet_24 rfl rfl ?_
    refine z_bipush d_X12_quiet_25 (by decide) ?_
    refine z_icmp_ge 76 d_X12_quiet_27 (by decide) (fun hc2 => absurd hc2 (by omega)) (fun hc2 => ?_)
    refine z_iload_n d_X12_quiet_30 rfl rfl ?_
    refine z_aload_n d_X12_quiet_31 rfl rfl ?_
    refine z_getf (v := qR (m + 25)) d_X12_quiet_32 fl_X12_86 rput_o rfl ?_
    refine z_iload_n d_X12_quiet_35 rfl rfl ?_
    refine z_if_ne 48 d_X12_quiet_36 (by decide) (fun hc3 => absurd hc3 (by decide)) (fun hc3 => ?_)
    refine z_iload_n d_X12_quiet_39 rfl rfl ?_
    refine z_iload_n d_X12_quiet_40 rfl rfl ?_
    refine z_iload_n d_X12_quiet_41 rfl rfl ?_
    refine z_cs (M1 := M_X12_caseOf) d_X12_quiet_42 ls_X12_263 k_X12_caseOf [qI (i : Int), qI (i : Int), qI (i : Int)] rfl rfl (Nat.le_of_ble_eq_true rfl) (by decide) (by decide) (Nat.le_of_ble_eq_true rfl) (c_caseOf2 (i : Int) (i : Int) (i : Int) (by omega) (by omega) (by omega)) ?_
    refine z_goto 56 d_X12_quiet_45 (by decide) ?_
    refine z_ild (81 * i + 9 * i + i) d_X12_quiet_56 (rput_a2 25 (t := 0) (n := 648) (F := ((layG g) 25)) rfl rfl rfl (by decide) (by decide)) rfl (by omega) ?_
    refine z_eq rfl (qc (qi (show (((layG g) 25) (81 * i + 9 * i + i)) = (ownT g (81 * i + 9 * i + i)) from layG_T (by omega))) rfl) rfl ?_
    refine z_iload_n d_X12_quiet_57 rfl rfl ?_
    suffices kJ58 : qEx M_X12_quiet 68 [qR m, qI 0, qI (bitsF (fun k => ownT g (81 * k + 9 * k + k) = (k : Int)) i), qI (i : Int)] [qI (qif ((ownT g (81 * i + 9 * i + i)) ≠ (i : Int)) 0 (qShl 1 (i : Int))), qI (bitsF (fun k => ownT g (81 * k + 9 * k + k) = (k : Int)) i)] (rput h m f (layG g)) r hr by
      refine z_icmp_ne 67 d_X12_quiet_58 (by decide) (fun hc4 => ?_) (fun hc4 => ?_)
      · refine z_iconst d_X12_quiet_67 (by decide) ?_
        exact z_eq rfl (qc (qi (qif_t hc4).symm) (qc rfl rfl)) rfl kJ58
      · refine z_iconst d_X12_quiet_61 (by decide) ?_
        refine z_iload_n d_X12_quiet_62 rfl rfl ?_
        refine z_ishl d_X12_quiet_63 ?_
        refine z_goto 68 d_X12_quiet_64 (by decide) ?_
        exact z_eq rfl (qc (qi (qif_f hc4).symm) (qc rfl rfl)) rfl kJ58
    refine z_ior d_X12_quiet_68 ?_
    refine z_istore_n (ls' := [qR m, qI 0, qI (qOr (bitsF (fun k => ownT g (81 * k + 9 * k + k) = (k : Int)) i) (qif ((ownT g (81 * i + 9 * i + i)) ≠ (i : Int)) 0 (qShl 1 (i : Int)))), qI (i : Int)]) d_X12_quiet_69 rfl (by decide) rfl ?_
    refine z_iinc (ls' := [qR m, qI 0, qI (qOr (bitsF (fun k => ownT g (81 * k + 9 * k + k) = (k : Int)) i) (qif ((ownT g (81 * i + 9 * i + i)) ≠ (i : Int)) 0 (qShl 1 (i : Int)))), qI ((i : Int) + 1)]) d_X12_quiet_70 rfl (by decide) (by omega) rfl ?_
    refine z_goto 24 d_X12_quiet_73 (by decide) ?_
    exact z_eq (qc rfl (qc rfl (qc (qi (by rw [qif_not]; rfl)) (qc (qi (by omega)) rfl)))) rfl rfl (kki trivial)
  · show qEx M_X12_quiet 24 [qR m, qI 0, qI (bitsF (fun k => ownT g (81 * k + 9 * k + k) = (k : Int)) 8), qI (8 : Int)] [] (rput h m f (layG g)) r hr
    refine z_iload_n d_X12_quiet_24 rfl rfl ?_
    refine z_bipush d_X12_quiet_25 (by decide) ?_
    refine z_icmp_ge 76 d_X12_quiet_27 (by decide) (fun hc5 => ?_) (fun hc5 => absurd hc5 (by omega))
    refine z_iload_n d_X12_quiet_76 rfl rfl ?_
    exact z_iret d_X12_quiet_77 rfl er eh
set_option maxRecDepth 20000 in
set_option maxHeartbeats 4000000 in
theorem c_quiet1 {h : qH} {m : Nat} {f : Nat → Int} {g : Nat → Nat → Int}  (hm : 2 ≤ m) (h0 : f 0 = 0) : qEx M_X12_quiet 0 [qR m, qI 1, qU, qU] [] (rput h m f g) (some (qI (bitsF (fun k => ownT g (81 * k + 9 * 8 + 8) = (k : Int)) 8))) (rput h m f (layG g)) := by
  refine q_gen (fun r hr er eh => ?_)
  refine z_aload_n d_X12_quiet_0 rfl rfl ?_
  refine z_iconst d_X12_quiet_1 (by decide) ?_
  refine z_putf (fs' := [qI 0, qI (f 1), qI (f 2), qI (f 3), qI (f 4), qI (f 5), qI (f 6), qI (f 7), qR (m + 1), qR (m + 2), qR (m + 3), qR (m + 4), qR (m + 5), qR (m + 6), qR (m + 7), qR (m + 8), qR (m + 9), qR (m + 10), qI (f 18), qI (f 19), qI (f 20), qR (m + 11), qR (m + 12), qR (m + 13), qR (m + 14), qI (f 25), qR (m + 15), qI (f 27), qR (m + 16), qR (m + 17), qR (m + 18), qR (m + 19), qR (m + 20), qR (m + 21), qR (m + 22), qR (m + 23), qR (m + 24), qI (f 37), qI (f 38), qI (f 39), qI (f 40), qR (m + 25), qR (m + 26), qR (m + 27), qR (m + 28), qR (m + 29), qR (m + 30), qR (m + 31), qI (f 48), qR (m + 32), qR (m + 33), qR (m + 34), qR (m + 35), qR (m + 36), qR (m + 37)]) d_X12_quiet_2 fp_X12_127 rput_o (fun _ => rfl) (fun _ => rfl) (Nat.le_of_ble_eq_true rfl) rfl ?_
  refine z_eq rfl rfl ((rput_sf (f' := qup f 0 0) rfl).trans (rput_cg (qup_self h0) rfl)) ?_
  refine z_iload_n d_X12_quiet_5 rfl rfl ?_
  refine z_iconst d_X12_quiet_6 (by decide) ?_
  refine z_iconst d_X12_quiet_7 (by decide) ?_
  refine z_cs (M1 := M_X12_in) d_X12_quiet_8 ls_X12_137 k_X12_in [qI 1, qI 0, qI 1] rfl rfl (Nat.le_of_ble_eq_true rfl) (by decide) (by decide) (Nat.le_of_ble_eq_true rfl) (c_in 1 0 1) ?_
  refine z_ifneB 16 d_X12_quiet_11 (by decide) (fun hc1 => ?_) (fun hc1 => absurd hc1 (by exact fun z => z (by decide)))
  refine z_aload_n d_X12_quiet_16 rfl rfl ?_
  refine z_cv0 (M1 := M_X12_laysOwn) d_X12_quiet_17 lv_X12_275 k_X12_laysOwn [] rfl rfl rput_o ⟨_, _, rfl⟩ (Nat.le_of_ble_eq_true rfl) (by decide) (by decide) (Nat.le_of_ble_eq_true rfl) (c_laysOwn hm) ?_
  refine z_iconst d_X12_quiet_20 (by decide) ?_
  refine z_istore_n (ls' := [qR m, qI 1, qI 0, qU]) d_X12_quiet_21 rfl (by decide) rfl ?_
  refine z_iconst d_X12_quiet_22 (by decide) ?_
  refine z_istore_n (ls' := [qR m, qI 1, qI 0, qI 0]) d_X12_quiet_23 rfl (by decide) rfl ?_
  refine z_eq (qc rfl (qc rfl (qc (qi (rfl)) (qc (qi (by omega)) rfl)))) rfl rfl (z_for 8 (fun i => [qR m, qI 1, qI (bitsF (fun k => ownT g (81 * k + 9 * 8 + 8) = (k : Int)) i), qI (i : Int)]) (fun i => (rput h m f (layG g))) (fun i => True) trivial (fun i hii hp kki => ?_) (fun hp => ?_))
  · show qEx M_X12_quiet 24 [qR m, qI 1, qI (bitsF (fun k => ownT g (81 * k + 9 * 8 + 8) = (k : Int)) i), qI (i : Int)] [] (rput h m f (layG g)) r hr
    refine z_iload_n d_X12_quiet_24 rfl rfl ?_
    refine z_bipush d_X12_quiet_25 (by decide) ?_
    refine z_icmp_ge 76 d_X12_quiet_27 (by decide) (fun hc2 => absurd hc2 (by omega)) (fun hc2 => ?_)
    refine z_iload_n d_X12_quiet_30 rfl rfl ?_
    refine z_aload_n d_X12_quiet_31 rfl rfl ?_
    refine z_getf (v := qR (m + 25)) d_X12_quiet_32 fl_X12_86 rput_o rfl ?_
    refine z_iload_n d_X12_quiet_35 rfl rfl ?_
    refine z_if_ne 48 d_X12_quiet_36 (by decide) (fun hc3 => ?_) (fun hc3 => absurd (by decide) hc3)
    refine z_iload_n d_X12_quiet_48 rfl rfl ?_
    refine z_bipush d_X12_quiet_49 (by decide) ?_
    refine z_bipush d_X12_quiet_51 (by decide) ?_
    refine z_cs (M1 := M_X12_caseOf) d_X12_quiet_53 ls_X12_263 k_X12_caseOf [qI (i : Int), qI 8, qI 8] rfl rfl (Nat.le_of_ble_eq_true rfl) (by decide) (by decide) (Nat.le_of_ble_eq_true rfl) (c_caseOf2 (i : Int) 8 8 (by omega) (by omega) (by omega)) ?_
    refine z_ild (81 * i + 9 * 8 + 8) d_X12_quiet_56 (rput_a2 25 (t := 0) (n := 648) (F := ((layG g) 25)) rfl rfl rfl (by decide) (by decide)) rfl (by omega) ?_
    refine z_eq rfl (qc (qi (show (((layG g) 25) (81 * i + 9 * 8 + 8)) = (ownT g (81 * i + 9 * 8 + 8)) from layG_T (by omega))) rfl) rfl ?_
    refine z_iload_n d_X12_quiet_57 rfl rfl ?_
    suffices kJ58 : qEx M_X12_quiet 68 [qR m, qI 1, qI (bitsF (fun k => ownT g (81 * k + 9 * 8 + 8) = (k : Int)) i), qI (i : Int)] [qI (qif ((ownT g (81 * i + 9 * 8 + 8)) ≠ (i : Int)) 0 (qShl 1 (i : Int))), qI (bitsF (fun k => ownT g (81 * k + 9 * 8 + 8) = (k : Int)) i)] (rput h m f (layG g)) r hr by
      refine z_icmp_ne 67 d_X12_quiet_58 (by decide) (fun hc4 => ?_) (fun hc4 => ?_)
      · refine z_iconst d_X12_quiet_67 (by decide) ?_
        exact z_eq rfl (qc (qi (qif_t hc4).symm) (qc rfl rfl)) rfl kJ58
      · refine z_iconst d_X12_quiet_61 (by decide) ?_
        refine z_iload_n d_X12_quiet_62 rfl rfl ?_
        refine z_ishl d_X12_quiet_63 ?_
        refine z_goto 68 d_X12_quiet_64 (by decide) ?_
        exact z_eq rfl (qc (qi (qif_f hc4).symm) (qc rfl rfl)) rfl kJ58
    refine z_ior d_X12_quiet_68 ?_
    refine z_istore_n (ls' := [qR m, qI 1, qI (qOr (bitsF (fun k => ownT g (81 * k + 9 * 8 + 8) = (k : Int)) i) (qif ((ownT g (81 * i + 9 * 8 + 8)) ≠ (i : Int)) 0 (qShl 1 (i : Int)))), qI (i : Int)]) d_X12_quiet_69 rfl (by decide) rfl ?_
    refine z_iinc (ls' := [qR m, qI 1, qI (qOr (bitsF (fun k => ownT g (81 * k + 9 * 8 + 8) = (k : Int)) i) (qif ((ownT g (81 * i + 9 * 8 + 8)) ≠ (i : Int)) 0 (qShl 1 (i : Int)))), qI ((i : Int) + 1)]) d_X12_quiet_70 rfl (by decide) (by omega) rfl ?_
    refine z_goto 24 d_X12_quiet_73 (by decide) ?_
    exact z_eq (qc rfl (qc rfl (qc (qi (by rw [qif_not]; rfl)) (qc (qi (by omega)) rfl)))) rfl rfl (kki trivial)
  · show qEx M_X12_quiet 24 [qR m, qI 1, qI (bitsF (fun k => ownT g (81 * k + 9 * 8 + 8) = (k : Int)) 8), qI (8 : Int)] [] (rput h m f (layG g)) r hr
    refine z_iload_n d_X12_quiet_24 rfl rfl ?_
    refine z_bipush d_X12_quiet_25 (by decide) ?_
    refine z_icmp_ge 76 d_X12_quiet_27 (by decide) (fun hc5 => ?_) (fun hc5 => absurd hc5 (by omega))
    refine z_iload_n d_X12_quiet_76 rfl rfl ?_
    exact z_iret d_X12_quiet_77 rfl er eh
