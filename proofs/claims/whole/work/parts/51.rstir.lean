/-! ===== CONTRACTS: the reference: changed, stir ===== -/
set_option maxRecDepth 20000 in
set_option maxHeartbeats 4000000 in
theorem c_changed {h : qH} {m : Nat} {f : Nat → Int} {g : Nat → Nat → Int} {n : Nat} (hm : 2 ≤ m) (hn : n ≤ 32) : qEx M_X12_changed 0 [qR m, qI (n : Int), qU, qU] [] (rput h m f g) (some (qI (cnt (fun q9 => g 28 q9 ≠ g 30 q9) n))) (rput h m f g) := by
  refine q_gen (fun r hr er eh => ?_)
  refine z_iconst d_X12_changed_0 (by decide) ?_
  refine z_istore_n (ls' := [qR m, qI (n : Int), qI 0, qU]) d_X12_changed_1 rfl (by decide) rfl ?_
  refine z_iconst d_X12_changed_2 (by decide) ?_
  refine z_istore_n (ls' := [qR m, qI (n : Int), qI 0, qI 0]) d_X12_changed_3 rfl (by decide) rfl ?_
  refine z_eq (qc rfl (qc rfl (qc (qi (rfl)) (qc (qi (by omega)) rfl)))) rfl rfl (z_for n (fun i => [qR m, qI (n : Int), qI (cnt (fun q9 => g 28 q9 ≠ g 30 q9) i), qI (i : Int)]) (fun i => (rput h m f g)) (fun i => True) trivial (fun i hii hp kki => ?_) (fun hp => ?_))
  · show qEx M_X12_changed 4 [qR m, qI (n : Int), qI (cnt (fun q9 => g 28 q9 ≠ g 30 q9) i), qI (i : Int)] [] (rput h m f g) r hr
    have b1 := cnt_bd (fun q9 => g 28 q9 ≠ g 30 q9) i
    have b2 := qb_bd (g 28 i ≠ g 30 i)
    refine z_iload_n d_X12_changed_4 rfl rfl ?_
    refine z_iload_n d_X12_changed_5 rfl rfl ?_
    refine z_icmp_ge 38 d_X12_changed_6 (by decide) (fun hc1 => absurd hc1 (by omega)) (fun hc1 => ?_)
    refine z_iload_n d_X12_changed_9 rfl rfl ?_
    refine z_aload_n d_X12_changed_10 rfl rfl ?_
    refine z_getf (v := qR (m + 28)) d_X12_changed_11 fl_X12_95 rput_o rfl ?_
    refine z_iload_n d_X12_changed_14 rfl rfl ?_
    refine z_ild i d_X12_changed_15 (rput_a2 28 (t := 0) (n := 32) (F := (g 28)) rfl rfl rfl (by decide) (by decide)) rfl (by omega) ?_
    refine z_aload_n d_X12_changed_16 rfl rfl ?_
    refine z_getf (v := qR (m + 30)) d_X12_changed_17 fl_X12_101 rput_o rfl ?_
    refine z_iload_n d_X12_changed_20 rfl rfl ?_
    refine z_ild i d_X12_changed_21 (rput_a2 30 (t := 0) (n := 32) (F := (g 30)) rfl rfl rfl (by decide) (by decide)) rfl (by omega) ?_
    suffices kJ22 : qEx M_X12_changed 30 [qR m, qI (n : Int), qI (cnt (fun q9 => g 28 q9 ≠ g 30 q9) i), qI (i : Int)] [qI (qb (((g 28) i) ≠ ((g 30) i))), qI (cnt (fun q9 => g 28 q9 ≠ g 30 q9) i)] (rput h m f g) r hr by
      refine z_icmp_ne 29 d_X12_changed_22 (by decide) (fun hc2 => ?_) (fun hc2 => ?_)
      · refine z_iconst d_X12_changed_29 (by decide) ?_
        exact z_eq rfl (qc (qi (qb_t (by omega)).symm) (qc rfl rfl)) rfl kJ22
      · refine z_iconst d_X12_changed_25 (by decide) ?_
        refine z_goto 30 d_X12_changed_26 (by decide) ?_
        exact z_eq rfl (qc (qi (qb_f (by omega)).symm) (qc rfl rfl)) rfl kJ22
    refine z_iadd d_X12_changed_30 (by omega) ?_
    refine z_istore_n (ls' := [qR m, qI (n : Int), qI ((cnt (fun q9 => g 28 q9 ≠ g 30 q9) i) + (qb (((g 28) i) ≠ ((g 30) i)))), qI (i : Int)]) d_X12_changed_31 rfl (by decide) rfl ?_
    refine z_iinc (ls' := [qR m, qI (n : Int), qI ((cnt (fun q9 => g 28 q9 ≠ g 30 q9) i) + (qb (((g 28) i) ≠ ((g 30) i)))), qI ((i : Int) + 1)]) d_X12_changed_32 rfl (by decide) (by omega) rfl ?_
    refine z_goto 4 d_X12_changed_35 (by decide) ?_
    exact z_eq (qc rfl (qc rfl (qc (qi (rfl)) (qc (qi (by omega)) rfl)))) rfl rfl (kki trivial)
  · show qEx M_X12_changed 4 [qR m, qI (n : Int), qI (cnt (fun q9 => g 28 q9 ≠ g 30 q9) n), qI (n : Int)] [] (rput h m f g) r hr
    refine z_iload_n d_X12_changed_4 rfl rfl ?_
    refine z_iload_n d_X12_changed_5 rfl rfl ?_
    refine z_icmp_ge 38 d_X12_changed_6 (by decide) (fun hc3 => ?_) (fun hc3 => absurd hc3 (by omega))
    refine z_iload_n d_X12_changed_38 rfl rfl ?_
    exact z_iret d_X12_changed_39 rfl er eh
theorem gup3 {g : Nat → Nat → Int} {a b c : Nat} {A B C : Nat → Int} (h1 : a ≠ b) (h2 : a ≠ c) : gup (gup (gup g a A) b B) c C = gup (gup (gup g b B) c C) a A := by
  rw [gup_comm h1, gup_comm h2]
/-- a run: how many change in breath t + 1; breaths in which none did, the most, and when, in the first t -/
noncomputable def sgC (T : Nat → Int) (n : Nat) (b : Int) (t : Nat) : Int := cnt (fun q9 => ps T n 0 (-1) b (t + 1) q9 ≠ ps T n 0 (-1) b t q9) n
noncomputable def sgS (T : Nat → Int) (n : Nat) (b : Int) : Nat → Int
  | 0 => 0
  | t + 1 => sgS T n b t + qb (sgC T n b t = 0)
noncomputable def sgM (T : Nat → Int) (n : Nat) (b : Int) : Nat → Int
  | 0 => 0
  | t + 1 => if sgC T n b t > sgM T n b t then sgC T n b t else sgM T n b t
noncomputable def sgW (T : Nat → Int) (n : Nat) (b : Int) : Nat → Int
  | 0 => -1
  | t + 1 => qif (sgC T n b t ≤ sgM T n b t) (sgW T n b t) ((t : Int) + 1)
theorem sgS_bd {T : Nat → Int} {n : Nat} {b : Int} : ∀ t : Nat, 0 ≤ sgS T n b t ∧ sgS T n b t ≤ t
  | 0 => by show 0 ≤ (0 : Int) ∧ (0 : Int) ≤ ((0 : Nat) : Int); omega
  | t + 1 => by
    have h := sgS_bd (T := T) (n := n) (b := b) t
    have h2 := qb_bd (sgC T n b t = 0)
    show 0 ≤ sgS T n b t + qb (sgC T n b t = 0) ∧ sgS T n b t + qb (sgC T n b t = 0) ≤ ((t + 1 : Nat) : Int)
    omega
/-- where a run ends: at its fire, or behind 3 n + 20 breaths -/
noncomputable def rnJ (T : Nat → Int) (n rg : Nat) (b : Int) : Nat := utl (fun t : Nat => t ≥ 3 * n + 20 ∨ litAt T n rg (-1) b t) (3 * n + 20)
set_option maxRecDepth 20000 in
set_option maxHeartbeats 4000000 in
theorem c_stir_no {h : qH} {m : Nat} {f : Nat → Int} {g : Nat → Nat → Int} (n b what : Int) (hm : 2 ≤ m) (h0 : f 0 = 0) (hnR : R32 n) (hno : ¬ (((1 ≤ n ∧ n ≤ 32) ∧ 0 ≤ b ∧ b < n) ∧ 0 ≤ what ∧ what ≤ 2)) : qEx M_X12_stir 0 [qR m, qI n, qI b, qI what, qU, qU, qU, qU, qU] [] (rput h m f g) (some (qI (-1))) (rput h m f g) := by
  refine q_gen (fun r hr er eh => ?_)
  refine z_aload_n d_X12_stir_0 rfl rfl ?_
  refine z_iconst d_X12_stir_1 (by decide) ?_
  refine z_putf (fs' := [qI 0, qI (f 1), qI (f 2), qI (f 3), qI (f 4), qI (f 5), qI (f 6), qI (f 7), qR (m + 1), qR (m + 2), qR (m + 3), qR (m + 4), qR (m + 5), qR (m + 6), qR (m + 7), qR (m + 8), qR (m + 9), qR (m + 10), qI (f 18), qI (f 19), qI (f 20), qR (m + 11), qR (m + 12), qR (m + 13), qR (m + 14), qI (f 25), qR (m + 15), qI (f 27), qR (m + 16), qR (m + 17), qR (m + 18), qR (m + 19), qR (m + 20), qR (m + 21), qR (m + 22), qR (m + 23), qR (m + 24), qI (f 37), qI (f 38), qI (f 39), qI (f 40), qR (m + 25), qR (m + 26), qR (m + 27), qR (m + 28), qR (m + 29), qR (m + 30), qR (m + 31), qI (f 48), qR (m + 32), qR (m + 33), qR (m + 34), qR (m + 35), qR (m + 36), qR (m + 37)]) d_X12_stir_2 fp_X12_127 rput_o (fun _ => rfl) (fun _ => rfl) (Nat.le_of_ble_eq_true rfl) rfl ?_
  refine z_eq rfl rfl ((rput_sf (f' := qup f 0 0) rfl).trans (rput_cg (qup_self h0) rfl)) ?_
  refine z_iload_n d_X12_stir_5 rfl rfl ?_
  refine z_iload_n d_X12_stir_6 rfl rfl ?_
  refine z_cs (M1 := M_X12_isRun) d_X12_stir_7 ls_X12_347 k_X12_isRun [qI n, qI b] rfl rfl (Nat.le_of_ble_eq_true rfl) (by decide) (by decide) (Nat.le_of_ble_eq_true rfl) (c_isRun2 n b (by omega)) ?_
  refine z_ifeqB 22 d_X12_stir_10 (by decide) (fun hc1 => ?_) (fun hc1 => ?_)
  · refine z_iconst d_X12_stir_22 (by decide) ?_
    exact z_iret d_X12_stir_23 rfl er eh
  · refine z_iload_n d_X12_stir_13 rfl rfl ?_
    refine z_iconst d_X12_stir_14 (by decide) ?_
    refine z_iconst d_X12_stir_15 (by decide) ?_
    refine z_cs (M1 := M_X12_in) d_X12_stir_16 ls_X12_137 k_X12_in [qI what, qI 0, qI 2] rfl rfl (Nat.le_of_ble_eq_true rfl) (by decide) (by decide) (Nat.le_of_ble_eq_true rfl) (c_in what 0 2) ?_
    refine z_ifneB 24 d_X12_stir_19 (by decide) (fun hc2 => ?_) (fun hc2 => ?_)
    · exact absurd (by omega) hno
    · refine z_iconst d_X12_stir_22 (by decide) ?_
      exact z_iret d_X12_stir_23 rfl er eh
set_option maxRecDepth 20000 in
set_option maxHeartbeats 4000000 in
theorem c_stir0 {h : qH} {m : Nat} {f : Nat → Int} {g : Nat → Nat → Int} {n : Nat} (b : Int) (hm : 2 ≤ m) (h0 : f 0 = 0) (hn : 1 ≤ n ∧ n ≤ 32) (hb : 0 ≤ b ∧ b < n) (hO : bkOk (g 2) (g 5)) : qEx M_X12_stir 0 [qR m, qI (n : Int), qI b, qI 0, qU, qU, qU, qU, qU] [] (rput h m f g) (some (qI (sgS (layG g 25) n b (rnJ (layG g 25) n 0 b)))) (rput h m f (gup (rsG (layG g) n (ps (layG g 25) n 0 (-1) b (rnJ (layG g 25) n 0 b)) (rnJ (layG g 25) n 0 b)) 30 (qmx (if (rnJ (layG g 25) n 0 b) = 0 then 0 else n) (ps (layG g 25) n 0 (-1) b ((rnJ (layG g 25) n 0 b) - 1)) (g 30)))) := by
  refine q_gen (fun r hr er eh => ?_)
  refine z_aload_n d_X12_stir_0 rfl rfl ?_
  refine z_iconst d_X12_stir_1 (by decide) ?_
  refine z_putf (fs' := [qI 0, qI (f 1), qI (f 2), qI (f 3), qI (f 4), qI (f 5), qI (f 6), qI (f 7), qR (m + 1), qR (m + 2), qR (m + 3), qR (m + 4), qR (m + 5), qR (m + 6), qR (m + 7), qR (m + 8), qR (m + 9), qR (m + 10), qI (f 18), qI (f 19), qI (f 20), qR (m + 11), qR (m + 12), qR (m + 13), qR (m + 14), qI (f 25), qR (m + 15), qI (f 27), qR (m + 16), qR (m + 17), qR (m + 18), qR (m + 19), qR (m + 20), qR (m + 21), qR (m + 22), qR (m + 23), qR (m + 24), qI (f 37), qI (f 38), qI (f 39), qI (f 40), qR (m + 25), qR (m + 26), qR (m + 27), qR (m + 28), qR (m + 29), qR (m + 30), qR (m + 31), qI (f 48), qR (m + 32), qR (m + 33), qR (m + 34), qR (m + 35), qR (m + 36), qR (m + 37)]) d_X12_stir_2 fp_X12_127 rput_o (fun _ => rfl) (fun _ => rfl) (Nat.le_of_ble_eq_true rfl) rfl ?_
  refine z_eq rfl rfl ((rput_sf (f' := qup f 0 0) rfl).trans (rput_cg (qup_self h0) rfl)) ?_
  refine z_iload_n d_X12_stir_5 rfl rfl ?_
  refine z_iload_n d_X12_stir_6 rfl rfl ?_
  refine z_cs (M1 := M_X12_isRun) d_X12_stir_7 ls_X12_347 k_X12_isRun [qI (n : Int), qI b] rfl rfl (Nat.le_of_ble_eq_true rfl) (by decide) (by decide) (Nat.le_of_ble_eq_true rfl) (c_isRun2 (n : Int) b (by omega)) ?_
  refine z_ifeqB 22 d_X12_stir_10 (by decide) (fun hc1 => absurd hc1 (by omega)) (fun hc1 => ?_)
  refine z_iload_n d_X12_stir_13 rfl rfl ?_
  refine z_iconst d_X12_stir_14 (by decide) ?_
  refine z_iconst d_X12_stir_15 (by decide) ?_
  refine z_cs (M1 := M_X12_in) d_X12_stir_16 ls_X12_137 k_X12_in [qI 0, qI 0, qI 2] rfl rfl (Nat.le_of_ble_eq_true rfl) (by decide) (by decide) (Nat.le_of_ble_eq_true rfl) (c_in 0 0 2) ?_
  refine z_ifneB 24 d_X12_stir_19 (by decide) (fun hc2 => ?_) (fun hc2 => absurd hc2 (by omega))
  refine z_aload_n d_X12_stir_24 rfl rfl ?_
  refine z_cv0 (M1 := M_X12_laysOwn) d_X12_stir_25 lv_X12_275 k_X12_laysOwn [] rfl rfl rput_o ⟨_, _, rfl⟩ (Nat.le_of_ble_eq_true rfl) (by decide) (by decide) (Nat.le_of_ble_eq_true rfl) (c_laysOwn hm) ?_
  refine z_aload_n d_X12_stir_28 rfl rfl ?_
  refine z_getf (v := qR (m + 28)) d_X12_stir_29 fl_X12_95 rput_o rfl ?_
  refine z_iload_n d_X12_stir_32 rfl rfl ?_
  refine z_iload_n d_X12_stir_33 rfl rfl ?_
  refine z_cs0 (M1 := M_X12_begins) d_X12_stir_34 ls_X12_329 k_X12_begins [qR (m + 28), qI (n : Int), qI b] rfl rfl (Nat.le_of_ble_eq_true rfl) (by decide) (by decide) (Nat.le_of_ble_eq_true rfl) (c_begins n b (rput_a2 28 (t := 0) (n := 32) (F := ((layG g) 28)) rfl rfl rfl (by decide) (by decide)) (by omega) (by omega) (by decide)) ?_
  refine z_eq rfl rfl (rput_sa 28 rfl rfl (by decide) (by decide)) ?_
  refine z_iconst d_X12_stir_37 (by decide) ?_
  refine z_istore (ls' := [qR m, qI (n : Int), qI b, qI 0, qI 0, qU, qU, qU, qU]) d_X12_stir_38 (by decide) rfl ?_
  refine z_iconst d_X12_stir_40 (by decide) ?_
  refine z_istore (ls' := [qR m, qI (n : Int), qI b, qI 0, qI 0, qI 0, qU, qU, qU]) d_X12_stir_41 (by decide) rfl ?_
  refine z_iconst d_X12_stir_43 (by decide) ?_
  refine z_istore (ls' := [qR m, qI (n : Int), qI b, qI 0, qI 0, qI 0, qI (-1), qU, qU]) d_X12_stir_44 (by decide) rfl ?_
  refine z_iconst d_X12_stir_46 (by decide) ?_
  refine z_istore (ls' := [qR m, qI (n : Int), qI b, qI 0, qI 0, qI 0, qI (-1), qI 1, qU]) d_X12_stir_47 (by decide) rfl ?_
  have KP : ∀ i, i ≤ 3 * n + 20 → (fun t : Nat => t ≥ 3 * n + 20 ∨ litAt (layG g 25) n 0 (-1) b t) i → (∀ k, k < i → ¬ (fun t : Nat => t ≥ 3 * n + 20 ∨ litAt (layG g 25) n 0 (-1) b t) k) → qEx M_X12_stir 166 [qR m, qI (n : Int), qI b, qI 0, qI (sgS (layG g 25) n b i), qI (sgM (layG g 25) n b i), qI (sgW (layG g 25) n b i), qI ((i : Int) + 1), qU] [] (rput h m f (gup (rsG (layG g) n (ps (layG g 25) n 0 (-1) b i) i) 30 (qmx (if i = 0 then 0 else n) (ps (layG g 25) n 0 (-1) b (i - 1)) (g 30)))) r hr := by
    intro i hi9 hx9 hp9
    refine z_iload_n d_X12_stir_166 rfl rfl ?_
    refine z_if_ne 175 d_X12_stir_167 (by decide) (fun hc3 => absurd hc3 (by decide)) (fun hc3 => ?_)
    refine z_iload d_X12_stir_170 rfl ?_
    refine z_goto 187 d_X12_stir_172 (by decide) ?_
    exact z_iret d_X12_stir_187 rfl (qer er (by unfold rnJ; rw [utl_at hi9 hp9 hx9])) (eh.trans (rput_cg rfl (by unfold rnJ; rw [utl_at hi9 hp9 hx9])))
  refine z_eq (qc rfl (qc rfl (qc rfl (qc rfl (qc (qi (rfl)) (qc (qi (rfl)) (qc (qi (rfl)) (qc (qi (rfl)) (qc rfl rfl))))))))) rfl (rput_cg rfl (rsG_0.symm.trans (gup_self (by rw [if_pos rfl]; exact (qmx_0 _ _).symm)).symm)) (z_for (3 * n + 20) (fun i => [qR m, qI (n : Int), qI b, qI 0, qI (sgS (layG g 25) n b i), qI (sgM (layG g 25) n b i), qI (sgW (layG g 25) n b i), qI ((i : Int) + 1), qU]) (fun i => (rput h m f (gup (rsG (layG g) n (ps (layG g 25) n 0 (-1) b i) i) 30 (qmx (if i = 0 then 0 else n) (ps (layG g 25) n 0 (-1) b (i - 1)) (g 30))))) (fun i => ∀ k, k < i → ¬ (fun t : Nat => t ≥ 3 * n + 20 ∨ litAt (layG g 25) n 0 (-1) b t) k) (fun k hk => absurd hk (by omega)) (fun i hii hp kki => ?_) (fun hp => ?_))
  · show qEx M_X12_stir 49 [qR m, qI (n : Int), qI b, qI 0, qI (sgS (layG g 25) n b i), qI (sgM (layG g 25) n b i), qI (sgW (layG g 25) n b i), qI ((i : Int) + 1), qU] [] (rput h m f (gup (rsG (layG g) n (ps (layG g 25) n 0 (-1) b i) i) 30 (qmx (if i = 0 then 0 else n) (ps (layG g 25) n 0 (-1) b (i - 1)) (g 30)))) r hr
    have hcb := cnt_bd (fun k => ps (layG g 25) n 0 (-1) b i k = 7) n
    have hsb := sgS_bd (T := (layG g 25)) (n := n) (b := b) i
    have hqb := qb_bd (sgC (layG g 25) n b i = 0)
    refine z_iload d_X12_stir_49 rfl ?_
    refine z_iload_n d_X12_stir_51 rfl rfl ?_
    refine z_cs (M1 := M_X12_longest) d_X12_stir_52 ls_X12_333 k_X12_longest [qI (n : Int)] rfl rfl (Nat.le_of_ble_eq_true rfl) (by decide) (by decide) (Nat.le_of_ble_eq_true rfl) (c_longest (n : Int) (by omega)) ?_
    refine z_icmp_gt 166 d_X12_stir_55 (by decide) (fun hc4 => absurd hc4 (by omega)) (fun hc4 => ?_)
    refine z_aload_n d_X12_stir_58 rfl rfl ?_
    refine z_getf (v := qR (m + 28)) d_X12_stir_59 fl_X12_95 rput_o rfl ?_
    refine z_iload_n d_X12_stir_62 rfl rfl ?_
    refine z_cs (M1 := M_X12_litIn) d_X12_stir_63 ls_X12_302 k_X12_litIn [qR (m + 28), qI (n : Int)] rfl rfl (Nat.le_of_ble_eq_true rfl) (by decide) (by decide) (Nat.le_of_ble_eq_true rfl) (c_litIn n (rput_a2 28 (t := 0) (n := 32) (F := ((rsG (layG g) n (ps (layG g 25) n 0 (-1) b i) i) 28)) rfl rfl rfl (by decide) (by decide)) (by omega) (by decide)) ?_
    refine z_eq rfl (qc (qi (show (cnt (fun q9 => ((rsG (layG g) n (ps (layG g 25) n 0 (-1) b i) i) 28) q9 = 7) n) = (cnt (fun q9 => ps (layG g 25) n 0 (-1) b i q9 = 7) n) from cnt_congr (fun q9 hq9 => by rw [rsG_28 hq9]))) rfl) rfl ?_
    refine z_if_ne 166 d_X12_stir_66 (by decide) (fun hq => ?_) (fun hq => ?_)
    · exact KP i (by omega) (by first | exact Or.inl (by omega) | exact Or.inr (by unfold litAt; omega)) hp
    · refine z_iconst d_X12_stir_69 (by decide) ?_
      refine z_istore (ls' := [qR m, qI (n : Int), qI b, qI 0, qI (sgS (layG g 25) n b i), qI (sgM (layG g 25) n b i), qI (sgW (layG g 25) n b i), qI ((i : Int) + 1), qI 0]) d_X12_stir_70 (by decide) rfl ?_
      refine z_eq (qc rfl (qc rfl (qc rfl (qc rfl (qc rfl (qc rfl (qc rfl (qc rfl (qc (qi (by omega)) rfl))))))))) rfl (rput_cg rfl (gup_cg (F' := (qmx 0 (ps (layG g 25) n 0 (-1) b i) (qmx (if i = 0 then 0 else n) (ps (layG g 25) n 0 (-1) b (i - 1)) (g 30)))) rfl (qmx_0 _ _).symm)) (z_for n (fun j => [qR m, qI (n : Int), qI b, qI 0, qI (sgS (layG g 25) n b i), qI (sgM (layG g 25) n b i), qI (sgW (layG g 25) n b i), qI ((i : Int) + 1), qI (j : Int)]) (fun j => (rput h m f (gup (rsG (layG g) n (ps (layG g 25) n 0 (-1) b i) i) 30 (qmx j (ps (layG g 25) n 0 (-1) b i) (qmx (if i = 0 then 0 else n) (ps (layG g 25) n 0 (-1) b (i - 1)) (g 30)))))) (fun j => True) trivial (fun j hij hpj kkj => ?_) (fun hpj => ?_))
      · show qEx M_X12_stir 72 [qR m, qI (n : Int), qI b, qI 0, qI (sgS (layG g 25) n b i), qI (sgM (layG g 25) n b i), qI (sgW (layG g 25) n b i), qI ((i : Int) + 1), qI (j : Int)] [] (rput h m f (gup (rsG (layG g) n (ps (layG g 25) n 0 (-1) b i) i) 30 (qmx j (ps (layG g 25) n 0 (-1) b i) (qmx (if i = 0 then 0 else n) (ps (layG g 25) n 0 (-1) b (i - 1)) (g 30))))) r hr
        refine z_iload d_X12_stir_72 rfl ?_
        refine z_iload_n d_X12_stir_74 rfl rfl ?_
        refine z_icmp_ge 98 d_X12_stir_75 (by decide) (fun hc5 => absurd hc5 (by omega)) (fun hc5 => ?_)
        refine z_aload_n d_X12_stir_78 rfl rfl ?_
        refine z_getf (v := qR (m + 30)) d_X12_stir_79 fl_X12_101 rput_o rfl ?_
        refine z_iload d_X12_stir_82 rfl ?_
        refine z_aload_n d_X12_stir_84 rfl rfl ?_
        refine z_getf (v := qR (m + 28)) d_X12_stir_85 fl_X12_95 rput_o rfl ?_
        refine z_iload d_X12_stir_88 rfl ?_
        refine z_ild j d_X12_stir_90 (rput_a2 28 (t := 0) (n := 32) (F := ((rsG (layG g) n (ps (layG g 25) n 0 (-1) b i) i) 28)) rfl rfl rfl (by decide) (by decide)) rfl (by omega) ?_
        refine z_ist j d_X12_stir_91 (rput_a2 30 (t := 0) (n := 32) (F := (qmx j (ps (layG g 25) n 0 (-1) b i) (qmx (if i = 0 then 0 else n) (ps (layG g 25) n 0 (-1) b (i - 1)) (g 30)))) rfl rfl rfl (by decide) (by decide)) (by omega) rfl (by omega) ?_
        refine z_eq rfl rfl ((rput_sa 30 rfl rfl (by decide) (by decide)).trans (rput_cg rfl (gup_gup _ _ _))) ?_
        refine z_iinc (ls' := [qR m, qI (n : Int), qI b, qI 0, qI (sgS (layG g 25) n b i), qI (sgM (layG g 25) n b i), qI (sgW (layG g 25) n b i), qI ((i : Int) + 1), qI ((j : Int) + 1)]) d_X12_stir_92 rfl (by decide) (by omega) rfl ?_
        refine z_goto 72 d_X12_stir_95 (by decide) ?_
        exact z_eq (qc rfl (qc rfl (qc rfl (qc rfl (qc rfl (qc rfl (qc rfl (qc rfl (qc (qi (by omega)) rfl))))))))) rfl (rput_cg rfl (gup_cg (F' := (qmx (j + 1) (ps (layG g 25) n 0 (-1) b i) (qmx (if i = 0 then 0 else n) (ps (layG g 25) n 0 (-1) b (i - 1)) (g 30)))) rfl (by rw [rsG_28 hij]; exact qmx_s j (ps (layG g 25) n 0 (-1) b i) (qmx (if i = 0 then 0 else n) (ps (layG g 25) n 0 (-1) b (i - 1)) (g 30))))) (kkj trivial)
      · show qEx M_X12_stir 72 [qR m, qI (n : Int), qI b, qI 0, qI (sgS (layG g 25) n b i), qI (sgM (layG g 25) n b i), qI (sgW (layG g 25) n b i), qI ((i : Int) + 1), qI (n : Int)] [] (rput h m f (gup (rsG (layG g) n (ps (layG g 25) n 0 (-1) b i) i) 30 (qmx n (ps (layG g 25) n 0 (-1) b i) (qmx (if i = 0 then 0 else n) (ps (layG g 25) n 0 (-1) b (i - 1)) (g 30))))) r hr
        refine z_iload d_X12_stir_72 rfl ?_
        refine z_iload_n d_X12_stir_74 rfl rfl ?_
        refine z_icmp_ge 98 d_X12_stir_75 (by decide) (fun hc6 => ?_) (fun hc6 => absurd hc6 (by omega))
        refine z_aload_n d_X12_stir_98 rfl rfl ?_
        refine z_aload_n d_X12_stir_99 rfl rfl ?_
        refine z_getf (v := qR (m + 28)) d_X12_stir_100 fl_X12_95 rput_o rfl ?_
        refine z_iload_n d_X12_stir_103 rfl rfl ?_
        refine z_iconst d_X12_stir_104 (by decide) ?_
        refine z_iconst d_X12_stir_105 (by decide) ?_
        refine z_aload_n d_X12_stir_106 rfl rfl ?_
        refine z_getf (v := qR (m + 25)) d_X12_stir_107 fl_X12_86 rput_o rfl ?_
        refine z_cv0 (M1 := M_X12_steps) d_X12_stir_110 lv_X12_336 k_X12_steps [qR (m + 28), qI (n : Int), qI 0, qI (-1), qR (m + 25)] rfl rfl rput_o ⟨_, _, rfl⟩ (Nat.le_of_ble_eq_true rfl) (by decide) (by decide) (Nat.le_of_ble_eq_true rfl) (c_steps28_0 (n := n) (-1) hm (by omega) (fun q9 hq9 => show 0 ≤ (rsG (layG g) n (ps (layG g 25) n 0 (-1) b i) i) 28 q9 ∧ (rsG (layG g) n (ps (layG g 25) n 0 (-1) b i) i) 28 q9 ≤ 7 by rw [rsG_28 hq9]; exact ps_bd (fun c hc => by rw [show layG g 25 c = ownT g c from layG_T hc]; exact bkTc_bd hO (by decide) c hc) i q9 hq9)) ?_
        refine z_eq rfl rfl (rput_cg rfl ((gup3 (by decide) (by decide)).trans (gup_cg (F' := (qmx (if (i + 1) = 0 then 0 else n) (ps (layG g 25) n 0 (-1) b ((i + 1) - 1)) (g 30))) (rsG_s (fun c hc => by rw [show layG g 25 c = ownT g c from layG_T hc]; exact bkTc_bd hO (by decide) c hc)) (by rw [if_neg (show ¬ i + 1 = 0 by omega), show i + 1 - 1 = i by omega, qmx_mx _ _ _ (show (if i = 0 then 0 else n) ≤ n by split <;> omega)])))) ?_
        refine z_aload_n d_X12_stir_113 rfl rfl ?_
        refine z_iload_n d_X12_stir_114 rfl rfl ?_
        refine z_cv (M1 := M_X12_changed) d_X12_stir_115 lv_X12_375 k_X12_changed [qI (n : Int)] rfl rfl rput_o ⟨_, _, rfl⟩ (Nat.le_of_ble_eq_true rfl) (by decide) (by decide) (Nat.le_of_ble_eq_true rfl) (c_changed (n := n) hm (by omega)) ?_
        refine z_eq rfl (qc (qi (show (cnt (fun q9 => ((rsG (layG g) n (ps (layG g 25) n 0 (-1) b (i + 1)) (i + 1)) 28) q9 ≠ (qmx (if (i + 1) = 0 then 0 else n) (ps (layG g 25) n 0 (-1) b ((i + 1) - 1)) (g 30)) q9) n) = (sgC (layG g 25) n b i) from cnt_congr (fun q9 hq9 => by rw [rsG_28 hq9, if_neg (show ¬ i + 1 = 0 by omega), show i + 1 - 1 = i by omega, qmx_lt hq9]))) rfl) rfl ?_
        refine z_istore (ls' := [qR m, qI (n : Int), qI b, qI 0, qI (sgS (layG g 25) n b i), qI (sgM (layG g 25) n b i), qI (sgW (layG g 25) n b i), qI ((i : Int) + 1), qI (sgC (layG g 25) n b i)]) d_X12_stir_118 (by decide) rfl ?_
        refine z_iload d_X12_stir_120 rfl ?_
        refine z_iload d_X12_stir_122 rfl ?_
        suffices kJ124 : qEx M_X12_stir 132 [qR m, qI (n : Int), qI b, qI 0, qI (sgS (layG g 25) n b i), qI (sgM (layG g 25) n b i), qI (sgW (layG g 25) n b i), qI ((i : Int) + 1), qI (sgC (layG g 25) n b i)] [qI (qb ((sgC (layG g 25) n b i) = 0)), qI (sgS (layG g 25) n b i)] (rput h m f (gup (rsG (layG g) n (ps (layG g 25) n 0 (-1) b (i + 1)) (i + 1)) 30 (qmx (if (i + 1) = 0 then 0 else n) (ps (layG g 25) n 0 (-1) b ((i + 1) - 1)) (g 30)))) r hr by
          refine z_if_ne 131 d_X12_stir_124 (by decide) (fun hc7 => ?_) (fun hc7 => ?_)
          · refine z_iconst d_X12_stir_131 (by decide) ?_
            exact z_eq rfl (qc (qi (qb_f (by omega)).symm) (qc rfl rfl)) rfl kJ124
          · refine z_iconst d_X12_stir_127 (by decide) ?_
            refine z_goto 132 d_X12_stir_128 (by decide) ?_
            exact z_eq rfl (qc (qi (qb_t (by omega)).symm) (qc rfl rfl)) rfl kJ124
        refine z_iadd d_X12_stir_132 (by omega) ?_
        refine z_istore (ls' := [qR m, qI (n : Int), qI b, qI 0, qI ((sgS (layG g 25) n b i) + (qb ((sgC (layG g 25) n b i) = 0))), qI (sgM (layG g 25) n b i), qI (sgW (layG g 25) n b i), qI ((i : Int) + 1), qI (sgC (layG g 25) n b i)]) d_X12_stir_133 (by decide) rfl ?_
        refine z_iload d_X12_stir_135 rfl ?_
        refine z_iload d_X12_stir_137 rfl ?_
        suffices kJ139 : qEx M_X12_stir 149 [qR m, qI (n : Int), qI b, qI 0, qI ((sgS (layG g 25) n b i) + (qb ((sgC (layG g 25) n b i) = 0))), qI (sgM (layG g 25) n b i), qI (sgW (layG g 25) n b i), qI ((i : Int) + 1), qI (sgC (layG g 25) n b i)] [qI (qif ((sgC (layG g 25) n b i) ≤ (sgM (layG g 25) n b i)) (sgW (layG g 25) n b i) ((i : Int) + 1))] (rput h m f (gup (rsG (layG g) n (ps (layG g 25) n 0 (-1) b (i + 1)) (i + 1)) 30 (qmx (if (i + 1) = 0 then 0 else n) (ps (layG g 25) n 0 (-1) b ((i + 1) - 1)) (g 30)))) r hr by
          refine z_icmp_le 147 d_X12_stir_139 (by decide) (fun hc8 => ?_) (fun hc8 => ?_)
          · refine z_iload d_X12_stir_147 rfl ?_
            exact z_eq rfl (qc (qi (qif_t hc8).symm) rfl) rfl kJ139
          · refine z_iload d_X12_stir_142 rfl ?_
            refine z_goto 149 d_X12_stir_144 (by decide) ?_
            exact z_eq rfl (qc (qi (qif_f hc8).symm) rfl) rfl kJ139
        refine z_istore (ls' := [qR m, qI (n : Int), qI b, qI 0, qI ((sgS (layG g 25) n b i) + (qb ((sgC (layG g 25) n b i) = 0))), qI (sgM (layG g 25) n b i), qI (qif ((sgC (layG g 25) n b i) ≤ (sgM (layG g 25) n b i)) (sgW (layG g 25) n b i) ((i : Int) + 1)), qI ((i : Int) + 1), qI (sgC (layG g 25) n b i)]) d_X12_stir_149 (by decide) rfl ?_
        refine z_iload d_X12_stir_151 rfl ?_
        refine z_iload d_X12_stir_153 rfl ?_
        refine z_cs (M1 := M_X12_more2) d_X12_stir_155 ls_X12_372 k_X12_more2 [qI (sgC (layG g 25) n b i), qI (sgM (layG g 25) n b i)] rfl rfl (Nat.le_of_ble_eq_true rfl) (by decide) (by decide) (Nat.le_of_ble_eq_true rfl) (c_more2 (sgC (layG g 25) n b i) (sgM (layG g 25) n b i)) ?_
        refine z_istore (ls' := [qR m, qI (n : Int), qI b, qI 0, qI ((sgS (layG g 25) n b i) + (qb ((sgC (layG g 25) n b i) = 0))), qI (if (sgC (layG g 25) n b i) > (sgM (layG g 25) n b i) then (sgC (layG g 25) n b i) else (sgM (layG g 25) n b i)), qI (qif ((sgC (layG g 25) n b i) ≤ (sgM (layG g 25) n b i)) (sgW (layG g 25) n b i) ((i : Int) + 1)), qI ((i : Int) + 1), qI (sgC (layG g 25) n b i)]) d_X12_stir_158 (by decide) rfl ?_
        refine z_iinc (ls' := [qR m, qI (n : Int), qI b, qI 0, qI ((sgS (layG g 25) n b i) + (qb ((sgC (layG g 25) n b i) = 0))), qI (if (sgC (layG g 25) n b i) > (sgM (layG g 25) n b i) then (sgC (layG g 25) n b i) else (sgM (layG g 25) n b i)), qI (qif ((sgC (layG g 25) n b i) ≤ (sgM (layG g 25) n b i)) (sgW (layG g 25) n b i) ((i : Int) + 1)), qI (((i : Int) + 1) + 1), qI (sgC (layG g 25) n b i)]) d_X12_stir_160 rfl (by decide) (by omega) rfl ?_
        refine z_goto 49 d_X12_stir_163 (by decide) ?_
        exact z_dr (qle_k rfl (qle_k rfl (qle_k rfl (qle_k rfl (qle_k (qi (rfl)) (qle_k (qi (rfl)) (qle_k (qi (rfl)) (qle_k (qi (by omega)) (qle_d qle_n))))))))) rfl rfl (kki (q_lts hp (fun z => by rcases z with z | z; omega; (unfold litAt at z; omega))))
  · show qEx M_X12_stir 49 [qR m, qI (n : Int), qI b, qI 0, qI (sgS (layG g 25) n b (3 * n + 20)), qI (sgM (layG g 25) n b (3 * n + 20)), qI (sgW (layG g 25) n b (3 * n + 20)), qI (((3 * n + 20) : Int) + 1), qU] [] (rput h m f (gup (rsG (layG g) n (ps (layG g 25) n 0 (-1) b (3 * n + 20)) (3 * n + 20)) 30 (qmx (if (3 * n + 20) = 0 then 0 else n) (ps (layG g 25) n 0 (-1) b ((3 * n + 20) - 1)) (g 30)))) r hr
    refine z_iload d_X12_stir_49 rfl ?_
    refine z_iload_n d_X12_stir_51 rfl rfl ?_
    refine z_cs (M1 := M_X12_longest) d_X12_stir_52 ls_X12_333 k_X12_longest [qI (n : Int)] rfl rfl (Nat.le_of_ble_eq_true rfl) (by decide) (by decide) (Nat.le_of_ble_eq_true rfl) (c_longest (n : Int) (by omega)) ?_
    refine z_icmp_gt 166 d_X12_stir_55 (by decide) (fun hc9 => ?_) (fun hc9 => absurd hc9 (by omega))
    exact KP (3 * n + 20) (Nat.le_refl _) (Or.inl (Nat.le_refl _)) hp
set_option maxRecDepth 20000 in
set_option maxHeartbeats 4000000 in
theorem c_stir1 {h : qH} {m : Nat} {f : Nat → Int} {g : Nat → Nat → Int} {n : Nat} (b : Int) (hm : 2 ≤ m) (h0 : f 0 = 0) (hn : 1 ≤ n ∧ n ≤ 32) (hb : 0 ≤ b ∧ b < n) (hO : bkOk (g 2) (g 5)) : qEx M_X12_stir 0 [qR m, qI (n : Int), qI b, qI 1, qU, qU, qU, qU, qU] [] (rput h m f g) (some (qI (sgM (layG g 25) n b (rnJ (layG g 25) n 0 b)))) (rput h m f (gup (rsG (layG g) n (ps (layG g 25) n 0 (-1) b (rnJ (layG g 25) n 0 b)) (rnJ (layG g 25) n 0 b)) 30 (qmx (if (rnJ (layG g 25) n 0 b) = 0 then 0 else n) (ps (layG g 25) n 0 (-1) b ((rnJ (layG g 25) n 0 b) - 1)) (g 30)))) := by
  refine q_gen (fun r hr er eh => ?_)
  refine z_aload_n d_X12_stir_0 rfl rfl ?_
  refine z_iconst d_X12_stir_1 (by decide) ?_
  refine z_putf (fs' := [qI 0, qI (f 1), qI (f 2), qI (f 3), qI (f 4), qI (f 5), qI (f 6), qI (f 7), qR (m + 1), qR (m + 2), qR (m + 3), qR (m + 4), qR (m + 5), qR (m + 6), qR (m + 7), qR (m + 8), qR (m + 9), qR (m + 10), qI (f 18), qI (f 19), qI (f 20), qR (m + 11), qR (m + 12), qR (m + 13), qR (m + 14), qI (f 25), qR (m + 15), qI (f 27), qR (m + 16), qR (m + 17), qR (m + 18), qR (m + 19), qR (m + 20), qR (m + 21), qR (m + 22), qR (m + 23), qR (m + 24), qI (f 37), qI (f 38), qI (f 39), qI (f 40), qR (m + 25), qR (m + 26), qR (m + 27), qR (m + 28), qR (m + 29), qR (m + 30), qR (m + 31), qI (f 48), qR (m + 32), qR (m + 33), qR (m + 34), qR (m + 35), qR (m + 36), qR (m + 37)]) d_X12_stir_2 fp_X12_127 rput_o (fun _ => rfl) (fun _ => rfl) (Nat.le_of_ble_eq_true rfl) rfl ?_
  refine z_eq rfl rfl ((rput_sf (f' := qup f 0 0) rfl).trans (rput_cg (qup_self h0) rfl)) ?_
  refine z_iload_n d_X12_stir_5 rfl rfl ?_
  refine z_iload_n d_X12_stir_6 rfl rfl ?_
  refine z_cs (M1 := M_X12_isRun) d_X12_stir_7 ls_X12_347 k_X12_isRun [qI (n : Int), qI b] rfl rfl (Nat.le_of_ble_eq_true rfl) (by decide) (by decide) (Nat.le_of_ble_eq_true rfl) (c_isRun2 (n : Int) b (by omega)) ?_
  refine z_ifeqB 22 d_X12_stir_10 (by decide) (fun hc1 => absurd hc1 (by omega)) (fun hc1 => ?_)
  refine z_iload_n d_X12_stir_13 rfl rfl ?_
  refine z_iconst d_X12_stir_14 (by decide) ?_
  refine z_iconst d_X12_stir_15 (by decide) ?_
  refine z_cs (M1 := M_X12_in) d_X12_stir_16 ls_X12_137 k_X12_in [qI 1, qI 0, qI 2] rfl rfl (Nat.le_of_ble_eq_true rfl) (by decide) (by decide) (Nat.le_of_ble_eq_true rfl) (c_in 1 0 2) ?_
  refine z_ifneB 24 d_X12_stir_19 (by decide) (fun hc2 => ?_) (fun hc2 => absurd hc2 (by omega))
  refine z_aload_n d_X12_stir_24 rfl rfl ?_
  refine z_cv0 (M1 := M_X12_laysOwn) d_X12_stir_25 lv_X12_275 k_X12_laysOwn [] rfl rfl rput_o ⟨_, _, rfl⟩ (Nat.le_of_ble_eq_true rfl) (by decide) (by decide) (Nat.le_of_ble_eq_true rfl) (c_laysOwn hm) ?_
  refine z_aload_n d_X12_stir_28 rfl rfl ?_
  refine z_getf (v := qR (m + 28)) d_X12_stir_29 fl_X12_95 rput_o rfl ?_
  refine z_iload_n d_X12_stir_32 rfl rfl ?_
  refine z_iload_n d_X12_stir_33 rfl rfl ?_
  refine z_cs0 (M1 := M_X12_begins) d_X12_stir_34 ls_X12_329 k_X12_begins [qR (m + 28), qI (n : Int), qI b] rfl rfl (Nat.le_of_ble_eq_true rfl) (by decide) (by decide) (Nat.le_of_ble_eq_true rfl) (c_begins n b (rput_a2 28 (t := 0) (n := 32) (F := ((layG g) 28)) rfl rfl rfl (by decide) (by decide)) (by omega) (by omega) (by decide)) ?_
  refine z_eq rfl rfl (rput_sa 28 rfl rfl (by decide) (by decide)) ?_
  refine z_iconst d_X12_stir_37 (by decide) ?_
  refine z_istore (ls' := [qR m, qI (n : Int), qI b, qI 1, qI 0, qU, qU, qU, qU]) d_X12_stir_38 (by decide) rfl ?_
  refine z_iconst d_X12_stir_40 (by decide) ?_
  refine z_istore (ls' := [qR m, qI (n : Int), qI b, qI 1, qI 0, qI 0, qU, qU, qU]) d_X12_stir_41 (by decide) rfl ?_
  refine z_iconst d_X12_stir_43 (by decide) ?_
  refine z_istore (ls' := [qR m, qI (n : Int), qI b, qI 1, qI 0, qI 0, qI (-1), qU, qU]) d_X12_stir_44 (by decide) rfl ?_
  refine z_iconst d_X12_stir_46 (by decide) ?_
  refine z_istore (ls' := [qR m, qI (n : Int), qI b, qI 1, qI 0, qI 0, qI (-1), qI 1, qU]) d_X12_stir_47 (by decide) rfl ?_
  have KP : ∀ i, i ≤ 3 * n + 20 → (fun t : Nat => t ≥ 3 * n + 20 ∨ litAt (layG g 25) n 0 (-1) b t) i → (∀ k, k < i → ¬ (fun t : Nat => t ≥ 3 * n + 20 ∨ litAt (layG g 25) n 0 (-1) b t) k) → qEx M_X12_stir 166 [qR m, qI (n : Int), qI b, qI 1, qI (sgS (layG g 25) n b i), qI (sgM (layG g 25) n b i), qI (sgW (layG g 25) n b i), qI ((i : Int) + 1), qU] [] (rput h m f (gup (rsG (layG g) n (ps (layG g 25) n 0 (-1) b i) i) 30 (qmx (if i = 0 then 0 else n) (ps (layG g 25) n 0 (-1) b (i - 1)) (g 30)))) r hr := by
    intro i hi9 hx9 hp9
    refine z_iload_n d_X12_stir_166 rfl rfl ?_
    refine z_if_ne 175 d_X12_stir_167 (by decide) (fun hc3 => ?_) (fun hc3 => absurd (by decide) hc3)
    refine z_iload_n d_X12_stir_175 rfl rfl ?_
    refine z_iconst d_X12_stir_176 (by decide) ?_
    refine z_icmp_ne 185 d_X12_stir_177 (by decide) (fun hc4 => absurd hc4 (by decide)) (fun hc4 => ?_)
    refine z_iload d_X12_stir_180 rfl ?_
    refine z_goto 187 d_X12_stir_182 (by decide) ?_
    exact z_iret d_X12_stir_187 rfl (qer er (by unfold rnJ; rw [utl_at hi9 hp9 hx9])) (eh.trans (rput_cg rfl (by unfold rnJ; rw [utl_at hi9 hp9 hx9])))
  refine z_eq (qc rfl (qc rfl (qc rfl (qc rfl (qc (qi (rfl)) (qc (qi (rfl)) (qc (qi (rfl)) (qc (qi (rfl)) (qc rfl rfl))))))))) rfl (rput_cg rfl (rsG_0.symm.trans (gup_self (by rw [if_pos rfl]; exact (qmx_0 _ _).symm)).symm)) (z_for (3 * n + 20) (fun i => [qR m, qI (n : Int), qI b, qI 1, qI (sgS (layG g 25) n b i), qI (sgM (layG g 25) n b i), qI (sgW (layG g 25) n b i), qI ((i : Int) + 1), qU]) (fun i => (rput h m f (gup (rsG (layG g) n (ps (layG g 25) n 0 (-1) b i) i) 30 (qmx (if i = 0 then 0 else n) (ps (layG g 25) n 0 (-1) b (i - 1)) (g 30))))) (fun i => ∀ k, k < i → ¬ (fun t : Nat => t ≥ 3 * n + 20 ∨ litAt (layG g 25) n 0 (-1) b t) k) (fun k hk => absurd hk (by omega)) (fun i hii hp kki => ?_) (fun hp => ?_))
  · show qEx M_X12_stir 49 [qR m, qI (n : Int), qI b, qI 1, qI (sgS (layG g 25) n b i), qI (sgM (layG g 25) n b i), qI (sgW (layG g 25) n b i), qI ((i : Int) + 1), qU] [] (rput h m f (gup (rsG (layG g) n (ps (layG g 25) n 0 (-1) b i) i) 30 (qmx (if i = 0 then 0 else n) (ps (layG g 25) n 0 (-1) b (i - 1)) (g 30)))) r hr
    have hcb := cnt_bd (fun k => ps (layG g 25) n 0 (-1) b i k = 7) n
    have hsb := sgS_bd (T := (layG g 25)) (n := n) (b := b) i
    have hqb := qb_bd (sgC (layG g 25) n b i = 0)
    refine z_iload d_X12_stir_49 rfl ?_
    refine z_iload_n d_X12_stir_51 rfl rfl ?_
    refine z_cs (M1 := M_X12_longest) d_X12_stir_52 ls_X12_333 k_X12_longest [qI (n : Int)] rfl rfl (Nat.le_of_ble_eq_true rfl) (by decide) (by decide) (Nat.le_of_ble_eq_true rfl) (c_longest (n : Int) (by omega)) ?_
    refine z_icmp_gt 166 d_X12_stir_55 (by decide) (fun hc5 => absurd hc5 (by omega)) (fun hc5 => ?_)
    refine z_aload_n d_X12_stir_58 rfl rfl ?_
    refine z_getf (v := qR (m + 28)) d_X12_stir_59 fl_X12_95 rput_o rfl ?_
    refine z_iload_n d_X12_stir_62 rfl rfl ?_
    refine z_cs (M1 := M_X12_litIn) d_X12_stir_63 ls_X12_302 k_X12_litIn [qR (m + 28), qI (n : Int)] rfl rfl (Nat.le_of_ble_eq_true rfl) (by decide) (by decide) (Nat.le_of_ble_eq_true rfl) (c_litIn n (rput_a2 28 (t := 0) (n := 32) (F := ((rsG (layG g) n (ps (layG g 25) n 0 (-1) b i) i) 28)) rfl rfl rfl (by decide) (by decide)) (by omega) (by decide)) ?_
    refine z_eq rfl (qc (qi (show (cnt (fun q9 => ((rsG (layG g) n (ps (layG g 25) n 0 (-1) b i) i) 28) q9 = 7) n) = (cnt (fun q9 => ps (layG g 25) n 0 (-1) b i q9 = 7) n) from cnt_congr (fun q9 hq9 => by rw [rsG_28 hq9]))) rfl) rfl ?_
    refine z_if_ne 166 d_X12_stir_66 (by decide) (fun hq => ?_) (fun hq => ?_)
    · exact KP i (by omega) (by first | exact Or.inl (by omega) | exact Or.inr (by unfold litAt; omega)) hp
    · refine z_iconst d_X12_stir_69 (by decide) ?_
      refine z_istore (ls' := [qR m, qI (n : Int), qI b, qI 1, qI (sgS (layG g 25) n b i), qI (sgM (layG g 25) n b i), qI (sgW (layG g 25) n b i), qI ((i : Int) + 1), qI 0]) d_X12_stir_70 (by decide) rfl ?_
      refine z_eq (qc rfl (qc rfl (qc rfl (qc rfl (qc rfl (qc rfl (qc rfl (qc rfl (qc (qi (by omega)) rfl))))))))) rfl (rput_cg rfl (gup_cg (F' := (qmx 0 (ps (layG g 25) n 0 (-1) b i) (qmx (if i = 0 then 0 else n) (ps (layG g 25) n 0 (-1) b (i - 1)) (g 30)))) rfl (qmx_0 _ _).symm)) (z_for n (fun j => [qR m, qI (n : Int), qI b, qI 1, qI (sgS (layG g 25) n b i), qI (sgM (layG g 25) n b i), qI (sgW (layG g 25) n b i), qI ((i : Int) + 1), qI (j : Int)]) (fun j => (rput h m f (gup (rsG (layG g) n (ps (layG g 25) n 0 (-1) b i) i) 30 (qmx j (ps (layG g 25) n 0 (-1) b i) (qmx (if i = 0 then 0 else n) (ps (layG g 25) n 0 (-1) b (i - 1)) (g 30)))))) (fun j => True) trivial (fun j hij hpj kkj => ?_) (fun hpj => ?_))
      · show qEx M_X12_stir 72 [qR m, qI (n : Int), qI b, qI 1, qI (sgS (layG g 25) n b i), qI (sgM (layG g 25) n b i), qI (sgW (layG g 25) n b i), qI ((i : Int) + 1), qI (j : Int)] [] (rput h m f (gup (rsG (layG g) n (ps (layG g 25) n 0 (-1) b i) i) 30 (qmx j (ps (layG g 25) n 0 (-1) b i) (qmx (if i = 0 then 0 else n) (ps (layG g 25) n 0 (-1) b (i - 1)) (g 30))))) r hr
        refine z_iload d_X12_stir_72 rfl ?_
        refine z_iload_n d_X12_stir_74 rfl rfl ?_
        refine z_icmp_ge 98 d_X12_stir_75 (by decide) (fun hc6 => absurd hc6 (by omega)) (fun hc6 => ?_)
        refine z_aload_n d_X12_stir_78 rfl rfl ?_
        refine z_getf (v := qR (m + 30)) d_X12_stir_79 fl_X12_101 rput_o rfl ?_
        refine z_iload d_X12_stir_82 rfl ?_
        refine z_aload_n d_X12_stir_84 rfl rfl ?_
        refine z_getf (v := qR (m + 28)) d_X12_stir_85 fl_X12_95 rput_o rfl ?_
        refine z_iload d_X12_stir_88 rfl ?_
        refine z_ild j d_X12_stir_90 (rput_a2 28 (t := 0) (n := 32) (F := ((rsG (layG g) n (ps (layG g 25) n 0 (-1) b i) i) 28)) rfl rfl rfl (by decide) (by decide)) rfl (by omega) ?_
        refine z_ist j d_X12_stir_91 (rput_a2 30 (t := 0) (n := 32) (F := (qmx j (ps (layG g 25) n 0 (-1) b i) (qmx (if i = 0 then 0 else n) (ps (layG g 25) n 0 (-1) b (i - 1)) (g 30)))) rfl rfl rfl (by decide) (by decide)) (by omega) rfl (by omega) ?_
        refine z_eq rfl rfl ((rput_sa 30 rfl rfl (by decide) (by decide)).trans (rput_cg rfl (gup_gup _ _ _))) ?_
        refine z_iinc (ls' := [qR m, qI (n : Int), qI b, qI 1, qI (sgS (layG g 25) n b i), qI (sgM (layG g 25) n b i), qI (sgW (layG g 25) n b i), qI ((i : Int) + 1), qI ((j : Int) + 1)]) d_X12_stir_92 rfl (by decide) (by omega) rfl ?_
        refine z_goto 72 d_X12_stir_95 (by decide) ?_
        exact z_eq (qc rfl (qc rfl (qc rfl (qc rfl (qc rfl (qc rfl (qc rfl (qc rfl (qc (qi (by omega)) rfl))))))))) rfl (rput_cg rfl (gup_cg (F' := (qmx (j + 1) (ps (layG g 25) n 0 (-1) b i) (qmx (if i = 0 then 0 else n) (ps (layG g 25) n 0 (-1) b (i - 1)) (g 30)))) rfl (by rw [rsG_28 hij]; exact qmx_s j (ps (layG g 25) n 0 (-1) b i) (qmx (if i = 0 then 0 else n) (ps (layG g 25) n 0 (-1) b (i - 1)) (g 30))))) (kkj trivial)
      · show qEx M_X12_stir 72 [qR m, qI (n : Int), qI b, qI 1, qI (sgS (layG g 25) n b i), qI (sgM (layG g 25) n b i), qI (sgW (layG g 25) n b i), qI ((i : Int) + 1), qI (n : Int)] [] (rput h m f (gup (rsG (layG g) n (ps (layG g 25) n 0 (-1) b i) i) 30 (qmx n (ps (layG g 25) n 0 (-1) b i) (qmx (if i = 0 then 0 else n) (ps (layG g 25) n 0 (-1) b (i - 1)) (g 30))))) r hr
        refine z_iload d_X12_stir_72 rfl ?_
        refine z_iload_n d_X12_stir_74 rfl rfl ?_
        refine z_icmp_ge 98 d_X12_stir_75 (by decide) (fun hc7 => ?_) (fun hc7 => absurd hc7 (by omega))
        refine z_aload_n d_X12_stir_98 rfl rfl ?_
        refine z_aload_n d_X12_stir_99 rfl rfl ?_
        refine z_getf (v := qR (m + 28)) d_X12_stir_100 fl_X12_95 rput_o rfl ?_
        refine z_iload_n d_X12_stir_103 rfl rfl ?_
        refine z_iconst d_X12_stir_104 (by decide) ?_
        refine z_iconst d_X12_stir_105 (by decide) ?_
        refine z_aload_n d_X12_stir_106 rfl rfl ?_
        refine z_getf (v := qR (m + 25)) d_X12_stir_107 fl_X12_86 rput_o rfl ?_
        refine z_cv0 (M1 := M_X12_steps) d_X12_stir_110 lv_X12_336 k_X12_steps [qR (m + 28), qI (n : Int), qI 0, qI (-1), qR (m + 25)] rfl rfl rput_o ⟨_, _, rfl⟩ (Nat.le_of_ble_eq_true rfl) (by decide) (by decide) (Nat.le_of_ble_eq_true rfl) (c_steps28_0 (n := n) (-1) hm (by omega) (fun q9 hq9 => show 0 ≤ (rsG (layG g) n (ps (layG g 25) n 0 (-1) b i) i) 28 q9 ∧ (rsG (layG g) n (ps (layG g 25) n 0 (-1) b i) i) 28 q9 ≤ 7 by rw [rsG_28 hq9]; exact ps_bd (fun c hc => by rw [show layG g 25 c = ownT g c from layG_T hc]; exact bkTc_bd hO (by decide) c hc) i q9 hq9)) ?_
        refine z_eq rfl rfl (rput_cg rfl ((gup3 (by decide) (by decide)).trans (gup_cg (F' := (qmx (if (i + 1) = 0 then 0 else n) (ps (layG g 25) n 0 (-1) b ((i + 1) - 1)) (g 30))) (rsG_s (fun c hc => by rw [show layG g 25 c = ownT g c from layG_T hc]; exact bkTc_bd hO (by decide) c hc)) (by rw [if_neg (show ¬ i + 1 = 0 by omega), show i + 1 - 1 = i by omega, qmx_mx _ _ _ (show (if i = 0 then 0 else n) ≤ n by split <;> omega)])))) ?_
        refine z_aload_n d_X12_stir_113 rfl rfl ?_
        refine z_iload_n d_X12_stir_114 rfl rfl ?_
        refine z_cv (M1 := M_X12_changed) d_X12_stir_115 lv_X12_375 k_X12_changed [qI (n : Int)] rfl rfl rput_o ⟨_, _, rfl⟩ (Nat.le_of_ble_eq_true rfl) (by decide) (by decide) (Nat.le_of_ble_eq_true rfl) (c_changed (n := n) hm (by omega)) ?_
        refine z_eq rfl (qc (qi (show (cnt (fun q9 => ((rsG (layG g) n (ps (layG g 25) n 0 (-1) b (i + 1)) (i + 1)) 28) q9 ≠ (qmx (if (i + 1) = 0 then 0 else n) (ps (layG g 25) n 0 (-1) b ((i + 1) - 1)) (g 30)) q9) n) = (sgC (layG g 25) n b i) from cnt_congr (fun q9 hq9 => by rw [rsG_28 hq9, if_neg (show ¬ i + 1 = 0 by omega), show i + 1 - 1 = i by omega, qmx_lt hq9]))) rfl) rfl ?_
        refine z_istore (ls' := [qR m, qI (n : Int), qI b, qI 1, qI (sgS (layG g 25) n b i), qI (sgM (layG g 25) n b i), qI (sgW (layG g 25) n b i), qI ((i : Int) + 1), qI (sgC (layG g 25) n b i)]) d_X12_stir_118 (by decide) rfl ?_
        refine z_iload d_X12_stir_120 rfl ?_
        refine z_iload d_X12_stir_122 rfl ?_
        suffices kJ124 : qEx M_X12_stir 132 [qR m, qI (n : Int), qI b, qI 1, qI (sgS (layG g 25) n b i), qI (sgM (layG g 25) n b i), qI (sgW (layG g 25) n b i), qI ((i : Int) + 1), qI (sgC (layG g 25) n b i)] [qI (qb ((sgC (layG g 25) n b i) = 0)), qI (sgS (layG g 25) n b i)] (rput h m f (gup (rsG (layG g) n (ps (layG g 25) n 0 (-1) b (i + 1)) (i + 1)) 30 (qmx (if (i + 1) = 0 then 0 else n) (ps (layG g 25) n 0 (-1) b ((i + 1) - 1)) (g 30)))) r hr by
          refine z_if_ne 131 d_X12_stir_124 (by decide) (fun hc8 => ?_) (fun hc8 => ?_)
          · refine z_iconst d_X12_stir_131 (by decide) ?_
            exact z_eq rfl (qc (qi (qb_f (by omega)).symm) (qc rfl rfl)) rfl kJ124
          · refine z_iconst d_X12_stir_127 (by decide) ?_
            refine z_goto 132 d_X12_stir_128 (by decide) ?_
            exact z_eq rfl (qc (qi (qb_t (by omega)).symm) (qc rfl rfl)) rfl kJ124
        refine z_iadd d_X12_stir_132 (by omega) ?_
        refine z_istore (ls' := [qR m, qI (n : Int), qI b, qI 1, qI ((sgS (layG g 25) n b i) + (qb ((sgC (layG g 25) n b i) = 0))), qI (sgM (layG g 25) n b i), qI (sgW (layG g 25) n b i), qI ((i : Int) + 1), qI (sgC (layG g 25) n b i)]) d_X12_stir_133 (by decide) rfl ?_
        refine z_iload d_X12_stir_135 rfl ?_
        refine z_iload d_X12_stir_137 rfl ?_
        suffices kJ139 : qEx M_X12_stir 149 [qR m, qI (n : Int), qI b, qI 1, qI ((sgS (layG g 25) n b i) + (qb ((sgC (layG g 25) n b i) = 0))), qI (sgM (layG g 25) n b i), qI (sgW (layG g 25) n b i), qI ((i : Int) + 1), qI (sgC (layG g 25) n b i)] [qI (qif ((sgC (layG g 25) n b i) ≤ (sgM (layG g 25) n b i)) (sgW (layG g 25) n b i) ((i : Int) + 1))] (rput h m f (gup (rsG (layG g) n (ps (layG g 25) n 0 (-1) b (i + 1)) (i + 1)) 30 (qmx (if (i + 1) = 0 then 0 else n) (ps (layG g 25) n 0 (-1) b ((i + 1) - 1)) (g 30)))) r hr by
          refine z_icmp_le 147 d_X12_stir_139 (by decide) (fun hc9 => ?_) (fun hc9 => ?_)
          · refine z_iload d_X12_stir_147 rfl ?_
            exact z_eq rfl (qc (qi (qif_t hc9).symm) rfl) rfl kJ139
          · refine z_iload d_X12_stir_142 rfl ?_
            refine z_goto 149 d_X12_stir_144 (by decide) ?_
            exact z_eq rfl (qc (qi (qif_f hc9).symm) rfl) rfl kJ139
        refine z_istore (ls' := [qR m, qI (n : Int), qI b, qI 1, qI ((sgS (layG g 25) n b i) + (qb ((sgC (layG g 25) n b i) = 0))), qI (sgM (layG g 25) n b i), qI (qif ((sgC (layG g 25) n b i) ≤ (sgM (layG g 25) n b i)) (sgW (layG g 25) n b i) ((i : Int) + 1)), qI ((i : Int) + 1), qI (sgC (layG g 25) n b i)]) d_X12_stir_149 (by decide) rfl ?_
        refine z_iload d_X12_stir_151 rfl ?_
        refine z_iload d_X12_stir_153 rfl ?_
        refine z_cs (M1 := M_X12_more2) d_X12_stir_155 ls_X12_372 k_X12_more2 [qI (sgC (layG g 25) n b i), qI (sgM (layG g 25) n b i)] rfl rfl (Nat.le_of_ble_eq_true rfl) (by decide) (by decide) (Nat.le_of_ble_eq_true rfl) (c_more2 (sgC (layG g 25) n b i) (sgM (layG g 25) n b i)) ?_
        refine z_istore (ls' := [qR m, qI (n : Int), qI b, qI 1, qI ((sgS (layG g 25) n b i) + (qb ((sgC (layG g 25) n b i) = 0))), qI (if (sgC (layG g 25) n b i) > (sgM (layG g 25) n b i) then (sgC (layG g 25) n b i) else (sgM (layG g 25) n b i)), qI (qif ((sgC (layG g 25) n b i) ≤ (sgM (layG g 25) n b i)) (sgW (layG g 25) n b i) ((i : Int) + 1)), qI ((i : Int) + 1), qI (sgC (layG g 25) n b i)]) d_X12_stir_158 (by decide) rfl ?_
        refine z_iinc (ls' := [qR m, qI (n : Int), qI b, qI 1, qI ((sgS (layG g 25) n b i) + (qb ((sgC (layG g 25) n b i) = 0))), qI (if (sgC (layG g 25) n b i) > (sgM (layG g 25) n b i) then (sgC (layG g 25) n b i) else (sgM (layG g 25) n b i)), qI (qif ((sgC (layG g 25) n b i) ≤ (sgM (layG g 25) n b i)) (sgW (layG g 25) n b i) ((i : Int) + 1)), qI (((i : Int) + 1) + 1), qI (sgC (layG g 25) n b i)]) d_X12_stir_160 rfl (by decide) (by omega) rfl ?_
        refine z_goto 49 d_X12_stir_163 (by decide) ?_
        exact z_dr (qle_k rfl (qle_k rfl (qle_k rfl (qle_k rfl (qle_k (qi (rfl)) (qle_k (qi (rfl)) (qle_k (qi (rfl)) (qle_k (qi (by omega)) (qle_d qle_n))))))))) rfl rfl (kki (q_lts hp (fun z => by rcases z with z | z; omega; (unfold litAt at z; omega))))
  · show qEx M_X12_stir 49 [qR m, qI (n : Int), qI b, qI 1, qI (sgS (layG g 25) n b (3 * n + 20)), qI (sgM (layG g 25) n b (3 * n + 20)), qI (sgW (layG g 25) n b (3 * n + 20)), qI (((3 * n + 20) : Int) + 1), qU] [] (rput h m f (gup (rsG (layG g) n (ps (layG g 25) n 0 (-1) b (3 * n + 20)) (3 * n + 20)) 30 (qmx (if (3 * n + 20) = 0 then 0 else n) (ps (layG g 25) n 0 (-1) b ((3 * n + 20) - 1)) (g 30)))) r hr
    refine z_iload d_X12_stir_49 rfl ?_
    refine z_iload_n d_X12_stir_51 rfl rfl ?_
    refine z_cs (M1 := M_X12_longest) d_X12_stir_52 ls_X12_333 k_X12_longest [qI (n : Int)] rfl rfl (Nat.le_of_ble_eq_true rfl) (by decide) (by decide) (Nat.le_of_ble_eq_true rfl) (c_longest (n : Int) (by omega)) ?_
    refine z_icmp_gt 166 d_X12_stir_55 (by decide) (fun hc10 => ?_) (fun hc10 => absurd hc10 (by omega))
    exact KP (3 * n + 20) (Nat.le_refl _) (Or.inl (Nat.le_refl _)) hp
set_option maxRecDepth 20000 in
set_option maxHeartbeats 4000000 in
theorem c_stir2 {h : qH} {m : Nat} {f : Nat → Int} {g : Nat → Nat → Int} {n : Nat} (b : Int) (hm : 2 ≤ m) (h0 : f 0 = 0) (hn : 1 ≤ n ∧ n ≤ 32) (hb : 0 ≤ b ∧ b < n) (hO : bkOk (g 2) (g 5)) : qEx M_X12_stir 0 [qR m, qI (n : Int), qI b, qI 2, qU, qU, qU, qU, qU] [] (rput h m f g) (some (qI (sgW (layG g 25) n b (rnJ (layG g 25) n 0 b)))) (rput h m f (gup (rsG (layG g) n (ps (layG g 25) n 0 (-1) b (rnJ (layG g 25) n 0 b)) (rnJ (layG g 25) n 0 b)) 30 (qmx (if (rnJ (layG g 25) n 0 b) = 0 then 0 else n) (ps (layG g 25) n 0 (-1) b ((rnJ (layG g 25) n 0 b) - 1)) (g 30)))) := by
  refine q_gen (fun r hr er eh => ?_)
  refine z_aload_n d_X12_stir_0 rfl rfl ?_
  refine z_iconst d_X12_stir_1 (by decide) ?_
  refine z_putf (fs' := [qI 0, qI (f 1), qI (f 2), qI (f 3), qI (f 4), qI (f 5), qI (f 6), qI (f 7), qR (m + 1), qR (m + 2), qR (m + 3), qR (m + 4), qR (m + 5), qR (m + 6), qR (m + 7), qR (m + 8), qR (m + 9), qR (m + 10), qI (f 18), qI (f 19), qI (f 20), qR (m + 11), qR (m + 12), qR (m + 13), qR (m + 14), qI (f 25), qR (m + 15), qI (f 27), qR (m + 16), qR (m + 17), qR (m + 18), qR (m + 19), qR (m + 20), qR (m + 21), qR (m + 22), qR (m + 23), qR (m + 24), qI (f 37), qI (f 38), qI (f 39), qI (f 40), qR (m + 25), qR (m + 26), qR (m + 27), qR (m + 28), qR (m + 29), qR (m + 30), qR (m + 31), qI (f 48), qR (m + 32), qR (m + 33), qR (m + 34), qR (m + 35), qR (m + 36), qR (m + 37)]) d_X12_stir_2 fp_X12_127 rput_o (fun _ => rfl) (fun _ => rfl) (Nat.le_of_ble_eq_true rfl) rfl ?_
  refine z_eq rfl rfl ((rput_sf (f' := qup f 0 0) rfl).trans (rput_cg (qup_self h0) rfl)) ?_
  refine z_iload_n d_X12_stir_5 rfl rfl ?_
  refine z_iload_n d_X12_stir_6 rfl rfl ?_
  refine z_cs (M1 := M_X12_isRun) d_X12_stir_7 ls_X12_347 k_X12_isRun [qI (n : Int), qI b] rfl rfl (Nat.le_of_ble_eq_true rfl) (by decide) (by decide) (Nat.le_of_ble_eq_true rfl) (c_isRun2 (n : Int) b (by omega)) ?_
  refine z_ifeqB 22 d_X12_stir_10 (by decide) (fun hc1 => absurd hc1 (by omega)) (fun hc1 => ?_)
  refine z_iload_n d_X12_stir_13 rfl rfl ?_
  refine z_iconst d_X12_stir_14 (by decide) ?_
  refine z_iconst d_X12_stir_15 (by decide) ?_
  refine z_cs (M1 := M_X12_in) d_X12_stir_16 ls_X12_137 k_X12_in [qI 2, qI 0, qI 2] rfl rfl (Nat.le_of_ble_eq_true rfl) (by decide) (by decide) (Nat.le_of_ble_eq_true rfl) (c_in 2 0 2) ?_
  refine z_ifneB 24 d_X12_stir_19 (by decide) (fun hc2 => ?_) (fun hc2 => absurd hc2 (by omega))
  refine z_aload_n d_X12_stir_24 rfl rfl ?_
  refine z_cv0 (M1 := M_X12_laysOwn) d_X12_stir_25 lv_X12_275 k_X12_laysOwn [] rfl rfl rput_o ⟨_, _, rfl⟩ (Nat.le_of_ble_eq_true rfl) (by decide) (by decide) (Nat.le_of_ble_eq_true rfl) (c_laysOwn hm) ?_
  refine z_aload_n d_X12_stir_28 rfl rfl ?_
  refine z_getf (v := qR (m + 28)) d_X12_stir_29 fl_X12_95 rput_o rfl ?_
  refine z_iload_n d_X12_stir_32 rfl rfl ?_
  refine z_iload_n d_X12_stir_33 rfl rfl ?_
  refine z_cs0 (M1 := M_X12_begins) d_X12_stir_34 ls_X12_329 k_X12_begins [qR (m + 28), qI (n : Int), qI b] rfl rfl (Nat.le_of_ble_eq_true rfl) (by decide) (by decide) (Nat.le_of_ble_eq_true rfl) (c_begins n b (rput_a2 28 (t := 0) (n := 32) (F := ((layG g) 28)) rfl rfl rfl (by decide) (by decide)) (by omega) (by omega) (by decide)) ?_
  refine z_eq rfl rfl (rput_sa 28 rfl rfl (by decide) (by decide)) ?_
  refine z_iconst d_X12_stir_37 (by decide) ?_
  refine z_istore (ls' := [qR m, qI (n : Int), qI b, qI 2, qI 0, qU, qU, qU, qU]) d_X12_stir_38 (by decide) rfl ?_
  refine z_iconst d_X12_stir_40 (by decide) ?_
  refine z_istore (ls' := [qR m, qI (n : Int), qI b, qI 2, qI 0, qI 0, qU, qU, qU]) d_X12_stir_41 (by decide) rfl ?_
  refine z_iconst d_X12_stir_43 (by decide) ?_
  refine z_istore (ls' := [qR m, qI (n : Int), qI b, qI 2, qI 0, qI 0, qI (-1), qU, qU]) d_X12_stir_44 (by decide) rfl ?_
  refine z_iconst d_X12_stir_46 (by decide) ?_
  refine z_istore (ls' := [qR m, qI (n : Int), qI b, qI 2, qI 0, qI 0, qI (-1), qI 1, qU]) d_X12_stir_47 (by decide) rfl ?_
  have KP : ∀ i, i ≤ 3 * n + 20 → (fun t : Nat => t ≥ 3 * n + 20 ∨ litAt (layG g 25) n 0 (-1) b t) i → (∀ k, k < i → ¬ (fun t : Nat => t ≥ 3 * n + 20 ∨ litAt (layG g 25) n 0 (-1) b t) k) → qEx M_X12_stir 166 [qR m, qI (n : Int), qI b, qI 2, qI (sgS (layG g 25) n b i), qI (sgM (layG g 25) n b i), qI (sgW (layG g 25) n b i), qI ((i : Int) + 1), qU] [] (rput h m f (gup (rsG (layG g) n (ps (layG g 25) n 0 (-1) b i) i) 30 (qmx (if i = 0 then 0 else n) (ps (layG g 25) n 0 (-1) b (i - 1)) (g 30)))) r hr := by
    intro i hi9 hx9 hp9
    refine z_iload_n d_X12_stir_166 rfl rfl ?_
    refine z_if_ne 175 d_X12_stir_167 (by decide) (fun hc3 => ?_) (fun hc3 => absurd (by decide) hc3)
    refine z_iload_n d_X12_stir_175 rfl rfl ?_
    refine z_iconst d_X12_stir_176 (by decide) ?_
    refine z_icmp_ne 185 d_X12_stir_177 (by decide) (fun hc4 => ?_) (fun hc4 => absurd (by decide) hc4)
    refine z_iload d_X12_stir_185 rfl ?_
    exact z_iret d_X12_stir_187 rfl (qer er (by unfold rnJ; rw [utl_at hi9 hp9 hx9])) (eh.trans (rput_cg rfl (by unfold rnJ; rw [utl_at hi9 hp9 hx9])))
  refine z_eq (qc rfl (qc rfl (qc rfl (qc rfl (qc (qi (rfl)) (qc (qi (rfl)) (qc (qi (rfl)) (qc (qi (rfl)) (qc rfl rfl))))))))) rfl (rput_cg rfl (rsG_0.symm.trans (gup_self (by rw [if_pos rfl]; exact (qmx_0 _ _).symm)).symm)) (z_for (3 * n + 20) (fun i => [qR m, qI (n : Int), qI b, qI 2, qI (sgS (layG g 25) n b i), qI (sgM (layG g 25) n b i), qI (sgW (layG g 25) n b i), qI ((i : Int) + 1), qU]) (fun i => (rput h m f (gup (rsG (layG g) n (ps (layG g 25) n 0 (-1) b i) i) 30 (qmx (if i = 0 then 0 else n) (ps (layG g 25) n 0 (-1) b (i - 1)) (g 30))))) (fun i => ∀ k, k < i → ¬ (fun t : Nat => t ≥ 3 * n + 20 ∨ litAt (layG g 25) n 0 (-1) b t) k) (fun k hk => absurd hk (by omega)) (fun i hii hp kki => ?_) (fun hp => ?_))
  · show qEx M_X12_stir 49 [qR m, qI (n : Int), qI b, qI 2, qI (sgS (layG g 25) n b i), qI (sgM (layG g 25) n b i), qI (sgW (layG g 25) n b i), qI ((i : Int) + 1), qU] [] (rput h m f (gup (rsG (layG g) n (ps (layG g 25) n 0 (-1) b i) i) 30 (qmx (if i = 0 then 0 else n) (ps (layG g 25) n 0 (-1) b (i - 1)) (g 30)))) r hr
    have hcb := cnt_bd (fun k => ps (layG g 25) n 0 (-1) b i k = 7) n
    have hsb := sgS_bd (T := (layG g 25)) (n := n) (b := b) i
    have hqb := qb_bd (sgC (layG g 25) n b i = 0)
    refine z_iload d_X12_stir_49 rfl ?_
    refine z_iload_n d_X12_stir_51 rfl rfl ?_
    refine z_cs (M1 := M_X12_longest) d_X12_stir_52 ls_X12_333 k_X12_longest [qI (n : Int)] rfl rfl (Nat.le_of_ble_eq_true rfl) (by decide) (by decide) (Nat.le_of_ble_eq_true rfl) (c_longest (n : Int) (by omega)) ?_
    refine z_icmp_gt 166 d_X12_stir_55 (by decide) (fun hc5 => absurd hc5 (by omega)) (fun hc5 => ?_)
    refine z_aload_n d_X12_stir_58 rfl rfl ?_
    refine z_getf (v := qR (m + 28)) d_X12_stir_59 fl_X12_95 rput_o rfl ?_
    refine z_iload_n d_X12_stir_62 rfl rfl ?_
    refine z_cs (M1 := M_X12_litIn) d_X12_stir_63 ls_X12_302 k_X12_litIn [qR (m + 28), qI (n : Int)] rfl rfl (Nat.le_of_ble_eq_true rfl) (by decide) (by decide) (Nat.le_of_ble_eq_true rfl) (c_litIn n (rput_a2 28 (t := 0) (n := 32) (F := ((rsG (layG g) n (ps (layG g 25) n 0 (-1) b i) i) 28)) rfl rfl rfl (by decide) (by decide)) (by omega) (by decide)) ?_
    refine z_eq rfl (qc (qi (show (cnt (fun q9 => ((rsG (layG g) n (ps (layG g 25) n 0 (-1) b i) i) 28) q9 = 7) n) = (cnt (fun q9 => ps (layG g 25) n 0 (-1) b i q9 = 7) n) from cnt_congr (fun q9 hq9 => by rw [rsG_28 hq9]))) rfl) rfl ?_
    refine z_if_ne 166 d_X12_stir_66 (by decide) (fun hq => ?_) (fun hq => ?_)
    · exact KP i (by omega) (by first | exact Or.inl (by omega) | exact Or.inr (by unfold litAt; omega)) hp
    · refine z_iconst d_X12_stir_69 (by decide) ?_
      refine z_istore (ls' := [qR m, qI (n : Int), qI b, qI 2, qI (sgS (layG g 25) n b i), qI (sgM (layG g 25) n b i), qI (sgW (layG g 25) n b i), qI ((i : Int) + 1), qI 0]) d_X12_stir_70 (by decide) rfl ?_
      refine z_eq (qc rfl (qc rfl (qc rfl (qc rfl (qc rfl (qc rfl (qc rfl (qc rfl (qc (qi (by omega)) rfl))))))))) rfl (rput_cg rfl (gup_cg (F' := (qmx 0 (ps (layG g 25) n 0 (-1) b i) (qmx (if i = 0 then 0 else n) (ps (layG g 25) n 0 (-1) b (i - 1)) (g 30)))) rfl (qmx_0 _ _).symm)) (z_for n (fun j => [qR m, qI (n : Int), qI b, qI 2, qI (sgS (layG g 25) n b i), qI (sgM (layG g 25) n b i), qI (sgW (layG g 25) n b i), qI ((i : Int) + 1), qI (j : Int)]) (fun j => (rput h m f (gup (rsG (layG g) n (ps (layG g 25) n 0 (-1) b i) i) 30 (qmx j (ps (layG g 25) n 0 (-1) b i) (qmx (if i = 0 then 0 else n) (ps (layG g 25) n 0 (-1) b (i - 1)) (g 30)))))) (fun j => True) trivial (fun j hij hpj kkj => ?_) (fun hpj => ?_))
      · show qEx M_X12_stir 72 [qR m, qI (n : Int), qI b, qI 2, qI (sgS (layG g 25) n b i), qI (sgM (layG g 25) n b i), qI (sgW (layG g 25) n b i), qI ((i : Int) + 1), qI (j : Int)] [] (rput h m f (gup (rsG (layG g) n (ps (layG g 25) n 0 (-1) b i) i) 30 (qmx j (ps (layG g 25) n 0 (-1) b i) (qmx (if i = 0 then 0 else n) (ps (layG g 25) n 0 (-1) b (i - 1)) (g 30))))) r hr
        refine z_iload d_X12_stir_72 rfl ?_
        refine z_iload_n d_X12_stir_74 rfl rfl ?_
        refine z_icmp_ge 98 d_X12_stir_75 (by decide) (fun hc6 => absurd hc6 (by omega)) (fun hc6 => ?_)
        refine z_aload_n d_X12_stir_78 rfl rfl ?_
        refine z_getf (v := qR (m + 30)) d_X12_stir_79 fl_X12_101 rput_o rfl ?_
        refine z_iload d_X12_stir_82 rfl ?_
        refine z_aload_n d_X12_stir_84 rfl rfl ?_
        refine z_getf (v := qR (m + 28)) d_X12_stir_85 fl_X12_95 rput_o rfl ?_
        refine z_iload d_X12_stir_88 rfl ?_
        refine z_ild j d_X12_stir_90 (rput_a2 28 (t := 0) (n := 32) (F := ((rsG (layG g) n (ps (layG g 25) n 0 (-1) b i) i) 28)) rfl rfl rfl (by decide) (by decide)) rfl (by omega) ?_
        refine z_ist j d_X12_stir_91 (rput_a2 30 (t := 0) (n := 32) (F := (qmx j (ps (layG g 25) n 0 (-1) b i) (qmx (if i = 0 then 0 else n) (ps (layG g 25) n 0 (-1) b (i - 1)) (g 30)))) rfl rfl rfl (by decide) (by decide)) (by omega) rfl (by omega) ?_
        refine z_eq rfl rfl ((rput_sa 30 rfl rfl (by decide) (by decide)).trans (rput_cg rfl (gup_gup _ _ _))) ?_
        refine z_iinc (ls' := [qR m, qI (n : Int), qI b, qI 2, qI (sgS (layG g 25) n b i), qI (sgM (layG g 25) n b i), qI (sgW (layG g 25) n b i), qI ((i : Int) + 1), qI ((j : Int) + 1)]) d_X12_stir_92 rfl (by decide) (by omega) rfl ?_
        refine z_goto 72 d_X12_stir_95 (by decide) ?_
        exact z_eq (qc rfl (qc rfl (qc rfl (qc rfl (qc rfl (qc rfl (qc rfl (qc rfl (qc (qi (by omega)) rfl))))))))) rfl (rput_cg rfl (gup_cg (F' := (qmx (j + 1) (ps (layG g 25) n 0 (-1) b i) (qmx (if i = 0 then 0 else n) (ps (layG g 25) n 0 (-1) b (i - 1)) (g 30)))) rfl (by rw [rsG_28 hij]; exact qmx_s j (ps (layG g 25) n 0 (-1) b i) (qmx (if i = 0 then 0 else n) (ps (layG g 25) n 0 (-1) b (i - 1)) (g 30))))) (kkj trivial)
      · show qEx M_X12_stir 72 [qR m, qI (n : Int), qI b, qI 2, qI (sgS (layG g 25) n b i), qI (sgM (layG g 25) n b i), qI (sgW (layG g 25) n b i), qI ((i : Int) + 1), qI (n : Int)] [] (rput h m f (gup (rsG (layG g) n (ps (layG g 25) n 0 (-1) b i) i) 30 (qmx n (ps (layG g 25) n 0 (-1) b i) (qmx (if i = 0 then 0 else n) (ps (layG g 25) n 0 (-1) b (i - 1)) (g 30))))) r hr
        refine z_iload d_X12_stir_72 rfl ?_
        refine z_iload_n d_X12_stir_74 rfl rfl ?_
        refine z_icmp_ge 98 d_X12_stir_75 (by decide) (fun hc7 => ?_) (fun hc7 => absurd hc7 (by omega))
        refine z_aload_n d_X12_stir_98 rfl rfl ?_
        refine z_aload_n d_X12_stir_99 rfl rfl ?_
        refine z_getf (v := qR (m + 28)) d_X12_stir_100 fl_X12_95 rput_o rfl ?_
        refine z_iload_n d_X12_stir_103 rfl rfl ?_
        refine z_iconst d_X12_stir_104 (by decide) ?_
        refine z_iconst d_X12_stir_105 (by decide) ?_
        refine z_aload_n d_X12_stir_106 rfl rfl ?_
        refine z_getf (v := qR (m + 25)) d_X12_stir_107 fl_X12_86 rput_o rfl ?_
        refine z_cv0 (M1 := M_X12_steps) d_X12_stir_110 lv_X12_336 k_X12_steps [qR (m + 28), qI (n : Int), qI 0, qI (-1), qR (m + 25)] rfl rfl rput_o ⟨_, _, rfl⟩ (Nat.le_of_ble_eq_true rfl) (by decide) (by decide) (Nat.le_of_ble_eq_true rfl) (c_steps28_0 (n := n) (-1) hm (by omega) (fun q9 hq9 => show 0 ≤ (rsG (layG g) n (ps (layG g 25) n 0 (-1) b i) i) 28 q9 ∧ (rsG (layG g) n (ps (layG g 25) n 0 (-1) b i) i) 28 q9 ≤ 7 by rw [rsG_28 hq9]; exact ps_bd (fun c hc => by rw [show layG g 25 c = ownT g c from layG_T hc]; exact bkTc_bd hO (by decide) c hc) i q9 hq9)) ?_
        refine z_eq rfl rfl (rput_cg rfl ((gup3 (by decide) (by decide)).trans (gup_cg (F' := (qmx (if (i + 1) = 0 then 0 else n) (ps (layG g 25) n 0 (-1) b ((i + 1) - 1)) (g 30))) (rsG_s (fun c hc => by rw [show layG g 25 c = ownT g c from layG_T hc]; exact bkTc_bd hO (by decide) c hc)) (by rw [if_neg (show ¬ i + 1 = 0 by omega), show i + 1 - 1 = i by omega, qmx_mx _ _ _ (show (if i = 0 then 0 else n) ≤ n by split <;> omega)])))) ?_
        refine z_aload_n d_X12_stir_113 rfl rfl ?_
        refine z_iload_n d_X12_stir_114 rfl rfl ?_
        refine z_cv (M1 := M_X12_changed) d_X12_stir_115 lv_X12_375 k_X12_changed [qI (n : Int)] rfl rfl rput_o ⟨_, _, rfl⟩ (Nat.le_of_ble_eq_true rfl) (by decide) (by decide) (Nat.le_of_ble_eq_true rfl) (c_changed (n := n) hm (by omega)) ?_
        refine z_eq rfl (qc (qi (show (cnt (fun q9 => ((rsG (layG g) n (ps (layG g 25) n 0 (-1) b (i + 1)) (i + 1)) 28) q9 ≠ (qmx (if (i + 1) = 0 then 0 else n) (ps (layG g 25) n 0 (-1) b ((i + 1) - 1)) (g 30)) q9) n) = (sgC (layG g 25) n b i) from cnt_congr (fun q9 hq9 => by rw [rsG_28 hq9, if_neg (show ¬ i + 1 = 0 by omega), show i + 1 - 1 = i by omega, qmx_lt hq9]))) rfl) rfl ?_
        refine z_istore (ls' := [qR m, qI (n : Int), qI b, qI 2, qI (sgS (layG g 25) n b i), qI (sgM (layG g 25) n b i), qI (sgW (layG g 25) n b i), qI ((i : Int) + 1), qI (sgC (layG g 25) n b i)]) d_X12_stir_118 (by decide) rfl ?_
        refine z_iload d_X12_stir_120 rfl ?_
        refine z_iload d_X12_stir_122 rfl ?_
        suffices kJ124 : qEx M_X12_stir 132 [qR m, qI (n : Int), qI b, qI 2, qI (sgS (layG g 25) n b i), qI (sgM (layG g 25) n b i), qI (sgW (layG g 25) n b i), qI ((i : Int) + 1), qI (sgC (layG g 25) n b i)] [qI (qb ((sgC (layG g 25) n b i) = 0)), qI (sgS (layG g 25) n b i)] (rput h m f (gup (rsG (layG g) n (ps (layG g 25) n 0 (-1) b (i + 1)) (i + 1)) 30 (qmx (if (i + 1) = 0 then 0 else n) (ps (layG g 25) n 0 (-1) b ((i + 1) - 1)) (g 30)))) r hr by
          refine z_if_ne 131 d_X12_stir_124 (by decide) (fun hc8 => ?_) (fun hc8 => ?_)
          · refine z_iconst d_X12_stir_131 (by decide) ?_
            exact z_eq rfl (qc (qi (qb_f (by omega)).symm) (qc rfl rfl)) rfl kJ124
          · refine z_iconst d_X12_stir_127 (by decide) ?_
            refine z_goto 132 d_X12_stir_128 (by decide) ?_
            exact z_eq rfl (qc (qi (qb_t (by omega)).symm) (qc rfl rfl)) rfl kJ124
        refine z_iadd d_X12_stir_132 (by omega) ?_
        refine z_istore (ls' := [qR m, qI (n : Int), qI b, qI 2, qI ((sgS (layG g 25) n b i) + (qb ((sgC (layG g 25) n b i) = 0))), qI (sgM (layG g 25) n b i), qI (sgW (layG g 25) n b i), qI ((i : Int) + 1), qI (sgC (layG g 25) n b i)]) d_X12_stir_133 (by decide) rfl ?_
        refine z_iload d_X12_stir_135 rfl ?_
        refine z_iload d_X12_stir_137 rfl ?_
        suffices kJ139 : qEx M_X12_stir 149 [qR m, qI (n : Int), qI b, qI 2, qI ((sgS (layG g 25) n b i) + (qb ((sgC (layG g 25) n b i) = 0))), qI (sgM (layG g 25) n b i), qI (sgW (layG g 25) n b i), qI ((i : Int) + 1), qI (sgC (layG g 25) n b i)] [qI (qif ((sgC (layG g 25) n b i) ≤ (sgM (layG g 25) n b i)) (sgW (layG g 25) n b i) ((i : Int) + 1))] (rput h m f (gup (rsG (layG g) n (ps (layG g 25) n 0 (-1) b (i + 1)) (i + 1)) 30 (qmx (if (i + 1) = 0 then 0 else n) (ps (layG g 25) n 0 (-1) b ((i + 1) - 1)) (g 30)))) r hr by
          refine z_icmp_le 147 d_X12_stir_139 (by decide) (fun hc9 => ?_) (fun hc9 => ?_)
          · refine z_iload d_X12_stir_147 rfl ?_
            exact z_eq rfl (qc (qi (qif_t hc9).symm) rfl) rfl kJ139
          · refine z_iload d_X12_stir_142 rfl ?_
            refine z_goto 149 d_X12_stir_144 (by decide) ?_
            exact z_eq rfl (qc (qi (qif_f hc9).symm) rfl) rfl kJ139
        refine z_istore (ls' := [qR m, qI (n : Int), qI b, qI 2, qI ((sgS (layG g 25) n b i) + (qb ((sgC (layG g 25) n b i) = 0))), qI (sgM (layG g 25) n b i), qI (qif ((sgC (layG g 25) n b i) ≤ (sgM (layG g 25) n b i)) (sgW (layG g 25) n b i) ((i : Int) + 1)), qI ((i : Int) + 1), qI (sgC (layG g 25) n b i)]) d_X12_stir_149 (by decide) rfl ?_
        refine z_iload d_X12_stir_151 rfl ?_
        refine z_iload d_X12_stir_153 rfl ?_
        refine z_cs (M1 := M_X12_more2) d_X12_stir_155 ls_X12_372 k_X12_more2 [qI (sgC (layG g 25) n b i), qI (sgM (layG g 25) n b i)] rfl rfl (Nat.le_of_ble_eq_true rfl) (by decide) (by decide) (Nat.le_of_ble_eq_true rfl) (c_more2 (sgC (layG g 25) n b i) (sgM (layG g 25) n b i)) ?_
        refine z_istore (ls' := [qR m, qI (n : Int), qI b, qI 2, qI ((sgS (layG g 25) n b i) + (qb ((sgC (layG g 25) n b i) = 0))), qI (if (sgC (layG g 25) n b i) > (sgM (layG g 25) n b i) then (sgC (layG g 25) n b i) else (sgM (layG g 25) n b i)), qI (qif ((sgC (layG g 25) n b i) ≤ (sgM (layG g 25) n b i)) (sgW (layG g 25) n b i) ((i : Int) + 1)), qI ((i : Int) + 1), qI (sgC (layG g 25) n b i)]) d_X12_stir_158 (by decide) rfl ?_
        refine z_iinc (ls' := [qR m, qI (n : Int), qI b, qI 2, qI ((sgS (layG g 25) n b i) + (qb ((sgC (layG g 25) n b i) = 0))), qI (if (sgC (layG g 25) n b i) > (sgM (layG g 25) n b i) then (sgC (layG g 25) n b i) else (sgM (layG g 25) n b i)), qI (qif ((sgC (layG g 25) n b i) ≤ (sgM (layG g 25) n b i)) (sgW (layG g 25) n b i) ((i : Int) + 1)), qI (((i : Int) + 1) + 1), qI (sgC (layG g 25) n b i)]) d_X12_stir_160 rfl (by decide) (by omega) rfl ?_
        refine z_goto 49 d_X12_stir_163 (by decide) ?_
        exact z_dr (qle_k rfl (qle_k rfl (qle_k rfl (qle_k rfl (qle_k (qi (rfl)) (qle_k (qi (rfl)) (qle_k (qi (rfl)) (qle_k (qi (by omega)) (qle_d qle_n))))))))) rfl rfl (kki (q_lts hp (fun z => by rcases z with z | z; omega; (unfold litAt at z; omega))))
  · show qEx M_X12_stir 49 [qR m, qI (n : Int), qI b, qI 2, qI (sgS (layG g 25) n b (3 * n + 20)), qI (sgM (layG g 25) n b (3 * n + 20)), qI (sgW (layG g 25) n b (3 * n + 20)), qI (((3 * n + 20) : Int) + 1), qU] [] (rput h m f (gup (rsG (layG g) n (ps (layG g 25) n 0 (-1) b (3 * n + 20)) (3 * n + 20)) 30 (qmx (if (3 * n + 20) = 0 then 0 else n) (ps (layG g 25) n 0 (-1) b ((3 * n + 20) - 1)) (g 30)))) r hr
    refine z_iload d_X12_stir_49 rfl ?_
    refine z_iload_n d_X12_stir_51 rfl rfl ?_
    refine z_cs (M1 := M_X12_longest) d_X12_stir_52 ls_X12_333 k_X12_longest [qI (n : Int)] rfl rfl (Nat.le_of_ble_eq_true rfl) (by decide) (by decide) (Nat.le_of_ble_eq_true rfl) (c_longest (n : Int) (by omega)) ?_
    refine z_icmp_gt 166 d_X12_stir_55 (by decide) (fun hc10 => ?_) (fun hc10 => absurd hc10 (by omega))
    exact KP (3 * n + 20) (Nat.le_refl _) (Or.inl (Nat.le_refl _)) hp
