/-! ===== CONTRACTS: the reference: act, of, look, goes, keeps, isRule, image ===== -/
/-- what keepsBack does -/
def kbF (f : Nat → Int) : Nat → Int := if f 25 = 6 then qup f 25 6 else qup f 25 (f 25 + 1)
def kbG (f : Nat → Int) (g : Nat → Nat → Int) : Nat → Nat → Int := gup g 14 (if f 25 = 6 then qcpy (g 11) (qmx 835 (fun k => g 14 (k + 167)) (g 14)) 0 835 167 else qcpy (g 11) (g 14) 0 (167 * (f 25).toNat) 167)
theorem c_kb {h : qH} {m : Nat} {f : Nat → Int} {g : Nat → Nat → Int} (hm : 2 ≤ m) (hb : 0 ≤ f 25 ∧ f 25 ≤ 6) : qEx M_X12_keepsBack 0 [qR m, qU] [] (rput h m f g) none (rput h m (kbF f) (kbG f g)) := by
  unfold kbF kbG
  by_cases e : f 25 = 6
  · rw [if_pos e, if_pos e]
    exact c_keepsBack6 hm e
  · rw [if_neg e, if_neg e]
    obtain ⟨b, hb2⟩ : ∃ b : Nat, f 25 = b := ⟨(f 25).toNat, by omega⟩
    rw [hb2, Int.toNat_natCast]
    exact c_keepsBack hm hb2 (by omega)
theorem kbG_ne {f : Nat → Int} {g : Nat → Nat → Int} {k : Nat} (hk : k ≠ 14) : kbG f g k = g k := gup_ne hk
theorem kbF_ne {f : Nat → Int} {k : Nat} (hk : k ≠ 25) : kbF f k = f k := by
  unfold kbF
  split <;> exact qup_ne hk
set_option maxRecDepth 20000 in
set_option maxHeartbeats 4000000 in
theorem c_act_no {h : qH} {m : Nat} {f : Nat → Int} {g : Nat → Nat → Int} {n L : Nat} (what who v : Int) (hm : 2 ≤ m) (h0 : f 0 = 0) (hb : 0 ≤ f 25 ∧ f 25 ≤ 6) (hN : g 11 160 = (n : Int)) (hn : n ≤ 32) (hL : g 11 166 = (L : Int)) (hL2 : L ≤ 150) (hno : ¬ ((0 ≤ what ∧ what ≤ 3) ∧ (0 ≤ who ∧ who < n) ∧ 0 ≤ v ∧ v ≤ if what = 0 then 7 else if what = 3 then 3 else 1)) : qEx M_X12_act 0 [qR m, qI what, qI who, qI v] [] (rput h m f g) (some (qI 0)) (rput h m f g) := by
  refine q_gen (fun r hr er eh => ?_)
  refine z_aload_n d_X12_act_0 rfl rfl ?_
  refine z_iconst d_X12_act_1 (by decide) ?_
  refine z_putf (fs' := [qI 0, qI (f 1), qI (f 2), qI (f 3), qI (f 4), qI (f 5), qI (f 6), qI (f 7), qR (m + 1), qR (m + 2), qR (m + 3), qR (m + 4), qR (m + 5), qR (m + 6), qR (m + 7), qR (m + 8), qR (m + 9), qR (m + 10), qI (f 18), qI (f 19), qI (f 20), qR (m + 11), qR (m + 12), qR (m + 13), qR (m + 14), qI (f 25), qR (m + 15), qI (f 27), qR (m + 16), qR (m + 17), qR (m + 18), qR (m + 19), qR (m + 20), qR (m + 21), qR (m + 22), qR (m + 23), qR (m + 24), qI (f 37), qI (f 38), qI (f 39), qI (f 40), qR (m + 25), qR (m + 26), qR (m + 27), qR (m + 28), qR (m + 29), qR (m + 30), qR (m + 31), qI (f 48), qR (m + 32), qR (m + 33), qR (m + 34), qR (m + 35), qR (m + 36), qR (m + 37)]) d_X12_act_2 fp_X12_127 rput_o (fun _ => rfl) (fun _ => rfl) (Nat.le_of_ble_eq_true rfl) rfl ?_
  refine z_eq rfl rfl ((rput_sf (f' := qup f 0 0) rfl).trans (rput_cg (qup_self h0) rfl)) ?_
  refine z_iload_n d_X12_act_5 rfl rfl ?_
  refine z_iconst d_X12_act_6 (by decide) ?_
  refine z_iconst d_X12_act_7 (by decide) ?_
  refine z_cs (M1 := M_X12_in) d_X12_act_8 ls_X12_137 k_X12_in [qI what, qI 0, qI 3] rfl rfl (Nat.le_of_ble_eq_true rfl) (by decide) (by decide) (Nat.le_of_ble_eq_true rfl) (c_in what 0 3) ?_
  refine z_ifeqB 59 d_X12_act_11 (by decide) (fun hc1 => ?_) (fun hc1 => ?_)
  · refine z_iconst d_X12_act_59 (by decide) ?_
    exact z_zret d_X12_act_60 rfl (by first | exact qb_01 _ | decide | omega) er eh
  · refine z_iload_n d_X12_act_14 rfl rfl ?_
    refine z_iconst d_X12_act_15 (by decide) ?_
    refine z_aload_n d_X12_act_16 rfl rfl ?_
    refine z_getf (v := qR (m + 11)) d_X12_act_17 fl_X12_44 rput_o rfl ?_
    refine z_sipush d_X12_act_20 (by decide) ?_
    refine z_ild 160 d_X12_act_23 (rput_a2 11 (t := 0) (n := 167) (F := (g 11)) rfl rfl rfl (by decide) (by decide)) rfl (by omega) ?_
    refine z_eq rfl (qc (qi hN) rfl) rfl ?_
    refine z_iconst d_X12_act_24 (by decide) ?_
    refine z_isub d_X12_act_25 (by omega) ?_
    refine z_cs (M1 := M_X12_in) d_X12_act_26 ls_X12_137 k_X12_in [qI who, qI 0, qI ((n : Int) - 1)] rfl rfl (Nat.le_of_ble_eq_true rfl) (by decide) (by decide) (Nat.le_of_ble_eq_true rfl) (c_in who 0 ((n : Int) - 1)) ?_
    refine z_ifeqB 59 d_X12_act_29 (by decide) (fun hc2 => ?_) (fun hc2 => ?_)
    · refine z_iconst d_X12_act_59 (by decide) ?_
      exact z_zret d_X12_act_60 rfl (by first | exact qb_01 _ | decide | omega) er eh
    · refine z_iload_n d_X12_act_32 rfl rfl ?_
      refine z_iconst d_X12_act_33 (by decide) ?_
      refine z_iload_n d_X12_act_34 rfl rfl ?_
      suffices kJ35 : qEx M_X12_act 53 [qR m, qI what, qI who, qI v] [qI (qif (what ≠ 0) (qif (what ≠ 3) 1 3) 7), qI 0, qI v] (rput h m f g) r hr by
        refine z_if_ne 43 d_X12_act_35 (by decide) (fun hc3 => ?_) (fun hc3 => ?_)
        · refine z_iload_n d_X12_act_43 rfl rfl ?_
          refine z_iconst d_X12_act_44 (by decide) ?_
          suffices kJ45 : qEx M_X12_act 53 [qR m, qI what, qI who, qI v] [qI (qif (what ≠ 3) 1 3), qI 0, qI v] (rput h m f g) r hr by
            refine z_icmp_ne 52 d_X12_act_45 (by decide) (fun hc4 => ?_) (fun hc4 => ?_)
            · refine z_iconst d_X12_act_52 (by decide) ?_
              exact z_eq rfl (qc (qi (qif_t hc4).symm) (qc rfl (qc rfl rfl))) rfl kJ45
            · refine z_iconst d_X12_act_48 (by decide) ?_
              refine z_goto 53 d_X12_act_49 (by decide) ?_
              exact z_eq rfl (qc (qi (qif_f hc4).symm) (qc rfl (qc rfl rfl))) rfl kJ45
          exact z_eq rfl (qc (qi (qif_t hc3).symm) (qc rfl (qc rfl rfl))) rfl kJ35
        · refine z_bipush d_X12_act_38 (by decide) ?_
          refine z_goto 53 d_X12_act_40 (by decide) ?_
          exact z_eq rfl (qc (qi (qif_f hc3).symm) (qc rfl (qc rfl rfl))) rfl kJ35
      refine z_cs (M1 := M_X12_in) d_X12_act_53 ls_X12_137 k_X12_in [qI v, qI 0, qI (qif (what ≠ 0) (qif (what ≠ 3) 1 3) 7)] rfl rfl (Nat.le_of_ble_eq_true rfl) (by decide) (by decide) (Nat.le_of_ble_eq_true rfl) (c_in v 0 (qif (what ≠ 0) (qif (what ≠ 3) 1 3) 7)) ?_
      refine z_ifneB 61 d_X12_act_56 (by decide) (fun hc5 => ?_) (fun hc5 => ?_)
      · exact absurd (by simp only [qif_eq] at *; refine ⟨by omega, by omega, ?_⟩; omega) hno
      · refine z_iconst d_X12_act_59 (by decide) ?_
        exact z_zret d_X12_act_60 rfl (by first | exact qb_01 _ | decide | omega) er eh
set_option maxRecDepth 20000 in
set_option maxHeartbeats 4000000 in
theorem c_act0 {h : qH} {m : Nat} {f : Nat → Int} {g : Nat → Nat → Int} {n L : Nat} (who : Nat) (v : Int) (hm : 2 ≤ m) (h0 : f 0 = 0) (hb : 0 ≤ f 25 ∧ f 25 ≤ 6) (hN : g 11 160 = (n : Int)) (hn : n ≤ 32) (hL : g 11 166 = (L : Int)) (hL2 : L ≤ 150) (hw : who < n) (hv : 0 ≤ v ∧ v ≤ 7) : qEx M_X12_act 0 [qR m, qI 0, qI (who : Int), qI v] [] (rput h m f g) (some (qI 1)) (rput h m (kbF f) (logG (gup (kbG f g) 11 (qup (kbG f g 11) who v)) 0 (who : Int) v)) := by
  refine q_gen (fun r hr er eh => ?_)
  refine z_aload_n d_X12_act_0 rfl rfl ?_
  refine z_iconst d_X12_act_1 (by decide) ?_
  refine z_putf (fs' := [qI 0, qI (f 1), qI (f 2), qI (f 3), qI (f 4), qI (f 5), qI (f 6), qI (f 7), qR (m + 1), qR (m + 2), qR (m + 3), qR (m + 4), qR (m + 5), qR (m + 6), qR (m + 7), qR (m + 8), qR (m + 9), qR (m + 10), qI (f 18), qI (f 19), qI (f 20), qR (m + 11), qR (m + 12), qR (m + 13), qR (m + 14), qI (f 25), qR (m + 15), qI (f 27), qR (m + 16), qR (m + 17), qR (m + 18), qR (m + 19), qR (m + 20), qR (m + 21), qR (m + 22), qR (m + 23), qR (m + 24), qI (f 37), qI (f 38), qI (f 39), qI (f 40), qR (m + 25), qR (m + 26), qR (m + 27), qR (m + 28), qR (m + 29), qR (m + 30), qR (m + 31), qI (f 48), qR (m + 32), qR (m + 33), qR (m + 34), qR (m + 35), qR (m + 36), qR (m + 37)]) d_X12_act_2 fp_X12_127 rput_o (fun _ => rfl) (fun _ => rfl) (Nat.le_of_ble_eq_true rfl) rfl ?_
  refine z_eq rfl rfl ((rput_sf (f' := qup f 0 0) rfl).trans (rput_cg (qup_self h0) rfl)) ?_
  refine z_iload_n d_X12_act_5 rfl rfl ?_
  refine z_iconst d_X12_act_6 (by decide) ?_
  refine z_iconst d_X12_act_7 (by decide) ?_
  refine z_cs (M1 := M_X12_in) d_X12_act_8 ls_X12_137 k_X12_in [qI 0, qI 0, qI 3] rfl rfl (Nat.le_of_ble_eq_true rfl) (by decide) (by decide) (Nat.le_of_ble_eq_true rfl) (c_in 0 0 3) ?_
  refine z_ifeqB 59 d_X12_act_11 (by decide) (fun hc1 => absurd hc1 (by omega)) (fun hc1 => ?_)
  refine z_iload_n d_X12_act_14 rfl rfl ?_
  refine z_iconst d_X12_act_15 (by decide) ?_
  refine z_aload_n d_X12_act_16 rfl rfl ?_
  refine z_getf (v := qR (m + 11)) d_X12_act_17 fl_X12_44 rput_o rfl ?_
  refine z_sipush d_X12_act_20 (by decide) ?_
  refine z_ild 160 d_X12_act_23 (rput_a2 11 (t := 0) (n := 167) (F := (g 11)) rfl rfl rfl (by decide) (by decide)) rfl (by omega) ?_
  refine z_eq rfl (qc (qi hN) rfl) rfl ?_
  refine z_iconst d_X12_act_24 (by decide) ?_
  refine z_isub d_X12_act_25 (by omega) ?_
  refine z_cs (M1 := M_X12_in) d_X12_act_26 ls_X12_137 k_X12_in [qI (who : Int), qI 0, qI ((n : Int) - 1)] rfl rfl (Nat.le_of_ble_eq_true rfl) (by decide) (by decide) (Nat.le_of_ble_eq_true rfl) (c_in (who : Int) 0 ((n : Int) - 1)) ?_
  refine z_ifeqB 59 d_X12_act_29 (by decide) (fun hc2 => absurd hc2 (by omega)) (fun hc2 => ?_)
  refine z_iload_n d_X12_act_32 rfl rfl ?_
  refine z_iconst d_X12_act_33 (by decide) ?_
  refine z_iload_n d_X12_act_34 rfl rfl ?_
  refine z_if_ne 43 d_X12_act_35 (by decide) (fun hc3 => absurd hc3 (by decide)) (fun hc3 => ?_)
  refine z_bipush d_X12_act_38 (by decide) ?_
  refine z_goto 53 d_X12_act_40 (by decide) ?_
  refine z_cs (M1 := M_X12_in) d_X12_act_53 ls_X12_137 k_X12_in [qI v, qI 0, qI 7] rfl rfl (Nat.le_of_ble_eq_true rfl) (by decide) (by decide) (Nat.le_of_ble_eq_true rfl) (c_in v 0 7) ?_
  refine z_ifneB 61 d_X12_act_56 (by decide) (fun hc4 => ?_) (fun hc4 => absurd hc4 (by omega))
  refine z_aload_n d_X12_act_61 rfl rfl ?_
  refine z_cv0 (M1 := M_X12_keepsBack) d_X12_act_62 lv_X12_286 k_X12_keepsBack [] rfl rfl rput_o ⟨_, _, rfl⟩ (Nat.le_of_ble_eq_true rfl) (by decide) (by decide) (Nat.le_of_ble_eq_true rfl) (c_kb hm hb) ?_
  refine z_aload_n d_X12_act_65 rfl rfl ?_
  refine z_iload_n d_X12_act_66 rfl rfl ?_
  refine z_if_ne 74 d_X12_act_67 (by decide) (fun hc5 => absurd hc5 (by decide)) (fun hc5 => ?_)
  refine z_iconst d_X12_act_70 (by decide) ?_
  refine z_goto 97 d_X12_act_71 (by decide) ?_
  refine z_iload_n d_X12_act_97 rfl rfl ?_
  refine z_iload_n d_X12_act_98 rfl rfl ?_
  refine z_cv0 (M1 := M_X12_becomes) d_X12_act_99 lv_X12_289 k_X12_becomes [qI 0, qI (who : Int), qI v] rfl rfl rput_o ⟨_, _, rfl⟩ (Nat.le_of_ble_eq_true rfl) (by decide) (by decide) (Nat.le_of_ble_eq_true rfl) (c_becomes0 (L := L) who v hm (by omega) ((congrFun (kbG_ne (by decide)) 166).trans hL) hL2) ?_
  refine z_iconst d_X12_act_102 (by decide) ?_
  exact z_zret d_X12_act_103 rfl (by first | exact qb_01 _ | decide | omega) er eh
set_option maxRecDepth 20000 in
set_option maxHeartbeats 4000000 in
theorem c_act10 {h : qH} {m : Nat} {f : Nat → Int} {g : Nat → Nat → Int} {n L : Nat} (who : Nat) (hm : 2 ≤ m) (h0 : f 0 = 0) (hb : 0 ≤ f 25 ∧ f 25 ≤ 6) (hN : g 11 160 = (n : Int)) (hn : n ≤ 32) (hL : g 11 166 = (L : Int)) (hL2 : L ≤ 150) (hw : who < n) : qEx M_X12_act 0 [qR m, qI 1, qI (who : Int), qI 0] [] (rput h m f g) (some (qI 1)) (rput h m (kbF f) (logG (gup (kbG f g) 11 (qup (kbG f g 11) (64 + who) 0)) 2 (who : Int) 0)) := by
  refine q_gen (fun r hr er eh => ?_)
  refine z_aload_n d_X12_act_0 rfl rfl ?_
  refine z_iconst d_X12_act_1 (by decide) ?_
  refine z_putf (fs' := [qI 0, qI (f 1), qI (f 2), qI (f 3), qI (f 4), qI (f 5), qI (f 6), qI (f 7), qR (m + 1), qR (m + 2), qR (m + 3), qR (m + 4), qR (m + 5), qR (m + 6), qR (m + 7), qR (m + 8), qR (m + 9), qR (m + 10), qI (f 18), qI (f 19), qI (f 20), qR (m + 11), qR (m + 12), qR (m + 13), qR (m + 14), qI (f 25), qR (m + 15), qI (f 27), qR (m + 16), qR (m + 17), qR (m + 18), qR (m + 19), qR (m + 20), qR (m + 21), qR (m + 22), qR (m + 23), qR (m + 24), qI (f 37), qI (f 38), qI (f 39), qI (f 40), qR (m + 25), qR (m + 26), qR (m + 27), qR (m + 28), qR (m + 29), qR (m + 30), qR (m + 31), qI (f 48), qR (m + 32), qR (m + 33), qR (m + 34), qR (m + 35), qR (m + 36), qR (m + 37)]) d_X12_act_2 fp_X12_127 rput_o (fun _ => rfl) (fun _ => rfl) (Nat.le_of_ble_eq_true rfl) rfl ?_
  refine z_eq rfl rfl ((rput_sf (f' := qup f 0 0) rfl).trans (rput_cg (qup_self h0) rfl)) ?_
  refine z_iload_n d_X12_act_5 rfl rfl ?_
  refine z_iconst d_X12_act_6 (by decide) ?_
  refine z_iconst d_X12_act_7 (by decide) ?_
  refine z_cs (M1 := M_X12_in) d_X12_act_8 ls_X12_137 k_X12_in [qI 1, qI 0, qI 3] rfl rfl (Nat.le_of_ble_eq_true rfl) (by decide) (by decide) (Nat.le_of_ble_eq_true rfl) (c_in 1 0 3) ?_
  refine z_ifeqB 59 d_X12_act_11 (by decide) (fun hc1 => absurd hc1 (by omega)) (fun hc1 => ?_)
  refine z_iload_n d_X12_act_14 rfl rfl ?_
  refine z_iconst d_X12_act_15 (by decide) ?_
  refine z_aload_n d_X12_act_16 rfl rfl ?_
  refine z_getf (v := qR (m + 11)) d_X12_act_17 fl_X12_44 rput_o rfl ?_
  refine z_sipush d_X12_act_20 (by decide) ?_
  refine z_ild 160 d_X12_act_23 (rput_a2 11 (t := 0) (n := 167) (F := (g 11)) rfl rfl rfl (by decide) (by decide)) rfl (by omega) ?_
  refine z_eq rfl (qc (qi hN) rfl) rfl ?_
  refine z_iconst d_X12_act_24 (by decide) ?_
  refine z_isub d_X12_act_25 (by omega) ?_
  refine z_cs (M1 := M_X12_in) d_X12_act_26 ls_X12_137 k_X12_in [qI (who : Int), qI 0, qI ((n : Int) - 1)] rfl rfl (Nat.le_of_ble_eq_true rfl) (by decide) (by decide) (Nat.le_of_ble_eq_true rfl) (c_in (who : Int) 0 ((n : Int) - 1)) ?_
  refine z_ifeqB 59 d_X12_act_29 (by decide) (fun hc2 => absurd hc2 (by omega)) (fun hc2 => ?_)
  refine z_iload_n d_X12_act_32 rfl rfl ?_
  refine z_iconst d_X12_act_33 (by decide) ?_
  refine z_iload_n d_X12_act_34 rfl rfl ?_
  refine z_if_ne 43 d_X12_act_35 (by decide) (fun hc3 => ?_) (fun hc3 => absurd (by decide) hc3)
  refine z_iload_n d_X12_act_43 rfl rfl ?_
  refine z_iconst d_X12_act_44 (by decide) ?_
  refine z_icmp_ne 52 d_X12_act_45 (by decide) (fun hc4 => ?_) (fun hc4 => absurd (by decide) hc4)
  refine z_iconst d_X12_act_52 (by decide) ?_
  refine z_cs (M1 := M_X12_in) d_X12_act_53 ls_X12_137 k_X12_in [qI 0, qI 0, qI 1] rfl rfl (Nat.le_of_ble_eq_true rfl) (by decide) (by decide) (Nat.le_of_ble_eq_true rfl) (c_in 0 0 1) ?_
  refine z_ifneB 61 d_X12_act_56 (by decide) (fun hc5 => ?_) (fun hc5 => absurd hc5 (by omega))
  refine z_aload_n d_X12_act_61 rfl rfl ?_
  refine z_cv0 (M1 := M_X12_keepsBack) d_X12_act_62 lv_X12_286 k_X12_keepsBack [] rfl rfl rput_o ⟨_, _, rfl⟩ (Nat.le_of_ble_eq_true rfl) (by decide) (by decide) (Nat.le_of_ble_eq_true rfl) (c_kb hm hb) ?_
  refine z_aload_n d_X12_act_65 rfl rfl ?_
  refine z_iload_n d_X12_act_66 rfl rfl ?_
  refine z_if_ne 74 d_X12_act_67 (by decide) (fun hc6 => ?_) (fun hc6 => absurd (by decide) hc6)
  refine z_iload_n d_X12_act_74 rfl rfl ?_
  refine z_iconst d_X12_act_75 (by decide) ?_
  refine z_icmp_ne 85 d_X12_act_76 (by decide) (fun hc7 => absurd hc7 (by decide)) (fun hc7 => ?_)
  refine z_iconst d_X12_act_79 (by decide) ?_
  refine z_iload_n d_X12_act_80 rfl rfl ?_
  refine z_isub d_X12_act_81 (by decide) ?_
  show qEx _ _ _ (qI 2 :: _) _ _ _
  refine z_goto 97 d_X12_act_82 (by decide) ?_
  refine z_iload_n d_X12_act_97 rfl rfl ?_
  refine z_iload_n d_X12_act_98 rfl rfl ?_
  refine z_cv0 (M1 := M_X12_becomes) d_X12_act_99 lv_X12_289 k_X12_becomes [qI 2, qI (who : Int), qI 0] rfl rfl rput_o ⟨_, _, rfl⟩ (Nat.le_of_ble_eq_true rfl) (by decide) (by decide) (Nat.le_of_ble_eq_true rfl) (c_becomes2 (L := L) who 0 hm (by omega) ((congrFun (kbG_ne (by decide)) 166).trans hL) hL2) ?_
  refine z_iconst d_X12_act_102 (by decide) ?_
  exact z_zret d_X12_act_103 rfl (by first | exact qb_01 _ | decide | omega) er eh
set_option maxRecDepth 20000 in
set_option maxHeartbeats 4000000 in
theorem c_act11 {h : qH} {m : Nat} {f : Nat → Int} {g : Nat → Nat → Int} {n L : Nat} (who : Nat) (hm : 2 ≤ m) (h0 : f 0 = 0) (hb : 0 ≤ f 25 ∧ f 25 ≤ 6) (hN : g 11 160 = (n : Int)) (hn : n ≤ 32) (hL : g 11 166 = (L : Int)) (hL2 : L ≤ 150) (hw : who < n) : qEx M_X12_act 0 [qR m, qI 1, qI (who : Int), qI 1] [] (rput h m f g) (some (qI 1)) (rput h m (kbF f) (logG (gup (kbG f g) 11 (qup (kbG f g 11) (64 + who) 1)) 1 (who : Int) 0)) := by
  refine q_gen (fun r hr er eh => ?_)
  refine z_aload_n d_X12_act_0 rfl rfl ?_
  refine z_iconst d_X12_act_1 (by decide) ?_
  refine z_putf (fs' := [qI 0, qI (f 1), qI (f 2), qI (f 3), qI (f 4), qI (f 5), qI (f 6), qI (f 7), qR (m + 1), qR (m + 2), qR (m + 3), qR (m + 4), qR (m + 5), qR (m + 6), qR (m + 7), qR (m + 8), qR (m + 9), qR (m + 10), qI (f 18), qI (f 19), qI (f 20), qR (m + 11), qR (m + 12), qR (m + 13), qR (m + 14), qI (f 25), qR (m + 15), qI (f 27), qR (m + 16), qR (m + 17), qR (m + 18), qR (m + 19), qR (m + 20), qR (m + 21), qR (m + 22), qR (m + 23), qR (m + 24), qI (f 37), qI (f 38), qI (f 39), qI (f 40), qR (m + 25), qR (m + 26), qR (m + 27), qR (m + 28), qR (m + 29), qR (m + 30), qR (m + 31), qI (f 48), qR (m + 32), qR (m + 33), qR (m + 34), qR (m + 35), qR (m + 36), qR (m + 37)]) d_X12_act_2 fp_X12_127 rput_o (fun _ => rfl) (fun _ => rfl) (Nat.le_of_ble_eq_true rfl) rfl ?_
  refine z_eq rfl rfl ((rput_sf (f' := qup f 0 0) rfl).trans (rput_cg (qup_self h0) rfl)) ?_
  refine z_iload_n d_X12_act_5 rfl rfl ?_
  refine z_iconst d_X12_act_6 (by decide) ?_
  refine z_iconst d_X12_act_7 (by decide) ?_
  refine z_cs (M1 := M_X12_in) d_X12_act_8 ls_X12_137 k_X12_in [qI 1, qI 0, qI 3] rfl rfl (Nat.le_of_ble_eq_true rfl) (by decide) (by decide) (Nat.le_of_ble_eq_true rfl) (c_in 1 0 3) ?_
  refine z_ifeqB 59 d_X12_act_11 (by decide) (fun hc1 => absurd hc1 (by omega)) (fun hc1 => ?_)
  refine z_iload_n d_X12_act_14 rfl rfl ?_
  refine z_iconst d_X12_act_15 (by decide) ?_
  refine z_aload_n d_X12_act_16 rfl rfl ?_
  refine z_getf (v := qR (m + 11)) d_X12_act_17 fl_X12_44 rput_o rfl ?_
  refine z_sipush d_X12_act_20 (by decide) ?_
  refine z_ild 160 d_X12_act_23 (rput_a2 11 (t := 0) (n := 167) (F := (g 11)) rfl rfl rfl (by decide) (by decide)) rfl (by omega) ?_
  refine z_eq rfl (qc (qi hN) rfl) rfl ?_
  refine z_iconst d_X12_act_24 (by decide) ?_
  refine z_isub d_X12_act_25 (by omega) ?_
  refine z_cs (M1 := M_X12_in) d_X12_act_26 ls_X12_137 k_X12_in [qI (who : Int), qI 0, qI ((n : Int) - 1)] rfl rfl (Nat.le_of_ble_eq_true rfl) (by decide) (by decide) (Nat.le_of_ble_eq_true rfl) (c_in (who : Int) 0 ((n : Int) - 1)) ?_
  refine z_ifeqB 59 d_X12_act_29 (by decide) (fun hc2 => absurd hc2 (by omega)) (fun hc2 => ?_)
  refine z_iload_n d_X12_act_32 rfl rfl ?_
  refine z_iconst d_X12_act_33 (by decide) ?_
  refine z_iload_n d_X12_act_34 rfl rfl ?_
  refine z_if_ne 43 d_X12_act_35 (by decide) (fun hc3 => ?_) (fun hc3 => absurd (by decide) hc3)
  refine z_iload_n d_X12_act_43 rfl rfl ?_
  refine z_iconst d_X12_act_44 (by decide) ?_
  refine z_icmp_ne 52 d_X12_act_45 (by decide) (fun hc4 => ?_) (fun hc4 => absurd (by decide) hc4)
  refine z_iconst d_X12_act_52 (by decide) ?_
  refine z_cs (M1 := M_X12_in) d_X12_act_53 ls_X12_137 k_X12_in [qI 1, qI 0, qI 1] rfl rfl (Nat.le_of_ble_eq_true rfl) (by decide) (by decide) (Nat.le_of_ble_eq_true rfl) (c_in 1 0 1) ?_
  refine z_ifneB 61 d_X12_act_56 (by decide) (fun hc5 => ?_) (fun hc5 => absurd hc5 (by omega))
  refine z_aload_n d_X12_act_61 rfl rfl ?_
  refine z_cv0 (M1 := M_X12_keepsBack) d_X12_act_62 lv_X12_286 k_X12_keepsBack [] rfl rfl rput_o ⟨_, _, rfl⟩ (Nat.le_of_ble_eq_true rfl) (by decide) (by decide) (Nat.le_of_ble_eq_true rfl) (c_kb hm hb) ?_
  refine z_aload_n d_X12_act_65 rfl rfl ?_
  refine z_iload_n d_X12_act_66 rfl rfl ?_
  refine z_if_ne 74 d_X12_act_67 (by decide) (fun hc6 => ?_) (fun hc6 => absurd (by decide) hc6)
  refine z_iload_n d_X12_act_74 rfl rfl ?_
  refine z_iconst d_X12_act_75 (by decide) ?_
  refine z_icmp_ne 85 d_X12_act_76 (by decide) (fun hc7 => absurd hc7 (by decide)) (fun hc7 => ?_)
  refine z_iconst d_X12_act_79 (by decide) ?_
  refine z_iload_n d_X12_act_80 rfl rfl ?_
  refine z_isub d_X12_act_81 (by decide) ?_
  show qEx _ _ _ (qI 1 :: _) _ _ _
  refine z_goto 97 d_X12_act_82 (by decide) ?_
  refine z_iload_n d_X12_act_97 rfl rfl ?_
  refine z_iload_n d_X12_act_98 rfl rfl ?_
  refine z_cv0 (M1 := M_X12_becomes) d_X12_act_99 lv_X12_289 k_X12_becomes [qI 1, qI (who : Int), qI 1] rfl rfl rput_o ⟨_, _, rfl⟩ (Nat.le_of_ble_eq_true rfl) (by decide) (by decide) (Nat.le_of_ble_eq_true rfl) (c_becomes1 (L := L) who 1 hm (by omega) ((congrFun (kbG_ne (by decide)) 166).trans hL) hL2) ?_
  refine z_iconst d_X12_act_102 (by decide) ?_
  exact z_zret d_X12_act_103 rfl (by first | exact qb_01 _ | decide | omega) er eh
set_option maxRecDepth 20000 in
set_option maxHeartbeats 4000000 in
theorem c_act20 {h : qH} {m : Nat} {f : Nat → Int} {g : Nat → Nat → Int} {n L : Nat} (who : Nat) (hm : 2 ≤ m) (h0 : f 0 = 0) (hb : 0 ≤ f 25 ∧ f 25 ≤ 6) (hN : g 11 160 = (n : Int)) (hn : n ≤ 32) (hL : g 11 166 = (L : Int)) (hL2 : L ≤ 150) (hw : who < n) : qEx M_X12_act 0 [qR m, qI 2, qI (who : Int), qI 0] [] (rput h m f g) (some (qI 1)) (rput h m (kbF f) (logG (gup (kbG f g) 11 (qup (kbG f g 11) (96 + who) 0)) 4 (who : Int) 0)) := by
  refine q_gen (fun r hr er eh => ?_)
  refine z_aload_n d_X12_act_0 rfl rfl ?_
  refine z_iconst d_X12_act_1 (by decide) ?_
  refine z_putf (fs' := [qI 0, qI (f 1), qI (f 2), qI (f 3), qI (f 4), qI (f 5), qI (f 6), qI (f 7), qR (m + 1), qR (m + 2), qR (m + 3), qR (m + 4), qR (m + 5), qR (m + 6), qR (m + 7), qR (m + 8), qR (m + 9), qR (m + 10), qI (f 18), qI (f 19), qI (f 20), qR (m + 11), qR (m + 12), qR (m + 13), qR (m + 14), qI (f 25), qR (m + 15), qI (f 27), qR (m + 16), qR (m + 17), qR (m + 18), qR (m + 19), qR (m + 20), qR (m + 21), qR (m + 22), qR (m + 23), qR (m + 24), qI (f 37), qI (f 38), qI (f 39), qI (f 40), qR (m + 25), qR (m + 26), qR (m + 27), qR (m + 28), qR (m + 29), qR (m + 30), qR (m + 31), qI (f 48), qR (m + 32), qR (m + 33), qR (m + 34), qR (m + 35), qR (m + 36), qR (m + 37)]) d_X12_act_2 fp_X12_127 rput_o (fun _ => rfl) (fun _ => rfl) (Nat.le_of_ble_eq_true rfl) rfl ?_
  refine z_eq rfl rfl ((rput_sf (f' := qup f 0 0) rfl).trans (rput_cg (qup_self h0) rfl)) ?_
  refine z_iload_n d_X12_act_5 rfl rfl ?_
  refine z_iconst d_X12_act_6 (by decide) ?_
  refine z_iconst d_X12_act_7 (by decide) ?_
  refine z_cs (M1 := M_X12_in) d_X12_act_8 ls_X12_137 k_X12_in [qI 2, qI 0, qI 3] rfl rfl (Nat.le_of_ble_eq_true rfl) (by decide) (by decide) (Nat.le_of_ble_eq_true rfl) (c_in 2 0 3) ?_
  refine z_ifeqB 59 d_X12_act_11 (by decide) (fun hc1 => absurd hc1 (by omega)) (fun hc1 => ?_)
  refine z_iload_n d_X12_act_14 rfl rfl ?_
  refine z_iconst d_X12_act_15 (by decide) ?_
  refine z_aload_n d_X12_act_16 rfl rfl ?_
  refine z_getf (v := qR (m + 11)) d_X12_act_17 fl_X12_44 rput_o rfl ?_
  refine z_sipush d_X12_act_20 (by decide) ?_
  refine z_ild 160 d_X12_act_23 (rput_a2 11 (t := 0) (n := 167) (F := (g 11)) rfl rfl rfl (by decide) (by decide)) rfl (by omega) ?_
  refine z_eq rfl (qc (qi hN) rfl) rfl ?_
  refine z_iconst d_X12_act_24 (by decide) ?_
  refine z_isub d_X12_act_25 (by omega) ?_
  refine z_cs (M1 := M_X12_in) d_X12_act_26 ls_X12_137 k_X12_in [qI (who : Int), qI 0, qI ((n : Int) - 1)] rfl rfl (Nat.le_of_ble_eq_true rfl) (by decide) (by decide) (Nat.le_of_ble_eq_true rfl) (c_in (who : Int) 0 ((n : Int) - 1)) ?_
  refine z_ifeqB 59 d_X12_act_29 (by decide) (fun hc2 => absurd hc2 (by omega)) (fun hc2 => ?_)
  refine z_iload_n d_X12_act_32 rfl rfl ?_
  refine z_iconst d_X12_act_33 (by decide) ?_
  refine z_iload_n d_X12_act_34 rfl rfl ?_
  refine z_if_ne 43 d_X12_act_35 (by decide) (fun hc3 => ?_) (fun hc3 => absurd (by decide) hc3)
  refine z_iload_n d_X12_act_43 rfl rfl ?_
  refine z_iconst d_X12_act_44 (by decide) ?_
  refine z_icmp_ne 52 d_X12_act_45 (by decide) (fun hc4 => ?_) (fun hc4 => absurd (by decide) hc4)
  refine z_iconst d_X12_act_52 (by decide) ?_
  refine z_cs (M1 := M_X12_in) d_X12_act_53 ls_X12_137 k_X12_in [qI 0, qI 0, qI 1] rfl rfl (Nat.le_of_ble_eq_true rfl) (by decide) (by decide) (Nat.le_of_ble_eq_true rfl) (c_in 0 0 1) ?_
  refine z_ifneB 61 d_X12_act_56 (by decide) (fun hc5 => ?_) (fun hc5 => absurd hc5 (by omega))
  refine z_aload_n d_X12_act_61 rfl rfl ?_
  refine z_cv0 (M1 := M_X12_keepsBack) d_X12_act_62 lv_X12_286 k_X12_keepsBack [] rfl rfl rput_o ⟨_, _, rfl⟩ (Nat.le_of_ble_eq_true rfl) (by decide) (by decide) (Nat.le_of_ble_eq_true rfl) (c_kb hm hb) ?_
  refine z_aload_n d_X12_act_65 rfl rfl ?_
  refine z_iload_n d_X12_act_66 rfl rfl ?_
  refine z_if_ne 74 d_X12_act_67 (by decide) (fun hc6 => ?_) (fun hc6 => absurd (by decide) hc6)
  refine z_iload_n d_X12_act_74 rfl rfl ?_
  refine z_iconst d_X12_act_75 (by decide) ?_
  refine z_icmp_ne 85 d_X12_act_76 (by decide) (fun hc7 => ?_) (fun hc7 => absurd (by decide) hc7)
  refine z_iload_n d_X12_act_85 rfl rfl ?_
  refine z_iconst d_X12_act_86 (by decide) ?_
  refine z_icmp_ne 96 d_X12_act_87 (by decide) (fun hc8 => absurd hc8 (by decide)) (fun hc8 => ?_)
  refine z_iconst d_X12_act_90 (by decide) ?_
  refine z_iload_n d_X12_act_91 rfl rfl ?_
  refine z_isub d_X12_act_92 (by decide) ?_
  show qEx _ _ _ (qI 4 :: _) _ _ _
  refine z_goto 97 d_X12_act_93 (by decide) ?_
  refine z_iload_n d_X12_act_97 rfl rfl ?_
  refine z_iload_n d_X12_act_98 rfl rfl ?_
  refine z_cv0 (M1 := M_X12_becomes) d_X12_act_99 lv_X12_289 k_X12_becomes [qI 4, qI (who : Int), qI 0] rfl rfl rput_o ⟨_, _, rfl⟩ (Nat.le_of_ble_eq_true rfl) (by decide) (by decide) (Nat.le_of_ble_eq_true rfl) (c_becomes4 (L := L) who 0 hm (by omega) ((congrFun (kbG_ne (by decide)) 166).trans hL) hL2) ?_
  refine z_iconst d_X12_act_102 (by decide) ?_
  exact z_zret d_X12_act_103 rfl (by first | exact qb_01 _ | decide | omega) er eh
set_option maxRecDepth 20000 in
set_option maxHeartbeats 4000000 in
theorem c_act21 {h : qH} {m : Nat} {f : Nat → Int} {g : Nat → Nat → Int} {n L : Nat} (who : Nat) (hm : 2 ≤ m) (h0 : f 0 = 0) (hb : 0 ≤ f 25 ∧ f 25 ≤ 6) (hN : g 11 160 = (n : Int)) (hn : n ≤ 32) (hL : g 11 166 = (L : Int)) (hL2 : L ≤ 150) (hw : who < n) : qEx M_X12_act 0 [qR m, qI 2, qI (who : Int), qI 1] [] (rput h m f g) (some (qI 1)) (rput h m (kbF f) (logG (gup (kbG f g) 11 (qup (kbG f g 11) (96 + who) 1)) 3 (who : Int) 0)) := by
  refine q_gen (fun r hr er eh => ?_)
  refine z_aload_n d_X12_act_0 rfl rfl ?_
  refine z_iconst d_X12_act_1 (by decide) ?_
  refine z_putf (fs' := [qI 0, qI (f 1), qI (f 2), qI (f 3), qI (f 4), qI (f 5), qI (f 6), qI (f 7), qR (m + 1), qR (m + 2), qR (m + 3), qR (m + 4), qR (m + 5), qR (m + 6), qR (m + 7), qR (m + 8), qR (m + 9), qR (m + 10), qI (f 18), qI (f 19), qI (f 20), qR (m + 11), qR (m + 12), qR (m + 13), qR (m + 14), qI (f 25), qR (m + 15), qI (f 27), qR (m + 16), qR (m + 17), qR (m + 18), qR (m + 19), qR (m + 20), qR (m + 21), qR (m + 22), qR (m + 23), qR (m + 24), qI (f 37), qI (f 38), qI (f 39), qI (f 40), qR (m + 25), qR (m + 26), qR (m + 27), qR (m + 28), qR (m + 29), qR (m + 30), qR (m + 31), qI (f 48), qR (m + 32), qR (m + 33), qR (m + 34), qR (m + 35), qR (m + 36), qR (m + 37)]) d_X12_act_2 fp_X12_127 rput_o (fun _ => rfl) (fun _ => rfl) (Nat.le_of_ble_eq_true rfl) rfl ?_
  refine z_eq rfl rfl ((rput_sf (f' := qup f 0 0) rfl).trans (rput_cg (qup_self h0) rfl)) ?_
  refine z_iload_n d_X12_act_5 rfl rfl ?_
  refine z_iconst d_X12_act_6 (by decide) ?_
  refine z_iconst d_X12_act_7 (by decide) ?_
  refine z_cs (M1 := M_X12_in) d_X12_act_8 ls_X12_137 k_X12_in [qI 2, qI 0, qI 3] rfl rfl (Nat.le_of_ble_eq_true rfl) (by decide) (by decide) (Nat.le_of_ble_eq_true rfl) (c_in 2 0 3) ?_
  refine z_ifeqB 59 d_X12_act_11 (by decide) (fun hc1 => absurd hc1 (by omega)) (fun hc1 => ?_)
  refine z_iload_n d_X12_act_14 rfl rfl ?_
  refine z_iconst d_X12_act_15 (by decide) ?_
  refine z_aload_n d_X12_act_16 rfl rfl ?_
  refine z_getf (v := qR (m + 11)) d_X12_act_17 fl_X12_44 rput_o rfl ?_
  refine z_sipush d_X12_act_20 (by decide) ?_
  refine z_ild 160 d_X12_act_23 (rput_a2 11 (t := 0) (n := 167) (F := (g 11)) rfl rfl rfl (by decide) (by decide)) rfl (by omega) ?_
  refine z_eq rfl (qc (qi hN) rfl) rfl ?_
  refine z_iconst d_X12_act_24 (by decide) ?_
  refine z_isub d_X12_act_25 (by omega) ?_
  refine z_cs (M1 := M_X12_in) d_X12_act_26 ls_X12_137 k_X12_in [qI (who : Int), qI 0, qI ((n : Int) - 1)] rfl rfl (Nat.le_of_ble_eq_true rfl) (by decide) (by decide) (Nat.le_of_ble_eq_true rfl) (c_in (who : Int) 0 ((n : Int) - 1)) ?_
  refine z_ifeqB 59 d_X12_act_29 (by decide) (fun hc2 => absurd hc2 (by omega)) (fun hc2 => ?_)
  refine z_iload_n d_X12_act_32 rfl rfl ?_
  refine z_iconst d_X12_act_33 (by decide) ?_
  refine z_iload_n d_X12_act_34 rfl rfl ?_
  refine z_if_ne 43 d_X12_act_35 (by decide) (fun hc3 => ?_) (fun hc3 => absurd (by decide) hc3)
  refine z_iload_n d_X12_act_43 rfl rfl ?_
  refine z_iconst d_X12_act_44 (by decide) ?_
  refine z_icmp_ne 52 d_X12_act_45 (by decide) (fun hc4 => ?_) (fun hc4 => absurd (by decide) hc4)
  refine z_iconst d_X12_act_52 (by decide) ?_
  refine z_cs (M1 := M_X12_in) d_X12_act_53 ls_X12_137 k_X12_in [qI 1, qI 0, qI 1] rfl rfl (Nat.le_of_ble_eq_true rfl) (by decide) (by decide) (Nat.le_of_ble_eq_true rfl) (c_in 1 0 1) ?_
  refine z_ifneB 61 d_X12_act_56 (by decide) (fun hc5 => ?_) (fun hc5 => absurd hc5 (by omega))
  refine z_aload_n d_X12_act_61 rfl rfl ?_
  refine z_cv0 (M1 := M_X12_keepsBack) d_X12_act_62 lv_X12_286 k_X12_keepsBack [] rfl rfl rput_o ⟨_, _, rfl⟩ (Nat.le_of_ble_eq_true rfl) (by decide) (by decide) (Nat.le_of_ble_eq_true rfl) (c_kb hm hb) ?_
  refine z_aload_n d_X12_act_65 rfl rfl ?_
  refine z_iload_n d_X12_act_66 rfl rfl ?_
  refine z_if_ne 74 d_X12_act_67 (by decide) (fun hc6 => ?_) (fun hc6 => absurd (by decide) hc6)
  refine z_iload_n d_X12_act_74 rfl rfl ?_
  refine z_iconst d_X12_act_75 (by decide) ?_
  refine z_icmp_ne 85 d_X12_act_76 (by decide) (fun hc7 => ?_) (fun hc7 => absurd (by decide) hc7)
  refine z_iload_n d_X12_act_85 rfl rfl ?_
  refine z_iconst d_X12_act_86 (by decide) ?_
  refine z_icmp_ne 96 d_X12_act_87 (by decide) (fun hc8 => absurd hc8 (by decide)) (fun hc8 => ?_)
  refine z_iconst d_X12_act_90 (by decide) ?_
  refine z_iload_n d_X12_act_91 rfl rfl ?_
  refine z_isub d_X12_act_92 (by decide) ?_
  show qEx _ _ _ (qI 3 :: _) _ _ _
  refine z_goto 97 d_X12_act_93 (by decide) ?_
  refine z_iload_n d_X12_act_97 rfl rfl ?_
  refine z_iload_n d_X12_act_98 rfl rfl ?_
  refine z_cv0 (M1 := M_X12_becomes) d_X12_act_99 lv_X12_289 k_X12_becomes [qI 3, qI (who : Int), qI 1] rfl rfl rput_o ⟨_, _, rfl⟩ (Nat.le_of_ble_eq_true rfl) (by decide) (by decide) (Nat.le_of_ble_eq_true rfl) (c_becomes3 (L := L) who 1 hm (by omega) ((congrFun (kbG_ne (by decide)) 166).trans hL) hL2) ?_
  refine z_iconst d_X12_act_102 (by decide) ?_
  exact z_zret d_X12_act_103 rfl (by first | exact qb_01 _ | decide | omega) er eh
set_option maxRecDepth 20000 in
set_option maxHeartbeats 4000000 in
theorem c_act3 {h : qH} {m : Nat} {f : Nat → Int} {g : Nat → Nat → Int} {n L : Nat} (who : Nat) (v : Int) (hm : 2 ≤ m) (h0 : f 0 = 0) (hb : 0 ≤ f 25 ∧ f 25 ≤ 6) (hN : g 11 160 = (n : Int)) (hn : n ≤ 32) (hL : g 11 166 = (L : Int)) (hL2 : L ≤ 150) (hw : who < n) (hv : 0 ≤ v ∧ v ≤ 3) : qEx M_X12_act 0 [qR m, qI 3, qI (who : Int), qI v] [] (rput h m f g) (some (qI 1)) (rput h m (kbF f) (logG (gup (kbG f g) 11 (qup (kbG f g 11) (128 + who) v)) 5 (who : Int) v)) := by
  refine q_gen (fun r hr er eh => ?_)
  refine z_aload_n d_X12_act_0 rfl rfl ?_
  refine z_iconst d_X12_act_1 (by decide) ?_
  refine z_putf (fs' := [qI 0, qI (f 1), qI (f 2), qI (f 3), qI (f 4), qI (f 5), qI (f 6), qI (f 7), qR (m + 1), qR (m + 2), qR (m + 3), qR (m + 4), qR (m + 5), qR (m + 6), qR (m + 7), qR (m + 8), qR (m + 9), qR (m + 10), qI (f 18), qI (f 19), qI (f 20), qR (m + 11), qR (m + 12), qR (m + 13), qR (m + 14), qI (f 25), qR (m + 15), qI (f 27), qR (m + 16), qR (m + 17), qR (m + 18), qR (m + 19), qR (m + 20), qR (m + 21), qR (m + 22), qR (m + 23), qR (m + 24), qI (f 37), qI (f 38), qI (f 39), qI (f 40), qR (m + 25), qR (m + 26), qR (m + 27), qR (m + 28), qR (m + 29), qR (m + 30), qR (m + 31), qI (f 48), qR (m + 32), qR (m + 33), qR (m + 34), qR (m + 35), qR (m + 36), qR (m + 37)]) d_X12_act_2 fp_X12_127 rput_o (fun _ => rfl) (fun _ => rfl) (Nat.le_of_ble_eq_true rfl) rfl ?_
  refine z_eq rfl rfl ((rput_sf (f' := qup f 0 0) rfl).trans (rput_cg (qup_self h0) rfl)) ?_
  refine z_iload_n d_X12_act_5 rfl rfl ?_
  refine z_iconst d_X12_act_6 (by decide) ?_
  refine z_iconst d_X12_act_7 (by decide) ?_
  refine z_cs (M1 := M_X12_in) d_X12_act_8 ls_X12_137 k_X12_in [qI 3, qI 0, qI 3] rfl rfl (Nat.le_of_ble_eq_true rfl) (by decide) (by decide) (Nat.le_of_ble_eq_true rfl) (c_in 3 0 3) ?_
  refine z_ifeqB 59 d_X12_act_11 (by decide) (fun hc1 => absurd hc1 (by omega)) (fun hc1 => ?_)
  refine z_iload_n d_X12_act_14 rfl rfl ?_
  refine z_iconst d_X12_act_15 (by decide) ?_
  refine z_aload_n d_X12_act_16 rfl rfl ?_
  refine z_getf (v := qR (m + 11)) d_X12_act_17 fl_X12_44 rput_o rfl ?_
  refine z_sipush d_X12_act_20 (by decide) ?_
  refine z_ild 160 d_X12_act_23 (rput_a2 11 (t := 0) (n := 167) (F := (g 11)) rfl rfl rfl (by decide) (by decide)) rfl (by omega) ?_
  refine z_eq rfl (qc (qi hN) rfl) rfl ?_
  refine z_iconst d_X12_act_24 (by decide) ?_
  refine z_isub d_X12_act_25 (by omega) ?_
  refine z_cs (M1 := M_X12_in) d_X12_act_26 ls_X12_137 k_X12_in [qI (who : Int), qI 0, qI ((n : Int) - 1)] rfl rfl (Nat.le_of_ble_eq_true rfl) (by decide) (by decide) (Nat.le_of_ble_eq_true rfl) (c_in (who : Int) 0 ((n : Int) - 1)) ?_
  refine z_ifeqB 59 d_X12_act_29 (by decide) (fun hc2 => absurd hc2 (by omega)) (fun hc2 => ?_)
  refine z_iload_n d_X12_act_32 rfl rfl ?_
  refine z_iconst d_X12_act_33 (by decide) ?_
  refine z_iload_n d_X12_act_34 rfl rfl ?_
  refine z_if_ne 43 d_X12_act_35 (by decide) (fun hc3 => ?_) (fun hc3 => absurd (by decide) hc3)
  refine z_iload_n d_X12_act_43 rfl rfl ?_
  refine z_iconst d_X12_act_44 (by decide) ?_
  refine z_icmp_ne 52 d_X12_act_45 (by decide) (fun hc4 => absurd hc4 (by decide)) (fun hc4 => ?_)
  refine z_iconst d_X12_act_48 (by decide) ?_
  refine z_goto 53 d_X12_act_49 (by decide) ?_
  refine z_cs (M1 := M_X12_in) d_X12_act_53 ls_X12_137 k_X12_in [qI v, qI 0, qI 3] rfl rfl (Nat.le_of_ble_eq_true rfl) (by decide) (by decide) (Nat.le_of_ble_eq_true rfl) (c_in v 0 3) ?_
  refine z_ifneB 61 d_X12_act_56 (by decide) (fun hc5 => ?_) (fun hc5 => absurd hc5 (by omega))
  refine z_aload_n d_X12_act_61 rfl rfl ?_
  refine z_cv0 (M1 := M_X12_keepsBack) d_X12_act_62 lv_X12_286 k_X12_keepsBack [] rfl rfl rput_o ⟨_, _, rfl⟩ (Nat.le_of_ble_eq_true rfl) (by decide) (by decide) (Nat.le_of_ble_eq_true rfl) (c_kb hm hb) ?_
  refine z_aload_n d_X12_act_65 rfl rfl ?_
  refine z_iload_n d_X12_act_66 rfl rfl ?_
  refine z_if_ne 74 d_X12_act_67 (by decide) (fun hc6 => ?_) (fun hc6 => absurd (by decide) hc6)
  refine z_iload_n d_X12_act_74 rfl rfl ?_
  refine z_iconst d_X12_act_75 (by decide) ?_
  refine z_icmp_ne 85 d_X12_act_76 (by decide) (fun hc7 => ?_) (fun hc7 => absurd (by decide) hc7)
  refine z_iload_n d_X12_act_85 rfl rfl ?_
  refine z_iconst d_X12_act_86 (by decide) ?_
  refine z_icmp_ne 96 d_X12_act_87 (by decide) (fun hc8 => ?_) (fun hc8 => absurd (by decide) hc8)
  refine z_iconst d_X12_act_96 (by decide) ?_
  refine z_iload_n d_X12_act_97 rfl rfl ?_
  refine z_iload_n d_X12_act_98 rfl rfl ?_
  refine z_cv0 (M1 := M_X12_becomes) d_X12_act_99 lv_X12_289 k_X12_becomes [qI 5, qI (who : Int), qI v] rfl rfl rput_o ⟨_, _, rfl⟩ (Nat.le_of_ble_eq_true rfl) (by decide) (by decide) (Nat.le_of_ble_eq_true rfl) (c_becomes5 (L := L) who v hm (by omega) ((congrFun (kbG_ne (by decide)) 166).trans hL) hL2) ?_
  refine z_iconst d_X12_act_102 (by decide) ?_
  exact z_zret d_X12_act_103 rfl (by first | exact qb_01 _ | decide | omega) er eh
set_option maxRecDepth 20000 in
set_option maxHeartbeats 4000000 in
theorem c_of_no {h : qH} {m : Nat} {f : Nat → Int} {g : Nat → Nat → Int} {n : Nat} (k what : Int) (hm : 2 ≤ m) (h0 : f 0 = 0) (hN : g 11 160 = (n : Int)) (hn : n ≤ 32) (hno : ¬ ((0 ≤ k ∧ k < n) ∧ 0 ≤ what ∧ what ≤ 6)) : qEx M_X12_of 0 [qR m, qI k, qI what] [] (rput h m f g) (some (qI (-1))) (rput h m f g) := by
  refine q_gen (fun r hr er eh => ?_)
  refine z_aload_n d_X12_of_0 rfl rfl ?_
  refine z_iconst d_X12_of_1 (by decide) ?_
  refine z_putf (fs' := [qI 0, qI (f 1), qI (f 2), qI (f 3), qI (f 4), qI (f 5), qI (f 6), qI (f 7), qR (m + 1), qR (m + 2), qR (m + 3), qR (m + 4), qR (m + 5), qR (m + 6), qR (m + 7), qR (m + 8), qR (m + 9), qR (m + 10), qI (f 18), qI (f 19), qI (f 20), qR (m + 11), qR (m + 12), qR (m + 13), qR (m + 14), qI (f 25), qR (m + 15), qI (f 27), qR (m + 16), qR (m + 17), qR (m + 18), qR (m + 19), qR (m + 20), qR (m + 21), qR (m + 22), qR (m + 23), qR (m + 24), qI (f 37), qI (f 38), qI (f 39), qI (f 40), qR (m + 25), qR (m + 26), qR (m + 27), qR (m + 28), qR (m + 29), qR (m + 30), qR (m + 31), qI (f 48), qR (m + 32), qR (m + 33), qR (m + 34), qR (m + 35), qR (m + 36), qR (m + 37)]) d_X12_of_2 fp_X12_127 rput_o (fun _ => rfl) (fun _ => rfl) (Nat.le_of_ble_eq_true rfl) rfl ?_
  refine z_eq rfl rfl ((rput_sf (f' := qup f 0 0) rfl).trans (rput_cg (qup_self h0) rfl)) ?_
  refine z_iload_n d_X12_of_5 rfl rfl ?_
  refine z_iconst d_X12_of_6 (by decide) ?_
  refine z_aload_n d_X12_of_7 rfl rfl ?_
  refine z_getf (v := qR (m + 11)) d_X12_of_8 fl_X12_44 rput_o rfl ?_
  refine z_sipush d_X12_of_11 (by decide) ?_
  refine z_ild 160 d_X12_of_14 (rput_a2 11 (t := 0) (n := 167) (F := (g 11)) rfl rfl rfl (by decide) (by decide)) rfl (by omega) ?_
  refine z_eq rfl (qc (qi hN) rfl) rfl ?_
  refine z_iconst d_X12_of_15 (by decide) ?_
  refine z_isub d_X12_of_16 (by omega) ?_
  refine z_cs (M1 := M_X12_in) d_X12_of_17 ls_X12_137 k_X12_in [qI k, qI 0, qI ((n : Int) - 1)] rfl rfl (Nat.le_of_ble_eq_true rfl) (by decide) (by decide) (Nat.le_of_ble_eq_true rfl) (c_in k 0 ((n : Int) - 1)) ?_
  refine z_ifeqB 33 d_X12_of_20 (by decide) (fun hc1 => ?_) (fun hc1 => ?_)
  · refine z_iconst d_X12_of_33 (by decide) ?_
    exact z_iret d_X12_of_34 rfl er eh
  · refine z_iload_n d_X12_of_23 rfl rfl ?_
    refine z_iconst d_X12_of_24 (by decide) ?_
    refine z_bipush d_X12_of_25 (by decide) ?_
    refine z_cs (M1 := M_X12_in) d_X12_of_27 ls_X12_137 k_X12_in [qI what, qI 0, qI 6] rfl rfl (Nat.le_of_ble_eq_true rfl) (by decide) (by decide) (Nat.le_of_ble_eq_true rfl) (c_in what 0 6) ?_
    refine z_ifneB 35 d_X12_of_30 (by decide) (fun hc2 => ?_) (fun hc2 => ?_)
    · exact absurd (by omega) hno
    · refine z_iconst d_X12_of_33 (by decide) ?_
      exact z_iret d_X12_of_34 rfl er eh
set_option maxRecDepth 20000 in
set_option maxHeartbeats 4000000 in
theorem c_of0 {h : qH} {m : Nat} {f : Nat → Int} {g : Nat → Nat → Int} {n : Nat} (k : Nat) (hm : 2 ≤ m) (h0 : f 0 = 0) (hN : g 11 160 = (n : Int)) (hn : n ≤ 32) (hk : k < n) : qEx M_X12_of 0 [qR m, qI (k : Int), qI 0] [] (rput h m f g) (some (qI (g 11 k))) (rput h m f g) := by
  refine q_gen (fun r hr er eh => ?_)
  refine z_aload_n d_X12_of_0 rfl rfl ?_
  refine z_iconst d_X12_of_1 (by decide) ?_
  refine z_putf (fs' := [qI 0, qI (f 1), qI (f 2), qI (f 3), qI (f 4), qI (f 5), qI (f 6), qI (f 7), qR (m + 1), qR (m + 2), qR (m + 3), qR (m + 4), qR (m + 5), qR (m + 6), qR (m + 7), qR (m + 8), qR (m + 9), qR (m + 10), qI (f 18), qI (f 19), qI (f 20), qR (m + 11), qR (m + 12), qR (m + 13), qR (m + 14), qI (f 25), qR (m + 15), qI (f 27), qR (m + 16), qR (m + 17), qR (m + 18), qR (m + 19), qR (m + 20), qR (m + 21), qR (m + 22), qR (m + 23), qR (m + 24), qI (f 37), qI (f 38), qI (f 39), qI (f 40), qR (m + 25), qR (m + 26), qR (m + 27), qR (m + 28), qR (m + 29), qR (m + 30), qR (m + 31), qI (f 48), qR (m + 32), qR (m + 33), qR (m + 34), qR (m + 35), qR (m + 36), qR (m + 37)]) d_X12_of_2 fp_X12_127 rput_o (fun _ => rfl) (fun _ => rfl) (Nat.le_of_ble_eq_true rfl) rfl ?_
  refine z_eq rfl rfl ((rput_sf (f' := qup f 0 0) rfl).trans (rput_cg (qup_self h0) rfl)) ?_
  refine z_iload_n d_X12_of_5 rfl rfl ?_
  refine z_iconst d_X12_of_6 (by decide) ?_
  refine z_aload_n d_X12_of_7 rfl rfl ?_
  refine z_getf (v := qR (m + 11)) d_X12_of_8 fl_X12_44 rput_o rfl ?_
  refine z_sipush d_X12_of_11 (by decide) ?_
  refine z_ild 160 d_X12_of_14 (rput_a2 11 (t := 0) (n := 167) (F := (g 11)) rfl rfl rfl (by decide) (by decide)) rfl (by omega) ?_
  refine z_eq rfl (qc (qi hN) rfl) rfl ?_
  refine z_iconst d_X12_of_15 (by decide) ?_
  refine z_isub d_X12_of_16 (by omega) ?_
  refine z_cs (M1 := M_X12_in) d_X12_of_17 ls_X12_137 k_X12_in [qI (k : Int), qI 0, qI ((n : Int) - 1)] rfl rfl (Nat.le_of_ble_eq_true rfl) (by decide) (by decide) (Nat.le_of_ble_eq_true rfl) (c_in (k : Int) 0 ((n : Int) - 1)) ?_
  refine z_ifeqB 33 d_X12_of_20 (by decide) (fun hc1 => absurd hc1 (by omega)) (fun hc1 => ?_)
  refine z_iload_n d_X12_of_23 rfl rfl ?_
  refine z_iconst d_X12_of_24 (by decide) ?_
  refine z_bipush d_X12_of_25 (by decide) ?_
  refine z_cs (M1 := M_X12_in) d_X12_of_27 ls_X12_137 k_X12_in [qI 0, qI 0, qI 6] rfl rfl (Nat.le_of_ble_eq_true rfl) (by decide) (by decide) (Nat.le_of_ble_eq_true rfl) (c_in 0 0 6) ?_
  refine z_ifneB 35 d_X12_of_30 (by decide) (fun hc2 => ?_) (fun hc2 => absurd hc2 (by omega))
  refine z_iload_n d_X12_of_35 rfl rfl ?_
  refine z_tableIn 72 d_X12_of_36 (by decide) (by decide) (off := 36) rfl (by decide) ?_
  refine z_aload_n d_X12_of_72 rfl rfl ?_
  refine z_getf (v := qR (m + 11)) d_X12_of_73 fl_X12_44 rput_o rfl ?_
  refine z_iconst d_X12_of_76 (by decide) ?_
  refine z_iload_n d_X12_of_77 rfl rfl ?_
  refine z_iadd d_X12_of_78 (by omega) ?_
  refine z_ild k d_X12_of_79 (rput_a2 11 (t := 0) (n := 167) (F := (g 11)) rfl rfl rfl (by decide) (by decide)) (by omega) (by omega) ?_
  exact z_iret d_X12_of_80 rfl er eh
set_option maxRecDepth 20000 in
set_option maxHeartbeats 4000000 in
theorem c_of1 {h : qH} {m : Nat} {f : Nat → Int} {g : Nat → Nat → Int} {n : Nat} (k : Nat) (hm : 2 ≤ m) (h0 : f 0 = 0) (hN : g 11 160 = (n : Int)) (hn : n ≤ 32) (hk : k < n) : qEx M_X12_of 0 [qR m, qI (k : Int), qI 1] [] (rput h m f g) (some (qI (g 11 (32 + k)))) (rput h m f g) := by
  refine q_gen (fun r hr er eh => ?_)
  refine z_aload_n d_X12_of_0 rfl rfl ?_
  refine z_iconst d_X12_of_1 (by decide) ?_
  refine z_putf (fs' := [qI 0, qI (f 1), qI (f 2), qI (f 3), qI (f 4), qI (f 5), qI (f 6), qI (f 7), qR (m + 1), qR (m + 2), qR (m + 3), qR (m + 4), qR (m + 5), qR (m + 6), qR (m + 7), qR (m + 8), qR (m + 9), qR (m + 10), qI (f 18), qI (f 19), qI (f 20), qR (m + 11), qR (m + 12), qR (m + 13), qR (m + 14), qI (f 25), qR (m + 15), qI (f 27), qR (m + 16), qR (m + 17), qR (m + 18), qR (m + 19), qR (m + 20), qR (m + 21), qR (m + 22), qR (m + 23), qR (m + 24), qI (f 37), qI (f 38), qI (f 39), qI (f 40), qR (m + 25), qR (m + 26), qR (m + 27), qR (m + 28), qR (m + 29), qR (m + 30), qR (m + 31), qI (f 48), qR (m + 32), qR (m + 33), qR (m + 34), qR (m + 35), qR (m + 36), qR (m + 37)]) d_X12_of_2 fp_X12_127 rput_o (fun _ => rfl) (fun _ => rfl) (Nat.le_of_ble_eq_true rfl) rfl ?_
  refine z_eq rfl rfl ((rput_sf (f' := qup f 0 0) rfl).trans (rput_cg (qup_self h0) rfl)) ?_
  refine z_iload_n d_X12_of_5 rfl rfl ?_
  refine z_iconst d_X12_of_6 (by decide) ?_
  refine z_aload_n d_X12_of_7 rfl rfl ?_
  refine z_getf (v := qR (m + 11)) d_X12_of_8 fl_X12_44 rput_o rfl ?_
  refine z_sipush d_X12_of_11 (by decide) ?_
  refine z_ild 160 d_X12_of_14 (rput_a2 11 (t := 0) (n := 167) (F := (g 11)) rfl rfl rfl (by decide) (by decide)) rfl (by omega) ?_
  refine z_eq rfl (qc (qi hN) rfl) rfl ?_
  refine z_iconst d_X12_of_15 (by decide) ?_
  refine z_isub d_X12_of_16 (by omega) ?_
  refine z_cs (M1 := M_X12_in) d_X12_of_17 ls_X12_137 k_X12_in [qI (k : Int), qI 0, qI ((n : Int) - 1)] rfl rfl (Nat.le_of_ble_eq_true rfl) (by decide) (by decide) (Nat.le_of_ble_eq_true rfl) (c_in (k : Int) 0 ((n : Int) - 1)) ?_
  refine z_ifeqB 33 d_X12_of_20 (by decide) (fun hc1 => absurd hc1 (by omega)) (fun hc1 => ?_)
  refine z_iload_n d_X12_of_23 rfl rfl ?_
  refine z_iconst d_X12_of_24 (by decide) ?_
  refine z_bipush d_X12_of_25 (by decide) ?_
  refine z_cs (M1 := M_X12_in) d_X12_of_27 ls_X12_137 k_X12_in [qI 1, qI 0, qI 6] rfl rfl (Nat.le_of_ble_eq_true rfl) (by decide) (by decide) (Nat.le_of_ble_eq_true rfl) (c_in 1 0 6) ?_
  refine z_ifneB 35 d_X12_of_30 (by decide) (fun hc2 => ?_) (fun hc2 => absurd hc2 (by omega))
  refine z_iload_n d_X12_of_35 rfl rfl ?_
  refine z_tableIn 81 d_X12_of_36 (by decide) (by decide) (off := 45) rfl (by decide) ?_
  refine z_aload_n d_X12_of_81 rfl rfl ?_
  refine z_getf (v := qR (m + 11)) d_X12_of_82 fl_X12_44 rput_o rfl ?_
  refine z_bipush d_X12_of_85 (by decide) ?_
  refine z_iload_n d_X12_of_87 rfl rfl ?_
  refine z_iadd d_X12_of_88 (by omega) ?_
  refine z_ild (32 + k) d_X12_of_89 (rput_a2 11 (t := 0) (n := 167) (F := (g 11)) rfl rfl rfl (by decide) (by decide)) rfl (by omega) ?_
  exact z_iret d_X12_of_90 rfl er eh
set_option maxRecDepth 20000 in
set_option maxHeartbeats 4000000 in
theorem c_of2 {h : qH} {m : Nat} {f : Nat → Int} {g : Nat → Nat → Int} {n : Nat} (k : Nat) (hm : 2 ≤ m) (h0 : f 0 = 0) (hN : g 11 160 = (n : Int)) (hn : n ≤ 32) (hk : k < n) : qEx M_X12_of 0 [qR m, qI (k : Int), qI 2] [] (rput h m f g) (some (qI (g 11 (64 + k)))) (rput h m f g) := by
  refine q_gen (fun r hr er eh => ?_)
  refine z_aload_n d_X12_of_0 rfl rfl ?_
  refine z_iconst d_X12_of_1 (by decide) ?_
  refine z_putf (fs' := [qI 0, qI (f 1), qI (f 2), qI (f 3), qI (f 4), qI (f 5), qI (f 6), qI (f 7), qR (m + 1), qR (m + 2), qR (m + 3), qR (m + 4), qR (m + 5), qR (m + 6), qR (m + 7), qR (m + 8), qR (m + 9), qR (m + 10), qI (f 18), qI (f 19), qI (f 20), qR (m + 11), qR (m + 12), qR (m + 13), qR (m + 14), qI (f 25), qR (m + 15), qI (f 27), qR (m + 16), qR (m + 17), qR (m + 18), qR (m + 19), qR (m + 20), qR (m + 21), qR (m + 22), qR (m + 23), qR (m + 24), qI (f 37), qI (f 38), qI (f 39), qI (f 40), qR (m + 25), qR (m + 26), qR (m + 27), qR (m + 28), qR (m + 29), qR (m + 30), qR (m + 31), qI (f 48), qR (m + 32), qR (m + 33), qR (m + 34), qR (m + 35), qR (m + 36), qR (m + 37)]) d_X12_of_2 fp_X12_127 rput_o (fun _ => rfl) (fun _ => rfl) (Nat.le_of_ble_eq_true rfl) rfl ?_
  refine z_eq rfl rfl ((rput_sf (f' := qup f 0 0) rfl).trans (rput_cg (qup_self h0) rfl)) ?_
  refine z_iload_n d_X12_of_5 rfl rfl ?_
  refine z_iconst d_X12_of_6 (by decide) ?_
  refine z_aload_n d_X12_of_7 rfl rfl ?_
  refine z_getf (v := qR (m + 11)) d_X12_of_8 fl_X12_44 rput_o rfl ?_
  refine z_sipush d_X12_of_11 (by decide) ?_
  refine z_ild 160 d_X12_of_14 (rput_a2 11 (t := 0) (n := 167) (F := (g 11)) rfl rfl rfl (by decide) (by decide)) rfl (by omega) ?_
  refine z_eq rfl (qc (qi hN) rfl) rfl ?_
  refine z_iconst d_X12_of_15 (by decide) ?_
  refine z_isub d_X12_of_16 (by omega) ?_
  refine z_cs (M1 := M_X12_in) d_X12_of_17 ls_X12_137 k_X12_in [qI (k : Int), qI 0, qI ((n : Int) - 1)] rfl rfl (Nat.le_of_ble_eq_true rfl) (by decide) (by decide) (Nat.le_of_ble_eq_true rfl) (c_in (k : Int) 0 ((n : Int) - 1)) ?_
  refine z_ifeqB 33 d_X12_of_20 (by decide) (fun hc1 => absurd hc1 (by omega)) (fun hc1 => ?_)
  refine z_iload_n d_X12_of_23 rfl rfl ?_
  refine z_iconst d_X12_of_24 (by decide) ?_
  refine z_bipush d_X12_of_25 (by decide) ?_
  refine z_cs (M1 := M_X12_in) d_X12_of_27 ls_X12_137 k_X12_in [qI 2, qI 0, qI 6] rfl rfl (Nat.le_of_ble_eq_true rfl) (by decide) (by decide) (Nat.le_of_ble_eq_true rfl) (c_in 2 0 6) ?_
  refine z_ifneB 35 d_X12_of_30 (by decide) (fun hc2 => ?_) (fun hc2 => absurd hc2 (by omega))
  refine z_iload_n d_X12_of_35 rfl rfl ?_
  refine z_tableIn 91 d_X12_of_36 (by decide) (by decide) (off := 55) rfl (by decide) ?_
  refine z_aload_n d_X12_of_91 rfl rfl ?_
  refine z_getf (v := qR (m + 11)) d_X12_of_92 fl_X12_44 rput_o rfl ?_
  refine z_bipush d_X12_of_95 (by decide) ?_
  refine z_iload_n d_X12_of_97 rfl rfl ?_
  refine z_iadd d_X12_of_98 (by omega) ?_
  refine z_ild (64 + k) d_X12_of_99 (rput_a2 11 (t := 0) (n := 167) (F := (g 11)) rfl rfl rfl (by decide) (by decide)) rfl (by omega) ?_
  exact z_iret d_X12_of_100 rfl er eh
set_option maxRecDepth 20000 in
set_option maxHeartbeats 4000000 in
theorem c_of3 {h : qH} {m : Nat} {f : Nat → Int} {g : Nat → Nat → Int} {n : Nat} (k : Nat) (hm : 2 ≤ m) (h0 : f 0 = 0) (hN : g 11 160 = (n : Int)) (hn : n ≤ 32) (hk : k < n) : qEx M_X12_of 0 [qR m, qI (k : Int), qI 3] [] (rput h m f g) (some (qI (g 11 (96 + k)))) (rput h m f g) := by
  refine q_gen (fun r hr er eh => ?_)
  refine z_aload_n d_X12_of_0 rfl rfl ?_
  refine z_iconst d_X12_of_1 (by decide) ?_
  refine z_putf (fs' := [qI 0, qI (f 1), qI (f 2), qI (f 3), qI (f 4), qI (f 5), qI (f 6), qI (f 7), qR (m + 1), qR (m + 2), qR (m + 3), qR (m + 4), qR (m + 5), qR (m + 6), qR (m + 7), qR (m + 8), qR (m + 9), qR (m + 10), qI (f 18), qI (f 19), qI (f 20), qR (m + 11), qR (m + 12), qR (m + 13), qR (m + 14), qI (f 25), qR (m + 15), qI (f 27), qR (m + 16), qR (m + 17), qR (m + 18), qR (m + 19), qR (m + 20), qR (m + 21), qR (m + 22), qR (m + 23), qR (m + 24), qI (f 37), qI (f 38), qI (f 39), qI (f 40), qR (m + 25), qR (m + 26), qR (m + 27), qR (m + 28), qR (m + 29), qR (m + 30), qR (m + 31), qI (f 48), qR (m + 32), qR (m + 33), qR (m + 34), qR (m + 35), qR (m + 36), qR (m + 37)]) d_X12_of_2 fp_X12_127 rput_o (fun _ => rfl) (fun _ => rfl) (Nat.le_of_ble_eq_true rfl) rfl ?_
  refine z_eq rfl rfl ((rput_sf (f' := qup f 0 0) rfl).trans (rput_cg (qup_self h0) rfl)) ?_
  refine z_iload_n d_X12_of_5 rfl rfl ?_
  refine z_iconst d_X12_of_6 (by decide) ?_
  refine z_aload_n d_X12_of_7 rfl rfl ?_
  refine z_getf (v := qR (m + 11)) d_X12_of_8 fl_X12_44 rput_o rfl ?_
  refine z_sipush d_X12_of_11 (by decide) ?_
  refine z_ild 160 d_X12_of_14 (rput_a2 11 (t := 0) (n := 167) (F := (g 11)) rfl rfl rfl (by decide) (by decide)) rfl (by omega) ?_
  refine z_eq rfl (qc (qi hN) rfl) rfl ?_
  refine z_iconst d_X12_of_15 (by decide) ?_
  refine z_isub d_X12_of_16 (by omega) ?_
  refine z_cs (M1 := M_X12_in) d_X12_of_17 ls_X12_137 k_X12_in [qI (k : Int), qI 0, qI ((n : Int) - 1)] rfl rfl (Nat.le_of_ble_eq_true rfl) (by decide) (by decide) (Nat.le_of_ble_eq_true rfl) (c_in (k : Int) 0 ((n : Int) - 1)) ?_
  refine z_ifeqB 33 d_X12_of_20 (by decide) (fun hc1 => absurd hc1 (by omega)) (fun hc1 => ?_)
  refine z_iload_n d_X12_of_23 rfl rfl ?_
  refine z_iconst d_X12_of_24 (by decide) ?_
  refine z_bipush d_X12_of_25 (by decide) ?_
  refine z_cs (M1 := M_X12_in) d_X12_of_27 ls_X12_137 k_X12_in [qI 3, qI 0, qI 6] rfl rfl (Nat.le_of_ble_eq_true rfl) (by decide) (by decide) (Nat.le_of_ble_eq_true rfl) (c_in 3 0 6) ?_
  refine z_ifneB 35 d_X12_of_30 (by decide) (fun hc2 => ?_) (fun hc2 => absurd hc2 (by omega))
  refine z_iload_n d_X12_of_35 rfl rfl ?_
  refine z_tableIn 101 d_X12_of_36 (by decide) (by decide) (off := 65) rfl (by decide) ?_
  refine z_aload_n d_X12_of_101 rfl rfl ?_
  refine z_getf (v := qR (m + 11)) d_X12_of_102 fl_X12_44 rput_o rfl ?_
  refine z_bipush d_X12_of_105 (by decide) ?_
  refine z_iload_n d_X12_of_107 rfl rfl ?_
  refine z_iadd d_X12_of_108 (by omega) ?_
  refine z_ild (96 + k) d_X12_of_109 (rput_a2 11 (t := 0) (n := 167) (F := (g 11)) rfl rfl rfl (by decide) (by decide)) rfl (by omega) ?_
  exact z_iret d_X12_of_110 rfl er eh
set_option maxRecDepth 20000 in
set_option maxHeartbeats 4000000 in
theorem c_of4 {h : qH} {m : Nat} {f : Nat → Int} {g : Nat → Nat → Int} {n : Nat} (k : Nat) (hm : 2 ≤ m) (h0 : f 0 = 0) (hN : g 11 160 = (n : Int)) (hn : n ≤ 32) (hk : k < n) : qEx M_X12_of 0 [qR m, qI (k : Int), qI 4] [] (rput h m f g) (some (qI (g 11 (128 + k)))) (rput h m f g) := by
  refine q_gen (fun r hr er eh => ?_)
  refine z_aload_n d_X12_of_0 rfl rfl ?_
  refine z_iconst d_X12_of_1 (by decide) ?_
  refine z_putf (fs' := [qI 0, qI (f 1), qI (f 2), qI (f 3), qI (f 4), qI (f 5), qI (f 6), qI (f 7), qR (m + 1), qR (m + 2), qR (m + 3), qR (m + 4), qR (m + 5), qR (m + 6), qR (m + 7), qR (m + 8), qR (m + 9), qR (m + 10), qI (f 18), qI (f 19), qI (f 20), qR (m + 11), qR (m + 12), qR (m + 13), qR (m + 14), qI (f 25), qR (m + 15), qI (f 27), qR (m + 16), qR (m + 17), qR (m + 18), qR (m + 19), qR (m + 20), qR (m + 21), qR (m + 22), qR (m + 23), qR (m + 24), qI (f 37), qI (f 38), qI (f 39), qI (f 40), qR (m + 25), qR (m + 26), qR (m + 27), qR (m + 28), qR (m + 29), qR (m + 30), qR (m + 31), qI (f 48), qR (m + 32), qR (m + 33), qR (m + 34), qR (m + 35), qR (m + 36), qR (m + 37)]) d_X12_of_2 fp_X12_127 rput_o (fun _ => rfl) (fun _ => rfl) (Nat.le_of_ble_eq_true rfl) rfl ?_
  refine z_eq rfl rfl ((rput_sf (f' := qup f 0 0) rfl).trans (rput_cg (qup_self h0) rfl)) ?_
  refine z_iload_n d_X12_of_5 rfl rfl ?_
  refine z_iconst d_X12_of_6 (by decide) ?_
  refine z_aload_n d_X12_of_7 rfl rfl ?_
  refine z_getf (v := qR (m + 11)) d_X12_of_8 fl_X12_44 rput_o rfl ?_
  refine z_sipush d_X12_of_11 (by decide) ?_
  refine z_ild 160 d_X12_of_14 (rput_a2 11 (t := 0) (n := 167) (F := (g 11)) rfl rfl rfl (by decide) (by decide)) rfl (by omega) ?_
  refine z_eq rfl (qc (qi hN) rfl) rfl ?_
  refine z_iconst d_X12_of_15 (by decide) ?_
  refine z_isub d_X12_of_16 (by omega) ?_
  refine z_cs (M1 := M_X12_in) d_X12_of_17 ls_X12_137 k_X12_in [qI (k : Int), qI 0, qI ((n : Int) - 1)] rfl rfl (Nat.le_of_ble_eq_true rfl) (by decide) (by decide) (Nat.le_of_ble_eq_true rfl) (c_in (k : Int) 0 ((n : Int) - 1)) ?_
  refine z_ifeqB 33 d_X12_of_20 (by decide) (fun hc1 => absurd hc1 (by omega)) (fun hc1 => ?_)
  refine z_iload_n d_X12_of_23 rfl rfl ?_
  refine z_iconst d_X12_of_24 (by decide) ?_
  refine z_bipush d_X12_of_25 (by decide) ?_
  refine z_cs (M1 := M_X12_in) d_X12_of_27 ls_X12_137 k_X12_in [qI 4, qI 0, qI 6] rfl rfl (Nat.le_of_ble_eq_true rfl) (by decide) (by decide) (Nat.le_of_ble_eq_true rfl) (c_in 4 0 6) ?_
  refine z_ifneB 35 d_X12_of_30 (by decide) (fun hc2 => ?_) (fun hc2 => absurd hc2 (by omega))
  refine z_iload_n d_X12_of_35 rfl rfl ?_
  refine z_tableIn 111 d_X12_of_36 (by decide) (by decide) (off := 75) rfl (by decide) ?_
  refine z_aload_n d_X12_of_111 rfl rfl ?_
  refine z_getf (v := qR (m + 11)) d_X12_of_112 fl_X12_44 rput_o rfl ?_
  refine z_sipush d_X12_of_115 (by decide) ?_
  refine z_iload_n d_X12_of_118 rfl rfl ?_
  refine z_iadd d_X12_of_119 (by omega) ?_
  refine z_ild (128 + k) d_X12_of_120 (rput_a2 11 (t := 0) (n := 167) (F := (g 11)) rfl rfl rfl (by decide) (by decide)) rfl (by omega) ?_
  exact z_iret d_X12_of_121 rfl er eh
set_option maxRecDepth 20000 in
set_option maxHeartbeats 4000000 in
theorem c_look0 {h : qH} {m : Nat} {f : Nat → Int} {g : Nat → Nat → Int} {n : Nat} (hm : 2 ≤ m) (h0 : f 0 = 0) (hN : g 11 160 = (n : Int)) (hn : n ≤ 32) (hR : ∀ k, k < 4 → 0 ≤ g 5 k ∧ g 5 k ≤ 24) (hO : ∀ k, k < 4 → 0 ≤ g 6 k ∧ g 6 k ≤ 24) : qEx M_X12_look 0 [qR m, qI 0] [] (rput h m f g) (some (qI (n : Int))) (rput h m f g) := by
  refine q_gen (fun r hr er eh => ?_)
  refine z_aload_n d_X12_look_0 rfl rfl ?_
  refine z_iconst d_X12_look_1 (by decide) ?_
  refine z_putf (fs' := [qI 0, qI (f 1), qI (f 2), qI (f 3), qI (f 4), qI (f 5), qI (f 6), qI (f 7), qR (m + 1), qR (m + 2), qR (m + 3), qR (m + 4), qR (m + 5), qR (m + 6), qR (m + 7), qR (m + 8), qR (m + 9), qR (m + 10), qI (f 18), qI (f 19), qI (f 20), qR (m + 11), qR (m + 12), qR (m + 13), qR (m + 14), qI (f 25), qR (m + 15), qI (f 27), qR (m + 16), qR (m + 17), qR (m + 18), qR (m + 19), qR (m + 20), qR (m + 21), qR (m + 22), qR (m + 23), qR (m + 24), qI (f 37), qI (f 38), qI (f 39), qI (f 40), qR (m + 25), qR (m + 26), qR (m + 27), qR (m + 28), qR (m + 29), qR (m + 30), qR (m + 31), qI (f 48), qR (m + 32), qR (m + 33), qR (m + 34), qR (m + 35), qR (m + 36), qR (m + 37)]) d_X12_look_2 fp_X12_127 rput_o (fun _ => rfl) (fun _ => rfl) (Nat.le_of_ble_eq_true rfl) rfl ?_
  refine z_eq rfl rfl ((rput_sf (f' := qup f 0 0) rfl).trans (rput_cg (qup_self h0) rfl)) ?_
  refine z_iload_n d_X12_look_5 rfl rfl ?_
  refine z_tableIn 84 d_X12_look_6 (by decide) (by decide) (off := 78) rfl (by decide) ?_
  refine z_aload_n d_X12_look_84 rfl rfl ?_
  refine z_getf (v := qR (m + 11)) d_X12_look_85 fl_X12_44 rput_o rfl ?_
  refine z_sipush d_X12_look_88 (by decide) ?_
  refine z_ild 160 d_X12_look_91 (rput_a2 11 (t := 0) (n := 167) (F := (g 11)) rfl rfl rfl (by decide) (by decide)) rfl (by omega) ?_
  refine z_eq rfl (qc (qi hN) rfl) rfl ?_
  exact z_iret d_X12_look_92 rfl er eh
set_option maxRecDepth 20000 in
set_option maxHeartbeats 4000000 in
theorem c_look1 {h : qH} {m : Nat} {f : Nat → Int} {g : Nat → Nat → Int} {n : Nat} (hm : 2 ≤ m) (h0 : f 0 = 0) (hN : g 11 160 = (n : Int)) (hn : n ≤ 32) (hR : ∀ k, k < 4 → 0 ≤ g 5 k ∧ g 5 k ≤ 24) (hO : ∀ k, k < 4 → 0 ≤ g 6 k ∧ g 6 k ≤ 24) : qEx M_X12_look 0 [qR m, qI 1] [] (rput h m f g) (some (qI (g 11 161))) (rput h m f g) := by
  refine q_gen (fun r hr er eh => ?_)
  refine z_aload_n d_X12_look_0 rfl rfl ?_
  refine z_iconst d_X12_look_1 (by decide) ?_
  refine z_putf (fs' := [qI 0, qI (f 1), qI (f 2), qI (f 3), qI (f 4), qI (f 5), qI (f 6), qI (f 7), qR (m + 1), qR (m + 2), qR (m + 3), qR (m + 4), qR (m + 5), qR (m + 6), qR (m + 7), qR (m + 8), qR (m + 9), qR (m + 10), qI (f 18), qI (f 19), qI (f 20), qR (m + 11), qR (m + 12), qR (m + 13), qR (m + 14), qI (f 25), qR (m + 15), qI (f 27), qR (m + 16), qR (m + 17), qR (m + 18), qR (m + 19), qR (m + 20), qR (m + 21), qR (m + 22), qR (m + 23), qR (m + 24), qI (f 37), qI (f 38), qI (f 39), qI (f 40), qR (m + 25), qR (m + 26), qR (m + 27), qR (m + 28), qR (m + 29), qR (m + 30), qR (m + 31), qI (f 48), qR (m + 32), qR (m + 33), qR (m + 34), qR (m + 35), qR (m + 36), qR (m + 37)]) d_X12_look_2 fp_X12_127 rput_o (fun _ => rfl) (fun _ => rfl) (Nat.le_of_ble_eq_true rfl) rfl ?_
  refine z_eq rfl rfl ((rput_sf (f' := qup f 0 0) rfl).trans (rput_cg (qup_self h0) rfl)) ?_
  refine z_iload_n d_X12_look_5 rfl rfl ?_
  refine z_tableIn 93 d_X12_look_6 (by decide) (by decide) (off := 87) rfl (by decide) ?_
  refine z_aload_n d_X12_look_93 rfl rfl ?_
  refine z_getf (v := qR (m + 11)) d_X12_look_94 fl_X12_44 rput_o rfl ?_
  refine z_sipush d_X12_look_97 (by decide) ?_
  refine z_ild 161 d_X12_look_100 (rput_a2 11 (t := 0) (n := 167) (F := (g 11)) rfl rfl rfl (by decide) (by decide)) rfl (by omega) ?_
  exact z_iret d_X12_look_101 rfl er eh
set_option maxRecDepth 20000 in
set_option maxHeartbeats 4000000 in
theorem c_look2 {h : qH} {m : Nat} {f : Nat → Int} {g : Nat → Nat → Int} {n : Nat} (hm : 2 ≤ m) (h0 : f 0 = 0) (hN : g 11 160 = (n : Int)) (hn : n ≤ 32) (hR : ∀ k, k < 4 → 0 ≤ g 5 k ∧ g 5 k ≤ 24) (hO : ∀ k, k < 4 → 0 ≤ g 6 k ∧ g 6 k ≤ 24) : qEx M_X12_look 0 [qR m, qI 2] [] (rput h m f g) (some (qI (g 11 162))) (rput h m f g) := by
  refine q_gen (fun r hr er eh => ?_)
  refine z_aload_n d_X12_look_0 rfl rfl ?_
  refine z_iconst d_X12_look_1 (by decide) ?_
  refine z_putf (fs' := [qI 0, qI (f 1), qI (f 2), qI (f 3), qI (f 4), qI (f 5), qI (f 6), qI (f 7), qR (m + 1), qR (m + 2), qR (m + 3), qR (m + 4), qR (m + 5), qR (m + 6), qR (m + 7), qR (m + 8), qR (m + 9), qR (m + 10), qI (f 18), qI (f 19), qI (f 20), qR (m + 11), qR (m + 12), qR (m + 13), qR (m + 14), qI (f 25), qR (m + 15), qI (f 27), qR (m + 16), qR (m + 17), qR (m + 18), qR (m + 19), qR (m + 20), qR (m + 21), qR (m + 22), qR (m + 23), qR (m + 24), qI (f 37), qI (f 38), qI (f 39), qI (f 40), qR (m + 25), qR (m + 26), qR (m + 27), qR (m + 28), qR (m + 29), qR (m + 30), qR (m + 31), qI (f 48), qR (m + 32), qR (m + 33), qR (m + 34), qR (m + 35), qR (m + 36), qR (m + 37)]) d_X12_look_2 fp_X12_127 rput_o (fun _ => rfl) (fun _ => rfl) (Nat.le_of_ble_eq_true rfl) rfl ?_
  refine z_eq rfl rfl ((rput_sf (f' := qup f 0 0) rfl).trans (rput_cg (qup_self h0) rfl)) ?_
  refine z_iload_n d_X12_look_5 rfl rfl ?_
  refine z_tableIn 102 d_X12_look_6 (by decide) (by decide) (off := 96) rfl (by decide) ?_
  refine z_aload_n d_X12_look_102 rfl rfl ?_
  refine z_getf (v := qR (m + 11)) d_X12_look_103 fl_X12_44 rput_o rfl ?_
  refine z_sipush d_X12_look_106 (by decide) ?_
  refine z_ild 162 d_X12_look_109 (rput_a2 11 (t := 0) (n := 167) (F := (g 11)) rfl rfl rfl (by decide) (by decide)) rfl (by omega) ?_
  exact z_iret d_X12_look_110 rfl er eh
set_option maxRecDepth 20000 in
set_option maxHeartbeats 4000000 in
theorem c_look3 {h : qH} {m : Nat} {f : Nat → Int} {g : Nat → Nat → Int} {n : Nat} (hm : 2 ≤ m) (h0 : f 0 = 0) (hN : g 11 160 = (n : Int)) (hn : n ≤ 32) (hR : ∀ k, k < 4 → 0 ≤ g 5 k ∧ g 5 k ≤ 24) (hO : ∀ k, k < 4 → 0 ≤ g 6 k ∧ g 6 k ≤ 24) : qEx M_X12_look 0 [qR m, qI 3] [] (rput h m f g) (some (qI (g 11 163))) (rput h m f g) := by
  refine q_gen (fun r hr er eh => ?_)
  refine z_aload_n d_X12_look_0 rfl rfl ?_
  refine z_iconst d_X12_look_1 (by decide) ?_
  refine z_putf (fs' := [qI 0, qI (f 1), qI (f 2), qI (f 3), qI (f 4), qI (f 5), qI (f 6), qI (f 7), qR (m + 1), qR (m + 2), qR (m + 3), qR (m + 4), qR (m + 5), qR (m + 6), qR (m + 7), qR (m + 8), qR (m + 9), qR (m + 10), qI (f 18), qI (f 19), qI (f 20), qR (m + 11), qR (m + 12), qR (m + 13), qR (m + 14), qI (f 25), qR (m + 15), qI (f 27), qR (m + 16), qR (m + 17), qR (m + 18), qR (m + 19), qR (m + 20), qR (m + 21), qR (m + 22), qR (m + 23), qR (m + 24), qI (f 37), qI (f 38), qI (f 39), qI (f 40), qR (m + 25), qR (m + 26), qR (m + 27), qR (m + 28), qR (m + 29), qR (m + 30), qR (m + 31), qI (f 48), qR (m + 32), qR (m + 33), qR (m + 34), qR (m + 35), qR (m + 36), qR (m + 37)]) d_X12_look_2 fp_X12_127 rput_o (fun _ => rfl) (fun _ => rfl) (Nat.le_of_ble_eq_true rfl) rfl ?_
  refine z_eq rfl rfl ((rput_sf (f' := qup f 0 0) rfl).trans (rput_cg (qup_self h0) rfl)) ?_
  refine z_iload_n d_X12_look_5 rfl rfl ?_
  refine z_tableIn 111 d_X12_look_6 (by decide) (by decide) (off := 105) rfl (by decide) ?_
  refine z_aload_n d_X12_look_111 rfl rfl ?_
  refine z_getf (v := qR (m + 11)) d_X12_look_112 fl_X12_44 rput_o rfl ?_
  refine z_sipush d_X12_look_115 (by decide) ?_
  refine z_ild 163 d_X12_look_118 (rput_a2 11 (t := 0) (n := 167) (F := (g 11)) rfl rfl rfl (by decide) (by decide)) rfl (by omega) ?_
  exact z_iret d_X12_look_119 rfl er eh
set_option maxRecDepth 20000 in
set_option maxHeartbeats 4000000 in
theorem c_look4 {h : qH} {m : Nat} {f : Nat → Int} {g : Nat → Nat → Int} {n : Nat} (hm : 2 ≤ m) (h0 : f 0 = 0) (hN : g 11 160 = (n : Int)) (hn : n ≤ 32) (hR : ∀ k, k < 4 → 0 ≤ g 5 k ∧ g 5 k ≤ 24) (hO : ∀ k, k < 4 → 0 ≤ g 6 k ∧ g 6 k ≤ 24) : qEx M_X12_look 0 [qR m, qI 4] [] (rput h m f g) (some (qI (g 11 164))) (rput h m f g) := by
  refine q_gen (fun r hr er eh => ?_)
  refine z_aload_n d_X12_look_0 rfl rfl ?_
  refine z_iconst d_X12_look_1 (by decide) ?_
  refine z_putf (fs' := [qI 0, qI (f 1), qI (f 2), qI (f 3), qI (f 4), qI (f 5), qI (f 6), qI (f 7), qR (m + 1), qR (m + 2), qR (m + 3), qR (m + 4), qR (m + 5), qR (m + 6), qR (m + 7), qR (m + 8), qR (m + 9), qR (m + 10), qI (f 18), qI (f 19), qI (f 20), qR (m + 11), qR (m + 12), qR (m + 13), qR (m + 14), qI (f 25), qR (m + 15), qI (f 27), qR (m + 16), qR (m + 17), qR (m + 18), qR (m + 19), qR (m + 20), qR (m + 21), qR (m + 22), qR (m + 23), qR (m + 24), qI (f 37), qI (f 38), qI (f 39), qI (f 40), qR (m + 25), qR (m + 26), qR (m + 27), qR (m + 28), qR (m + 29), qR (m + 30), qR (m + 31), qI (f 48), qR (m + 32), qR (m + 33), qR (m + 34), qR (m + 35), qR (m + 36), qR (m + 37)]) d_X12_look_2 fp_X12_127 rput_o (fun _ => rfl) (fun _ => rfl) (Nat.le_of_ble_eq_true rfl) rfl ?_
  refine z_eq rfl rfl ((rput_sf (f' := qup f 0 0) rfl).trans (rput_cg (qup_self h0) rfl)) ?_
  refine z_iload_n d_X12_look_5 rfl rfl ?_
  refine z_tableIn 120 d_X12_look_6 (by decide) (by decide) (off := 114) rfl (by decide) ?_
  refine z_aload_n d_X12_look_120 rfl rfl ?_
  refine z_getf (v := qR (m + 11)) d_X12_look_121 fl_X12_44 rput_o rfl ?_
  refine z_sipush d_X12_look_124 (by decide) ?_
  refine z_ild 164 d_X12_look_127 (rput_a2 11 (t := 0) (n := 167) (F := (g 11)) rfl rfl rfl (by decide) (by decide)) rfl (by omega) ?_
  exact z_iret d_X12_look_128 rfl er eh
set_option maxRecDepth 20000 in
set_option maxHeartbeats 4000000 in
theorem c_look5 {h : qH} {m : Nat} {f : Nat → Int} {g : Nat → Nat → Int} {n : Nat} (hm : 2 ≤ m) (h0 : f 0 = 0) (hN : g 11 160 = (n : Int)) (hn : n ≤ 32) (hR : ∀ k, k < 4 → 0 ≤ g 5 k ∧ g 5 k ≤ 24) (hO : ∀ k, k < 4 → 0 ≤ g 6 k ∧ g 6 k ≤ 24) : qEx M_X12_look 0 [qR m, qI 5] [] (rput h m f g) (some (qI (g 11 165))) (rput h m f g) := by
  refine q_gen (fun r hr er eh => ?_)
  refine z_aload_n d_X12_look_0 rfl rfl ?_
  refine z_iconst d_X12_look_1 (by decide) ?_
  refine z_putf (fs' := [qI 0, qI (f 1), qI (f 2), qI (f 3), qI (f 4), qI (f 5), qI (f 6), qI (f 7), qR (m + 1), qR (m + 2), qR (m + 3), qR (m + 4), qR (m + 5), qR (m + 6), qR (m + 7), qR (m + 8), qR (m + 9), qR (m + 10), qI (f 18), qI (f 19), qI (f 20), qR (m + 11), qR (m + 12), qR (m + 13), qR (m + 14), qI (f 25), qR (m + 15), qI (f 27), qR (m + 16), qR (m + 17), qR (m + 18), qR (m + 19), qR (m + 20), qR (m + 21), qR (m + 22), qR (m + 23), qR (m + 24), qI (f 37), qI (f 38), qI (f 39), qI (f 40), qR (m + 25), qR (m + 26), qR (m + 27), qR (m + 28), qR (m + 29), qR (m + 30), qR (m + 31), qI (f 48), qR (m + 32), qR (m + 33), qR (m + 34), qR (m + 35), qR (m + 36), qR (m + 37)]) d_X12_look_2 fp_X12_127 rput_o (fun _ => rfl) (fun _ => rfl) (Nat.le_of_ble_eq_true rfl) rfl ?_
  refine z_eq rfl rfl ((rput_sf (f' := qup f 0 0) rfl).trans (rput_cg (qup_self h0) rfl)) ?_
  refine z_iload_n d_X12_look_5 rfl rfl ?_
  refine z_tableIn 129 d_X12_look_6 (by decide) (by decide) (off := 123) rfl (by decide) ?_
  refine z_aload_n d_X12_look_129 rfl rfl ?_
  refine z_getf (v := qR (m + 11)) d_X12_look_130 fl_X12_44 rput_o rfl ?_
  refine z_sipush d_X12_look_133 (by decide) ?_
  refine z_ild 165 d_X12_look_136 (rput_a2 11 (t := 0) (n := 167) (F := (g 11)) rfl rfl rfl (by decide) (by decide)) rfl (by omega) ?_
  exact z_iret d_X12_look_137 rfl er eh
set_option maxRecDepth 20000 in
set_option maxHeartbeats 4000000 in
theorem c_look6 {h : qH} {m : Nat} {f : Nat → Int} {g : Nat → Nat → Int} {n : Nat} (hm : 2 ≤ m) (h0 : f 0 = 0) (hN : g 11 160 = (n : Int)) (hn : n ≤ 32) (hR : ∀ k, k < 4 → 0 ≤ g 5 k ∧ g 5 k ≤ 24) (hO : ∀ k, k < 4 → 0 ≤ g 6 k ∧ g 6 k ≤ 24) : qEx M_X12_look 0 [qR m, qI 6] [] (rput h m f g) (some (qI (cnt (fun k => g 11 k = 7) n))) (rput h m f g) := by
  refine q_gen (fun r hr er eh => ?_)
  refine z_aload_n d_X12_look_0 rfl rfl ?_
  refine z_iconst d_X12_look_1 (by decide) ?_
  refine z_putf (fs' := [qI 0, qI (f 1), qI (f 2), qI (f 3), qI (f 4), qI (f 5), qI (f 6), qI (f 7), qR (m + 1), qR (m + 2), qR (m + 3), qR (m + 4), qR (m + 5), qR (m + 6), qR (m + 7), qR (m + 8), qR (m + 9), qR (m + 10), qI (f 18), qI (f 19), qI (f 20), qR (m + 11), qR (m + 12), qR (m + 13), qR (m + 14), qI (f 25), qR (m + 15), qI (f 27), qR (m + 16), qR (m + 17), qR (m + 18), qR (m + 19), qR (m + 20), qR (m + 21), qR (m + 22), qR (m + 23), qR (m + 24), qI (f 37), qI (f 38), qI (f 39), qI (f 40), qR (m + 25), qR (m + 26), qR (m + 27), qR (m + 28), qR (m + 29), qR (m + 30), qR (m + 31), qI (f 48), qR (m + 32), qR (m + 33), qR (m + 34), qR (m + 35), qR (m + 36), qR (m + 37)]) d_X12_look_2 fp_X12_127 rput_o (fun _ => rfl) (fun _ => rfl) (Nat.le_of_ble_eq_true rfl) rfl ?_
  refine z_eq rfl rfl ((rput_sf (f' := qup f 0 0) rfl).trans (rput_cg (qup_self h0) rfl)) ?_
  refine z_iload_n d_X12_look_5 rfl rfl ?_
  refine z_tableIn 138 d_X12_look_6 (by decide) (by decide) (off := 132) rfl (by decide) ?_
  refine z_aload_n d_X12_look_138 rfl rfl ?_
  refine z_getf (v := qR (m + 11)) d_X12_look_139 fl_X12_44 rput_o rfl ?_
  refine z_aload_n d_X12_look_142 rfl rfl ?_
  refine z_getf (v := qR (m + 11)) d_X12_look_143 fl_X12_44 rput_o rfl ?_
  refine z_sipush d_X12_look_146 (by decide) ?_
  refine z_ild 160 d_X12_look_149 (rput_a2 11 (t := 0) (n := 167) (F := (g 11)) rfl rfl rfl (by decide) (by decide)) rfl (by omega) ?_
  refine z_eq rfl (qc (qi hN) rfl) rfl ?_
  refine z_cs (M1 := M_X12_litIn) d_X12_look_150 ls_X12_302 k_X12_litIn [qR (m + 11), qI (n : Int)] rfl rfl (Nat.le_of_ble_eq_true rfl) (by decide) (by decide) (Nat.le_of_ble_eq_true rfl) (c_litIn n (rput_a2 11 (t := 0) (n := 167) (F := (g 11)) rfl rfl rfl (by decide) (by decide)) (by omega) (by decide)) ?_
  exact z_iret d_X12_look_153 rfl er eh
set_option maxRecDepth 20000 in
set_option maxHeartbeats 4000000 in
theorem c_look7 {h : qH} {m : Nat} {f : Nat → Int} {g : Nat → Nat → Int} {n : Nat} (hm : 2 ≤ m) (h0 : f 0 = 0) (hN : g 11 160 = (n : Int)) (hn : n ≤ 32) (hR : ∀ k, k < 4 → 0 ≤ g 5 k ∧ g 5 k ≤ 24) (hO : ∀ k, k < 4 → 0 ≤ g 6 k ∧ g 6 k ≤ 24) : qEx M_X12_look 0 [qR m, qI 7] [] (rput h m f g) (some (qI (g 11 166))) (rput h m f g) := by
  refine q_gen (fun r hr er eh => ?_)
  refine z_aload_n d_X12_look_0 rfl rfl ?_
  refine z_iconst d_X12_look_1 (by decide) ?_
  refine z_putf (fs' := [qI 0, qI (f 1), qI (f 2), qI (f 3), qI (f 4), qI (f 5), qI (f 6), qI (f 7), qR (m + 1), qR (m + 2), qR (m + 3), qR (m + 4), qR (m + 5), qR (m + 6), qR (m + 7), qR (m + 8), qR (m + 9), qR (m + 10), qI (f 18), qI (f 19), qI (f 20), qR (m + 11), qR (m + 12), qR (m + 13), qR (m + 14), qI (f 25), qR (m + 15), qI (f 27), qR (m + 16), qR (m + 17), qR (m + 18), qR (m + 19), qR (m + 20), qR (m + 21), qR (m + 22), qR (m + 23), qR (m + 24), qI (f 37), qI (f 38), qI (f 39), qI (f 40), qR (m + 25), qR (m + 26), qR (m + 27), qR (m + 28), qR (m + 29), qR (m + 30), qR (m + 31), qI (f 48), qR (m + 32), qR (m + 33), qR (m + 34), qR (m + 35), qR (m + 36), qR (m + 37)]) d_X12_look_2 fp_X12_127 rput_o (fun _ => rfl) (fun _ => rfl) (Nat.le_of_ble_eq_true rfl) rfl ?_
  refine z_eq rfl rfl ((rput_sf (f' := qup f 0 0) rfl).trans (rput_cg (qup_self h0) rfl)) ?_
  refine z_iload_n d_X12_look_5 rfl rfl ?_
  refine z_tableIn 154 d_X12_look_6 (by decide) (by decide) (off := 148) rfl (by decide) ?_
  refine z_aload_n d_X12_look_154 rfl rfl ?_
  refine z_getf (v := qR (m + 11)) d_X12_look_155 fl_X12_44 rput_o rfl ?_
  refine z_sipush d_X12_look_158 (by decide) ?_
  refine z_ild 166 d_X12_look_161 (rput_a2 11 (t := 0) (n := 167) (F := (g 11)) rfl rfl rfl (by decide) (by decide)) rfl (by omega) ?_
  exact z_iret d_X12_look_162 rfl er eh
set_option maxRecDepth 20000 in
set_option maxHeartbeats 4000000 in
theorem c_look8 {h : qH} {m : Nat} {f : Nat → Int} {g : Nat → Nat → Int} {n : Nat} (hm : 2 ≤ m) (h0 : f 0 = 0) (hN : g 11 160 = (n : Int)) (hn : n ≤ 32) (hR : ∀ k, k < 4 → 0 ≤ g 5 k ∧ g 5 k ≤ 24) (hO : ∀ k, k < 4 → 0 ≤ g 6 k ∧ g 6 k ≤ 24) : qEx M_X12_look 0 [qR m, qI 8] [] (rput h m f g) (some (qI (g 5 0))) (rput h m f g) := by
  refine q_gen (fun r hr er eh => ?_)
  refine z_aload_n d_X12_look_0 rfl rfl ?_
  refine z_iconst d_X12_look_1 (by decide) ?_
  refine z_putf (fs' := [qI 0, qI (f 1), qI (f 2), qI (f 3), qI (f 4), qI (f 5), qI (f 6), qI (f 7), qR (m + 1), qR (m + 2), qR (m + 3), qR (m + 4), qR (m + 5), qR (m + 6), qR (m + 7), qR (m + 8), qR (m + 9), qR (m + 10), qI (f 18), qI (f 19), qI (f 20), qR (m + 11), qR (m + 12), qR (m + 13), qR (m + 14), qI (f 25), qR (m + 15), qI (f 27), qR (m + 16), qR (m + 17), qR (m + 18), qR (m + 19), qR (m + 20), qR (m + 21), qR (m + 22), qR (m + 23), qR (m + 24), qI (f 37), qI (f 38), qI (f 39), qI (f 40), qR (m + 25), qR (m + 26), qR (m + 27), qR (m + 28), qR (m + 29), qR (m + 30), qR (m + 31), qI (f 48), qR (m + 32), qR (m + 33), qR (m + 34), qR (m + 35), qR (m + 36), qR (m + 37)]) d_X12_look_2 fp_X12_127 rput_o (fun _ => rfl) (fun _ => rfl) (Nat.le_of_ble_eq_true rfl) rfl ?_
  refine z_eq rfl rfl ((rput_sf (f' := qup f 0 0) rfl).trans (rput_cg (qup_self h0) rfl)) ?_
  refine z_iload_n d_X12_look_5 rfl rfl ?_
  refine z_tableIn 163 d_X12_look_6 (by decide) (by decide) (off := 157) rfl (by decide) ?_
  refine z_aload_n d_X12_look_163 rfl rfl ?_
  refine z_getf (v := qR (m + 5)) d_X12_look_164 fl_X12_26 rput_o rfl ?_
  refine z_iload_n d_X12_look_167 rfl rfl ?_
  refine z_bipush d_X12_look_168 (by decide) ?_
  refine z_isub d_X12_look_170 (by decide) ?_
  show qEx _ _ _ (qI 0 :: _) _ _ _
  refine z_ild 0 d_X12_look_171 (rput_a2 5 (t := 0) (n := 4) (F := (g 5)) rfl rfl rfl (by decide) (by decide)) rfl (by omega) ?_
  exact z_iret d_X12_look_172 rfl er eh
set_option maxRecDepth 20000 in
set_option maxHeartbeats 4000000 in
theorem c_look9 {h : qH} {m : Nat} {f : Nat → Int} {g : Nat → Nat → Int} {n : Nat} (hm : 2 ≤ m) (h0 : f 0 = 0) (hN : g 11 160 = (n : Int)) (hn : n ≤ 32) (hR : ∀ k, k < 4 → 0 ≤ g 5 k ∧ g 5 k ≤ 24) (hO : ∀ k, k < 4 → 0 ≤ g 6 k ∧ g 6 k ≤ 24) : qEx M_X12_look 0 [qR m, qI 9] [] (rput h m f g) (some (qI (g 5 1))) (rput h m f g) := by
  refine q_gen (fun r hr er eh => ?_)
  refine z_aload_n d_X12_look_0 rfl rfl ?_
  refine z_iconst d_X12_look_1 (by decide) ?_
  refine z_putf (fs' := [qI 0, qI (f 1), qI (f 2), qI (f 3), qI (f 4), qI (f 5), qI (f 6), qI (f 7), qR (m + 1), qR (m + 2), qR (m + 3), qR (m + 4), qR (m + 5), qR (m + 6), qR (m + 7), qR (m + 8), qR (m + 9), qR (m + 10), qI (f 18), qI (f 19), qI (f 20), qR (m + 11), qR (m + 12), qR (m + 13), qR (m + 14), qI (f 25), qR (m + 15), qI (f 27), qR (m + 16), qR (m + 17), qR (m + 18), qR (m + 19), qR (m + 20), qR (m + 21), qR (m + 22), qR (m + 23), qR (m + 24), qI (f 37), qI (f 38), qI (f 39), qI (f 40), qR (m + 25), qR (m + 26), qR (m + 27), qR (m + 28), qR (m + 29), qR (m + 30), qR (m + 31), qI (f 48), qR (m + 32), qR (m + 33), qR (m + 34), qR (m + 35), qR (m + 36), qR (m + 37)]) d_X12_look_2 fp_X12_127 rput_o (fun _ => rfl) (fun _ => rfl) (Nat.le_of_ble_eq_true rfl) rfl ?_
  refine z_eq rfl rfl ((rput_sf (f' := qup f 0 0) rfl).trans (rput_cg (qup_self h0) rfl)) ?_
  refine z_iload_n d_X12_look_5 rfl rfl ?_
  refine z_tableIn 163 d_X12_look_6 (by decide) (by decide) (off := 157) rfl (by decide) ?_
  refine z_aload_n d_X12_look_163 rfl rfl ?_
  refine z_getf (v := qR (m + 5)) d_X12_look_164 fl_X12_26 rput_o rfl ?_
  refine z_iload_n d_X12_look_167 rfl rfl ?_
  refine z_bipush d_X12_look_168 (by decide) ?_
  refine z_isub d_X12_look_170 (by decide) ?_
  show qEx _ _ _ (qI 1 :: _) _ _ _
  refine z_ild 1 d_X12_look_171 (rput_a2 5 (t := 0) (n := 4) (F := (g 5)) rfl rfl rfl (by decide) (by decide)) rfl (by omega) ?_
  exact z_iret d_X12_look_172 rfl er eh
set_option maxRecDepth 20000 in
set_option maxHeartbeats 4000000 in
theorem c_look10 {h : qH} {m : Nat} {f : Nat → Int} {g : Nat → Nat → Int} {n : Nat} (hm : 2 ≤ m) (h0 : f 0 = 0) (hN : g 11 160 = (n : Int)) (hn : n ≤ 32) (hR : ∀ k, k < 4 → 0 ≤ g 5 k ∧ g 5 k ≤ 24) (hO : ∀ k, k < 4 → 0 ≤ g 6 k ∧ g 6 k ≤ 24) : qEx M_X12_look 0 [qR m, qI 10] [] (rput h m f g) (some (qI (g 5 2))) (rput h m f g) := by
  refine q_gen (fun r hr er eh => ?_)
  refine z_aload_n d_X12_look_0 rfl rfl ?_
  refine z_iconst d_X12_look_1 (by decide) ?_
  refine z_putf (fs' := [qI 0, qI (f 1), qI (f 2), qI (f 3), qI (f 4), qI (f 5), qI (f 6), qI (f 7), qR (m + 1), qR (m + 2), qR (m + 3), qR (m + 4), qR (m + 5), qR (m + 6), qR (m + 7), qR (m + 8), qR (m + 9), qR (m + 10), qI (f 18), qI (f 19), qI (f 20), qR (m + 11), qR (m + 12), qR (m + 13), qR (m + 14), qI (f 25), qR (m + 15), qI (f 27), qR (m + 16), qR (m + 17), qR (m + 18), qR (m + 19), qR (m + 20), qR (m + 21), qR (m + 22), qR (m + 23), qR (m + 24), qI (f 37), qI (f 38), qI (f 39), qI (f 40), qR (m + 25), qR (m + 26), qR (m + 27), qR (m + 28), qR (m + 29), qR (m + 30), qR (m + 31), qI (f 48), qR (m + 32), qR (m + 33), qR (m + 34), qR (m + 35), qR (m + 36), qR (m + 37)]) d_X12_look_2 fp_X12_127 rput_o (fun _ => rfl) (fun _ => rfl) (Nat.le_of_ble_eq_true rfl) rfl ?_
  refine z_eq rfl rfl ((rput_sf (f' := qup f 0 0) rfl).trans (rput_cg (qup_self h0) rfl)) ?_
  refine z_iload_n d_X12_look_5 rfl rfl ?_
  refine z_tableIn 163 d_X12_look_6 (by decide) (by decide) (off := 157) rfl (by decide) ?_
  refine z_aload_n d_X12_look_163 rfl rfl ?_
  refine z_getf (v := qR (m + 5)) d_X12_look_164 fl_X12_26 rput_o rfl ?_
  refine z_iload_n d_X12_look_167 rfl rfl ?_
  refine z_bipush d_X12_look_168 (by decide) ?_
  refine z_isub d_X12_look_170 (by decide) ?_
  show qEx _ _ _ (qI 2 :: _) _ _ _
  refine z_ild 2 d_X12_look_171 (rput_a2 5 (t := 0) (n := 4) (F := (g 5)) rfl rfl rfl (by decide) (by decide)) rfl (by omega) ?_
  exact z_iret d_X12_look_172 rfl er eh
set_option maxRecDepth 20000 in
set_option maxHeartbeats 4000000 in
theorem c_look11 {h : qH} {m : Nat} {f : Nat → Int} {g : Nat → Nat → Int} {n : Nat} (hm : 2 ≤ m) (h0 : f 0 = 0) (hN : g 11 160 = (n : Int)) (hn : n ≤ 32) (hR : ∀ k, k < 4 → 0 ≤ g 5 k ∧ g 5 k ≤ 24) (hO : ∀ k, k < 4 → 0 ≤ g 6 k ∧ g 6 k ≤ 24) : qEx M_X12_look 0 [qR m, qI 11] [] (rput h m f g) (some (qI (g 5 3))) (rput h m f g) := by
  refine q_gen (fun r hr er eh => ?_)
  refine z_aload_n d_X12_look_0 rfl rfl ?_
  refine z_iconst d_X12_look_1 (by decide) ?_
  refine z_putf (fs' := [qI 0, qI (f 1), qI (f 2), qI (f 3), qI (f 4), qI (f 5), qI (f 6), qI (f 7), qR (m + 1), qR (m + 2), qR (m + 3), qR (m + 4), qR (m + 5), qR (m + 6), qR (m + 7), qR (m + 8), qR (m + 9), qR (m + 10), qI (f 18), qI (f 19), qI (f 20), qR (m + 11), qR (m + 12), qR (m + 13), qR (m + 14), qI (f 25), qR (m + 15), qI (f 27), qR (m + 16), qR (m + 17), qR (m + 18), qR (m + 19), qR (m + 20), qR (m + 21), qR (m + 22), qR (m + 23), qR (m + 24), qI (f 37), qI (f 38), qI (f 39), qI (f 40), qR (m + 25), qR (m + 26), qR (m + 27), qR (m + 28), qR (m + 29), qR (m + 30), qR (m + 31), qI (f 48), qR (m + 32), qR (m + 33), qR (m + 34), qR (m + 35), qR (m + 36), qR (m + 37)]) d_X12_look_2 fp_X12_127 rput_o (fun _ => rfl) (fun _ => rfl) (Nat.le_of_ble_eq_true rfl) rfl ?_
  refine z_eq rfl rfl ((rput_sf (f' := qup f 0 0) rfl).trans (rput_cg (qup_self h0) rfl)) ?_
  refine z_iload_n d_X12_look_5 rfl rfl ?_
  refine z_tableIn 163 d_X12_look_6 (by decide) (by decide) (off := 157) rfl (by decide) ?_
  refine z_aload_n d_X12_look_163 rfl rfl ?_
  refine z_getf (v := qR (m + 5)) d_X12_look_164 fl_X12_26 rput_o rfl ?_
  refine z_iload_n d_X12_look_167 rfl rfl ?_
  refine z_bipush d_X12_look_168 (by decide) ?_
  refine z_isub d_X12_look_170 (by decide) ?_
  show qEx _ _ _ (qI 3 :: _) _ _ _
  refine z_ild 3 d_X12_look_171 (rput_a2 5 (t := 0) (n := 4) (F := (g 5)) rfl rfl rfl (by decide) (by decide)) rfl (by omega) ?_
  exact z_iret d_X12_look_172 rfl er eh
set_option maxRecDepth 20000 in
set_option maxHeartbeats 4000000 in
theorem c_look12 {h : qH} {m : Nat} {f : Nat → Int} {g : Nat → Nat → Int} {n : Nat} (hm : 2 ≤ m) (h0 : f 0 = 0) (hN : g 11 160 = (n : Int)) (hn : n ≤ 32) (hR : ∀ k, k < 4 → 0 ≤ g 5 k ∧ g 5 k ≤ 24) (hO : ∀ k, k < 4 → 0 ≤ g 6 k ∧ g 6 k ≤ 24) : qEx M_X12_look 0 [qR m, qI 12] [] (rput h m f g) (some (qI (f 18))) (rput h m f g) := by
  refine q_gen (fun r hr er eh => ?_)
  refine z_aload_n d_X12_look_0 rfl rfl ?_
  refine z_iconst d_X12_look_1 (by decide) ?_
  refine z_putf (fs' := [qI 0, qI (f 1), qI (f 2), qI (f 3), qI (f 4), qI (f 5), qI (f 6), qI (f 7), qR (m + 1), qR (m + 2), qR (m + 3), qR (m + 4), qR (m + 5), qR (m + 6), qR (m + 7), qR (m + 8), qR (m + 9), qR (m + 10), qI (f 18), qI (f 19), qI (f 20), qR (m + 11), qR (m + 12), qR (m + 13), qR (m + 14), qI (f 25), qR (m + 15), qI (f 27), qR (m + 16), qR (m + 17), qR (m + 18), qR (m + 19), qR (m + 20), qR (m + 21), qR (m + 22), qR (m + 23), qR (m + 24), qI (f 37), qI (f 38), qI (f 39), qI (f 40), qR (m + 25), qR (m + 26), qR (m + 27), qR (m + 28), qR (m + 29), qR (m + 30), qR (m + 31), qI (f 48), qR (m + 32), qR (m + 33), qR (m + 34), qR (m + 35), qR (m + 36), qR (m + 37)]) d_X12_look_2 fp_X12_127 rput_o (fun _ => rfl) (fun _ => rfl) (Nat.le_of_ble_eq_true rfl) rfl ?_
  refine z_eq rfl rfl ((rput_sf (f' := qup f 0 0) rfl).trans (rput_cg (qup_self h0) rfl)) ?_
  refine z_iload_n d_X12_look_5 rfl rfl ?_
  refine z_tableIn 173 d_X12_look_6 (by decide) (by decide) (off := 167) rfl (by decide) ?_
  refine z_aload_n d_X12_look_173 rfl rfl ?_
  refine z_getf (v := qI (f 18)) d_X12_look_174 fl_X12_246 rput_o rfl ?_
  exact z_iret d_X12_look_177 rfl er eh
set_option maxRecDepth 20000 in
set_option maxHeartbeats 4000000 in
theorem c_look13 {h : qH} {m : Nat} {f : Nat → Int} {g : Nat → Nat → Int} {n : Nat} (hm : 2 ≤ m) (h0 : f 0 = 0) (hN : g 11 160 = (n : Int)) (hn : n ≤ 32) (hR : ∀ k, k < 4 → 0 ≤ g 5 k ∧ g 5 k ≤ 24) (hO : ∀ k, k < 4 → 0 ≤ g 6 k ∧ g 6 k ≤ 24) : qEx M_X12_look 0 [qR m, qI 13] [] (rput h m f g) (some (qI (f 19))) (rput h m f g) := by
  refine q_gen (fun r hr er eh => ?_)
  refine z_aload_n d_X12_look_0 rfl rfl ?_
  refine z_iconst d_X12_look_1 (by decide) ?_
  refine z_putf (fs' := [qI 0, qI (f 1), qI (f 2), qI (f 3), qI (f 4), qI (f 5), qI (f 6), qI (f 7), qR (m + 1), qR (m + 2), qR (m + 3), qR (m + 4), qR (m + 5), qR (m + 6), qR (m + 7), qR (m + 8), qR (m + 9), qR (m + 10), qI (f 18), qI (f 19), qI (f 20), qR (m + 11), qR (m + 12), qR (m + 13), qR (m + 14), qI (f 25), qR (m + 15), qI (f 27), qR (m + 16), qR (m + 17), qR (m + 18), qR (m + 19), qR (m + 20), qR (m + 21), qR (m + 22), qR (m + 23), qR (m + 24), qI (f 37), qI (f 38), qI (f 39), qI (f 40), qR (m + 25), qR (m + 26), qR (m + 27), qR (m + 28), qR (m + 29), qR (m + 30), qR (m + 31), qI (f 48), qR (m + 32), qR (m + 33), qR (m + 34), qR (m + 35), qR (m + 36), qR (m + 37)]) d_X12_look_2 fp_X12_127 rput_o (fun _ => rfl) (fun _ => rfl) (Nat.le_of_ble_eq_true rfl) rfl ?_
  refine z_eq rfl rfl ((rput_sf (f' := qup f 0 0) rfl).trans (rput_cg (qup_self h0) rfl)) ?_
  refine z_iload_n d_X12_look_5 rfl rfl ?_
  refine z_tableIn 178 d_X12_look_6 (by decide) (by decide) (off := 172) rfl (by decide) ?_
  refine z_aload_n d_X12_look_178 rfl rfl ?_
  refine z_getf (v := qI (f 19)) d_X12_look_179 fl_X12_253 rput_o rfl ?_
  exact z_iret d_X12_look_182 rfl er eh
set_option maxRecDepth 20000 in
set_option maxHeartbeats 4000000 in
theorem c_look14 {h : qH} {m : Nat} {f : Nat → Int} {g : Nat → Nat → Int} {n : Nat} (hm : 2 ≤ m) (h0 : f 0 = 0) (hN : g 11 160 = (n : Int)) (hn : n ≤ 32) (hR : ∀ k, k < 4 → 0 ≤ g 5 k ∧ g 5 k ≤ 24) (hO : ∀ k, k < 4 → 0 ≤ g 6 k ∧ g 6 k ≤ 24) : qEx M_X12_look 0 [qR m, qI 14] [] (rput h m f g) (some (qI (sm (g 6) 4))) (rput h m f g) := by
  refine q_gen (fun r hr er eh => ?_)
  refine z_aload_n d_X12_look_0 rfl rfl ?_
  refine z_iconst d_X12_look_1 (by decide) ?_
  refine z_putf (fs' := [qI 0, qI (f 1), qI (f 2), qI (f 3), qI (f 4), qI (f 5), qI (f 6), qI (f 7), qR (m + 1), qR (m + 2), qR (m + 3), qR (m + 4), qR (m + 5), qR (m + 6), qR (m + 7), qR (m + 8), qR (m + 9), qR (m + 10), qI (f 18), qI (f 19), qI (f 20), qR (m + 11), qR (m + 12), qR (m + 13), qR (m + 14), qI (f 25), qR (m + 15), qI (f 27), qR (m + 16), qR (m + 17), qR (m + 18), qR (m + 19), qR (m + 20), qR (m + 21), qR (m + 22), qR (m + 23), qR (m + 24), qI (f 37), qI (f 38), qI (f 39), qI (f 40), qR (m + 25), qR (m + 26), qR (m + 27), qR (m + 28), qR (m + 29), qR (m + 30), qR (m + 31), qI (f 48), qR (m + 32), qR (m + 33), qR (m + 34), qR (m + 35), qR (m + 36), qR (m + 37)]) d_X12_look_2 fp_X12_127 rput_o (fun _ => rfl) (fun _ => rfl) (Nat.le_of_ble_eq_true rfl) rfl ?_
  refine z_eq rfl rfl ((rput_sf (f' := qup f 0 0) rfl).trans (rput_cg (qup_self h0) rfl)) ?_
  refine z_iload_n d_X12_look_5 rfl rfl ?_
  refine z_tableIn 183 d_X12_look_6 (by decide) (by decide) (off := 177) rfl (by decide) ?_
  refine z_aload_n d_X12_look_183 rfl rfl ?_
  refine z_getf (v := qR (m + 6)) d_X12_look_184 fl_X12_29 rput_o rfl ?_
  refine z_cs (M1 := M_X12_sumOf) d_X12_look_187 ls_X12_278 k_X12_sumOf [qR (m + 6)] rfl rfl (Nat.le_of_ble_eq_true rfl) (by decide) (by decide) (Nat.le_of_ble_eq_true rfl) (c_sumOf (rput_a2 6 (t := 0) (n := 4) (F := (g 6)) rfl rfl rfl (by decide) (by decide)) (by decide) (fun k hk => ⟨(hO k hk).1, by have := (hO k hk).2; omega⟩)) ?_
  exact z_iret d_X12_look_190 rfl er eh
set_option maxRecDepth 20000 in
set_option maxHeartbeats 4000000 in
theorem c_look15 {h : qH} {m : Nat} {f : Nat → Int} {g : Nat → Nat → Int} {n : Nat} (hm : 2 ≤ m) (h0 : f 0 = 0) (hN : g 11 160 = (n : Int)) (hn : n ≤ 32) (hR : ∀ k, k < 4 → 0 ≤ g 5 k ∧ g 5 k ≤ 24) (hO : ∀ k, k < 4 → 0 ≤ g 6 k ∧ g 6 k ≤ 24) : qEx M_X12_look 0 [qR m, qI 15] [] (rput h m f g) (some (qI (f 25))) (rput h m f g) := by
  refine q_gen (fun r hr er eh => ?_)
  refine z_aload_n d_X12_look_0 rfl rfl ?_
  refine z_iconst d_X12_look_1 (by decide) ?_
  refine z_putf (fs' := [qI 0, qI (f 1), qI (f 2), qI (f 3), qI (f 4), qI (f 5), qI (f 6), qI (f 7), qR (m + 1), qR (m + 2), qR (m + 3), qR (m + 4), qR (m + 5), qR (m + 6), qR (m + 7), qR (m + 8), qR (m + 9), qR (m + 10), qI (f 18), qI (f 19), qI (f 20), qR (m + 11), qR (m + 12), qR (m + 13), qR (m + 14), qI (f 25), qR (m + 15), qI (f 27), qR (m + 16), qR (m + 17), qR (m + 18), qR (m + 19), qR (m + 20), qR (m + 21), qR (m + 22), qR (m + 23), qR (m + 24), qI (f 37), qI (f 38), qI (f 39), qI (f 40), qR (m + 25), qR (m + 26), qR (m + 27), qR (m + 28), qR (m + 29), qR (m + 30), qR (m + 31), qI (f 48), qR (m + 32), qR (m + 33), qR (m + 34), qR (m + 35), qR (m + 36), qR (m + 37)]) d_X12_look_2 fp_X12_127 rput_o (fun _ => rfl) (fun _ => rfl) (Nat.le_of_ble_eq_true rfl) rfl ?_
  refine z_eq rfl rfl ((rput_sf (f' := qup f 0 0) rfl).trans (rput_cg (qup_self h0) rfl)) ?_
  refine z_iload_n d_X12_look_5 rfl rfl ?_
  refine z_tableIn 191 d_X12_look_6 (by decide) (by decide) (off := 185) rfl (by decide) ?_
  refine z_aload_n d_X12_look_191 rfl rfl ?_
  refine z_getf (v := qI (f 25)) d_X12_look_192 fl_X12_256 rput_o rfl ?_
  exact z_iret d_X12_look_195 rfl er eh
set_option maxRecDepth 20000 in
set_option maxHeartbeats 4000000 in
theorem c_look_no {h : qH} {m : Nat} {f : Nat → Int} {g : Nat → Nat → Int} (k : Int) (hm : 2 ≤ m) (h0 : f 0 = 0) (hk : k < 0 ∨ 15 < k) : qEx M_X12_look 0 [qR m, qI k] [] (rput h m f g) (some (qI (-1))) (rput h m f g) := by
  refine q_gen (fun r hr er eh => ?_)
  refine z_aload_n d_X12_look_0 rfl rfl ?_
  refine z_iconst d_X12_look_1 (by decide) ?_
  refine z_putf (fs' := [qI 0, qI (f 1), qI (f 2), qI (f 3), qI (f 4), qI (f 5), qI (f 6), qI (f 7), qR (m + 1), qR (m + 2), qR (m + 3), qR (m + 4), qR (m + 5), qR (m + 6), qR (m + 7), qR (m + 8), qR (m + 9), qR (m + 10), qI (f 18), qI (f 19), qI (f 20), qR (m + 11), qR (m + 12), qR (m + 13), qR (m + 14), qI (f 25), qR (m + 15), qI (f 27), qR (m + 16), qR (m + 17), qR (m + 18), qR (m + 19), qR (m + 20), qR (m + 21), qR (m + 22), qR (m + 23), qR (m + 24), qI (f 37), qI (f 38), qI (f 39), qI (f 40), qR (m + 25), qR (m + 26), qR (m + 27), qR (m + 28), qR (m + 29), qR (m + 30), qR (m + 31), qI (f 48), qR (m + 32), qR (m + 33), qR (m + 34), qR (m + 35), qR (m + 36), qR (m + 37)]) d_X12_look_2 fp_X12_127 rput_o (fun _ => rfl) (fun _ => rfl) (Nat.le_of_ble_eq_true rfl) rfl ?_
  refine z_eq rfl rfl ((rput_sf (f' := qup f 0 0) rfl).trans (rput_cg (qup_self h0) rfl)) ?_
  refine z_iload_n d_X12_look_5 rfl rfl ?_
  refine z_tableOut 196 d_X12_look_6 (by omega) (by decide) ?_
  refine z_iconst d_X12_look_196 (by decide) ?_
  exact z_iret d_X12_look_197 rfl er eh
set_option maxRecDepth 20000 in
set_option maxHeartbeats 4000000 in
theorem c_goes_clear {h : qH} {m : Nat} {f : Nat → Int} {g : Nat → Nat → Int} (s a b : Int) (hm : 2 ≤ m) (h0 : f 0 = 0) : qEx M_X12_goes 0 [qR m, qI (-1), qI s, qI a, qI b] [] (rput h m f g) (some (qI 0)) (rput h m (qup f 27 0) g) := by
  refine q_gen (fun r hr er eh => ?_)
  refine z_aload_n d_X12_goes_0 rfl rfl ?_
  refine z_iconst d_X12_goes_1 (by decide) ?_
  refine z_putf (fs' := [qI 0, qI (f 1), qI (f 2), qI (f 3), qI (f 4), qI (f 5), qI (f 6), qI (f 7), qR (m + 1), qR (m + 2), qR (m + 3), qR (m + 4), qR (m + 5), qR (m + 6), qR (m + 7), qR (m + 8), qR (m + 9), qR (m + 10), qI (f 18), qI (f 19), qI (f 20), qR (m + 11), qR (m + 12), qR (m + 13), qR (m + 14), qI (f 25), qR (m + 15), qI (f 27), qR (m + 16), qR (m + 17), qR (m + 18), qR (m + 19), qR (m + 20), qR (m + 21), qR (m + 22), qR (m + 23), qR (m + 24), qI (f 37), qI (f 38), qI (f 39), qI (f 40), qR (m + 25), qR (m + 26), qR (m + 27), qR (m + 28), qR (m + 29), qR (m + 30), qR (m + 31), qI (f 48), qR (m + 32), qR (m + 33), qR (m + 34), qR (m + 35), qR (m + 36), qR (m + 37)]) d_X12_goes_2 fp_X12_127 rput_o (fun _ => rfl) (fun _ => rfl) (Nat.le_of_ble_eq_true rfl) rfl ?_
  refine z_eq rfl rfl ((rput_sf (f' := qup f 0 0) rfl).trans (rput_cg (qup_self h0) rfl)) ?_
  refine z_iload_n d_X12_goes_5 rfl rfl ?_
  refine z_iconst d_X12_goes_6 (by decide) ?_
  refine z_icmp_ne 17 d_X12_goes_7 (by decide) (fun hc1 => absurd hc1 (by decide)) (fun hc1 => ?_)
  refine z_aload_n d_X12_goes_10 rfl rfl ?_
  refine z_iconst d_X12_goes_11 (by decide) ?_
  refine z_putf (fs' := [qI (f 0), qI (f 1), qI (f 2), qI (f 3), qI (f 4), qI (f 5), qI (f 6), qI (f 7), qR (m + 1), qR (m + 2), qR (m + 3), qR (m + 4), qR (m + 5), qR (m + 6), qR (m + 7), qR (m + 8), qR (m + 9), qR (m + 10), qI (f 18), qI (f 19), qI (f 20), qR (m + 11), qR (m + 12), qR (m + 13), qR (m + 14), qI (f 25), qR (m + 15), qI 0, qR (m + 16), qR (m + 17), qR (m + 18), qR (m + 19), qR (m + 20), qR (m + 21), qR (m + 22), qR (m + 23), qR (m + 24), qI (f 37), qI (f 38), qI (f 39), qI (f 40), qR (m + 25), qR (m + 26), qR (m + 27), qR (m + 28), qR (m + 29), qR (m + 30), qR (m + 31), qI (f 48), qR (m + 32), qR (m + 33), qR (m + 34), qR (m + 35), qR (m + 36), qR (m + 37)]) d_X12_goes_12 fp_X12_323 rput_o (fun _ => rfl) (fun _ => rfl) (Nat.le_of_ble_eq_true rfl) rfl ?_
  refine z_eq rfl rfl (rput_sf (f' := (qup f 27 0)) rfl) ?_
  refine z_iconst d_X12_goes_15 (by decide) ?_
  exact z_iret d_X12_goes_16 rfl er eh
set_option maxRecDepth 20000 in
set_option maxHeartbeats 4000000 in
theorem c_goes_no {h : qH} {m : Nat} {f : Nat → Int} {g : Nat → Nat → Int} {K : Nat} (p s a b : Int) (hm : 2 ≤ m) (h0 : f 0 = 0) (hK : f 27 = (K : Int)) (hK2 : K ≤ 8) (hp : p ≠ -1) (hno : ¬ ((0 ≤ p ∧ p ≤ 99) ∧ (0 ≤ s ∧ s ≤ 99) ∧ (-9 ≤ a ∧ a ≤ 9) ∧ (1 ≤ b ∧ b ≤ 9) ∧ K < 8)) : qEx M_X12_goes 0 [qR m, qI p, qI s, qI a, qI b] [] (rput h m f g) (some (qI (-1))) (rput h m f g) := by
  refine q_gen (fun r hr er eh => ?_)
  refine z_aload_n d_X12_goes_0 rfl rfl ?_
  refine z_iconst d_X12_goes_1 (by decide) ?_
  refine z_putf (fs' := [qI 0, qI (f 1), qI (f 2), qI (f 3), qI (f 4), qI (f 5), qI (f 6), qI (f 7), qR (m + 1), qR (m + 2), qR (m + 3), qR (m + 4), qR (m + 5), qR (m + 6), qR (m + 7), qR (m + 8), qR (m + 9), qR (m + 10), qI (f 18), qI (f 19), qI (f 20), qR (m + 11), qR (m + 12), qR (m + 13), qR (m + 14), qI (f 25), qR (m + 15), qI (f 27), qR (m + 16), qR (m + 17), qR (m + 18), qR (m + 19), qR (m + 20), qR (m + 21), qR (m + 22), qR (m + 23), qR (m + 24), qI (f 37), qI (f 38), qI (f 39), qI (f 40), qR (m + 25), qR (m + 26), qR (m + 27), qR (m + 28), qR (m + 29), qR (m + 30), qR (m + 31), qI (f 48), qR (m + 32), qR (m + 33), qR (m + 34), qR (m + 35), qR (m + 36), qR (m + 37)]) d_X12_goes_2 fp_X12_127 rput_o (fun _ => rfl) (fun _ => rfl) (Nat.le_of_ble_eq_true rfl) rfl ?_
  refine z_eq rfl rfl ((rput_sf (f' := qup f 0 0) rfl).trans (rput_cg (qup_self h0) rfl)) ?_
  refine z_iload_n d_X12_goes_5 rfl rfl ?_
  refine z_iconst d_X12_goes_6 (by decide) ?_
  refine z_icmp_ne 17 d_X12_goes_7 (by decide) (fun hc1 => ?_) (fun hc1 => absurd hc1 (by omega))
  refine z_iload_n d_X12_goes_17 rfl rfl ?_
  refine z_iconst d_X12_goes_18 (by decide) ?_
  refine z_bipush d_X12_goes_19 (by decide) ?_
  refine z_cs (M1 := M_X12_in) d_X12_goes_21 ls_X12_137 k_X12_in [qI p, qI 0, qI 99] rfl rfl (Nat.le_of_ble_eq_true rfl) (by decide) (by decide) (Nat.le_of_ble_eq_true rfl) (c_in p 0 99) ?_
  refine z_ifeqB 68 d_X12_goes_24 (by decide) (fun hc2 => ?_) (fun hc2 => ?_)
  · refine z_iconst d_X12_goes_68 (by decide) ?_
    exact z_iret d_X12_goes_69 rfl er eh
  · refine z_iload_n d_X12_goes_27 rfl rfl ?_
    refine z_iconst d_X12_goes_28 (by decide) ?_
    refine z_bipush d_X12_goes_29 (by decide) ?_
    refine z_cs (M1 := M_X12_in) d_X12_goes_31 ls_X12_137 k_X12_in [qI s, qI 0, qI 99] rfl rfl (Nat.le_of_ble_eq_true rfl) (by decide) (by decide) (Nat.le_of_ble_eq_true rfl) (c_in s 0 99) ?_
    refine z_ifeqB 68 d_X12_goes_34 (by decide) (fun hc3 => ?_) (fun hc3 => ?_)
    · refine z_iconst d_X12_goes_68 (by decide) ?_
      exact z_iret d_X12_goes_69 rfl er eh
    · refine z_iload_n d_X12_goes_37 rfl rfl ?_
      refine z_bipush d_X12_goes_38 (by decide) ?_
      refine z_bipush d_X12_goes_40 (by decide) ?_
      refine z_cs (M1 := M_X12_in) d_X12_goes_42 ls_X12_137 k_X12_in [qI a, qI (-9), qI 9] rfl rfl (Nat.le_of_ble_eq_true rfl) (by decide) (by decide) (Nat.le_of_ble_eq_true rfl) (c_in a (-9) 9) ?_
      refine z_ifeqB 68 d_X12_goes_45 (by decide) (fun hc4 => ?_) (fun hc4 => ?_)
      · refine z_iconst d_X12_goes_68 (by decide) ?_
        exact z_iret d_X12_goes_69 rfl er eh
      · refine z_iload d_X12_goes_48 rfl ?_
        refine z_iconst d_X12_goes_50 (by decide) ?_
        refine z_bipush d_X12_goes_51 (by decide) ?_
        refine z_cs (M1 := M_X12_in) d_X12_goes_53 ls_X12_137 k_X12_in [qI b, qI 1, qI 9] rfl rfl (Nat.le_of_ble_eq_true rfl) (by decide) (by decide) (Nat.le_of_ble_eq_true rfl) (c_in b 1 9) ?_
        refine z_ifeqB 68 d_X12_goes_56 (by decide) (fun hc5 => ?_) (fun hc5 => ?_)
        · refine z_iconst d_X12_goes_68 (by decide) ?_
          exact z_iret d_X12_goes_69 rfl er eh
        · refine z_aload_n d_X12_goes_59 rfl rfl ?_
          refine z_getf (v := qI (f 27)) d_X12_goes_60 fl_X12_323 rput_o rfl ?_
          refine z_eq rfl (qc (qi hK) rfl) rfl ?_
          refine z_bipush d_X12_goes_63 (by decide) ?_
          refine z_icmp_ne 70 d_X12_goes_65 (by decide) (fun hc6 => ?_) (fun hc6 => ?_)
          · exact absurd (by omega) hno
          · refine z_iconst d_X12_goes_68 (by decide) ?_
            exact z_iret d_X12_goes_69 rfl er eh
set_option maxRecDepth 20000 in
set_option maxHeartbeats 4000000 in
theorem c_goes_yes {h : qH} {m : Nat} {f : Nat → Int} {g : Nat → Nat → Int} {K : Nat} (p s a b : Int) (hm : 2 ≤ m) (h0 : f 0 = 0) (hK : f 27 = (K : Int)) (hK2 : K ≤ 8) (hok : ((0 ≤ p ∧ p ≤ 99) ∧ (0 ≤ s ∧ s ≤ 99) ∧ (-9 ≤ a ∧ a ≤ 9) ∧ (1 ≤ b ∧ b ≤ 9) ∧ K < 8)) : qEx M_X12_goes 0 [qR m, qI p, qI s, qI a, qI b] [] (rput h m f g) (some (qI ((K : Int) + 1))) (rput h m (qup f 27 ((K : Int) + 1)) (gup g 15 (row4 (g 15) (4 * K) p s a b))) := by
  refine q_gen (fun r hr er eh => ?_)
  refine z_aload_n d_X12_goes_0 rfl rfl ?_
  refine z_iconst d_X12_goes_1 (by decide) ?_
  refine z_putf (fs' := [qI 0, qI (f 1), qI (f 2), qI (f 3), qI (f 4), qI (f 5), qI (f 6), qI (f 7), qR (m + 1), qR (m + 2), qR (m + 3), qR (m + 4), qR (m + 5), qR (m + 6), qR (m + 7), qR (m + 8), qR (m + 9), qR (m + 10), qI (f 18), qI (f 19), qI (f 20), qR (m + 11), qR (m + 12), qR (m + 13), qR (m + 14), qI (f 25), qR (m + 15), qI (f 27), qR (m + 16), qR (m + 17), qR (m + 18), qR (m + 19), qR (m + 20), qR (m + 21), qR (m + 22), qR (m + 23), qR (m + 24), qI (f 37), qI (f 38), qI (f 39), qI (f 40), qR (m + 25), qR (m + 26), qR (m + 27), qR (m + 28), qR (m + 29), qR (m + 30), qR (m + 31), qI (f 48), qR (m + 32), qR (m + 33), qR (m + 34), qR (m + 35), qR (m + 36), qR (m + 37)]) d_X12_goes_2 fp_X12_127 rput_o (fun _ => rfl) (fun _ => rfl) (Nat.le_of_ble_eq_true rfl) rfl ?_
  refine z_eq rfl rfl ((rput_sf (f' := qup f 0 0) rfl).trans (rput_cg (qup_self h0) rfl)) ?_
  refine z_iload_n d_X12_goes_5 rfl rfl ?_
  refine z_iconst d_X12_goes_6 (by decide) ?_
  refine z_icmp_ne 17 d_X12_goes_7 (by decide) (fun hc1 => ?_) (fun hc1 => absurd hc1 (by omega))
  refine z_iload_n d_X12_goes_17 rfl rfl ?_
  refine z_iconst d_X12_goes_18 (by decide) ?_
  refine z_bipush d_X12_goes_19 (by decide) ?_
  refine z_cs (M1 := M_X12_in) d_X12_goes_21 ls_X12_137 k_X12_in [qI p, qI 0, qI 99] rfl rfl (Nat.le_of_ble_eq_true rfl) (by decide) (by decide) (Nat.le_of_ble_eq_true rfl) (c_in p 0 99) ?_
  refine z_ifeqB 68 d_X12_goes_24 (by decide) (fun hc2 => absurd hc2 (by omega)) (fun hc2 => ?_)
  refine z_iload_n d_X12_goes_27 rfl rfl ?_
  refine z_iconst d_X12_goes_28 (by decide) ?_
  refine z_bipush d_X12_goes_29 (by decide) ?_
  refine z_cs (M1 := M_X12_in) d_X12_goes_31 ls_X12_137 k_X12_in [qI s, qI 0, qI 99] rfl rfl (Nat.le_of_ble_eq_true rfl) (by decide) (by decide) (Nat.le_of_ble_eq_true rfl) (c_in s 0 99) ?_
  refine z_ifeqB 68 d_X12_goes_34 (by decide) (fun hc3 => absurd hc3 (by omega)) (fun hc3 => ?_)
  refine z_iload_n d_X12_goes_37 rfl rfl ?_
  refine z_bipush d_X12_goes_38 (by decide) ?_
  refine z_bipush d_X12_goes_40 (by decide) ?_
  refine z_cs (M1 := M_X12_in) d_X12_goes_42 ls_X12_137 k_X12_in [qI a, qI (-9), qI 9] rfl rfl (Nat.le_of_ble_eq_true rfl) (by decide) (by decide) (Nat.le_of_ble_eq_true rfl) (c_in a (-9) 9) ?_
  refine z_ifeqB 68 d_X12_goes_45 (by decide) (fun hc4 => absurd hc4 (by omega)) (fun hc4 => ?_)
  refine z_iload d_X12_goes_48 rfl ?_
  refine z_iconst d_X12_goes_50 (by decide) ?_
  refine z_bipush d_X12_goes_51 (by decide) ?_
  refine z_cs (M1 := M_X12_in) d_X12_goes_53 ls_X12_137 k_X12_in [qI b, qI 1, qI 9] rfl rfl (Nat.le_of_ble_eq_true rfl) (by decide) (by decide) (Nat.le_of_ble_eq_true rfl) (c_in b 1 9) ?_
  refine z_ifeqB 68 d_X12_goes_56 (by decide) (fun hc5 => absurd hc5 (by omega)) (fun hc5 => ?_)
  refine z_aload_n d_X12_goes_59 rfl rfl ?_
  refine z_getf (v := qI (f 27)) d_X12_goes_60 fl_X12_323 rput_o rfl ?_
  refine z_eq rfl (qc (qi hK) rfl) rfl ?_
  refine z_bipush d_X12_goes_63 (by decide) ?_
  refine z_icmp_ne 70 d_X12_goes_65 (by decide) (fun hc6 => ?_) (fun hc6 => absurd hc6 (by omega))
  refine z_aload_n d_X12_goes_70 rfl rfl ?_
  refine z_getf (v := qR (m + 15)) d_X12_goes_71 fl_X12_56 rput_o rfl ?_
  refine z_iconst d_X12_goes_74 (by decide) ?_
  refine z_aload_n d_X12_goes_75 rfl rfl ?_
  refine z_getf (v := qI (f 27)) d_X12_goes_76 fl_X12_323 rput_o rfl ?_
  refine z_eq rfl (qc (qi hK) rfl) rfl ?_
  refine z_imul d_X12_goes_79 (by omega) ?_
  refine z_iload_n d_X12_goes_80 rfl rfl ?_
  refine z_ist (4 * K) d_X12_goes_81 (rput_a2 15 (t := 0) (n := 32) (F := (g 15)) rfl rfl rfl (by decide) (by decide)) (by omega) rfl (by omega) ?_
  refine z_eq rfl rfl (rput_sa 15 rfl rfl (by decide) (by decide)) ?_
  refine z_aload_n d_X12_goes_82 rfl rfl ?_
  refine z_getf (v := qR (m + 15)) d_X12_goes_83 fl_X12_56 rput_o rfl ?_
  refine z_iconst d_X12_goes_86 (by decide) ?_
  refine z_aload_n d_X12_goes_87 rfl rfl ?_
  refine z_getf (v := qI (f 27)) d_X12_goes_88 fl_X12_323 rput_o rfl ?_
  refine z_eq rfl (qc (qi hK) rfl) rfl ?_
  refine z_imul d_X12_goes_91 (by omega) ?_
  refine z_iconst d_X12_goes_92 (by decide) ?_
  refine z_iadd d_X12_goes_93 (by omega) ?_
  refine z_iload_n d_X12_goes_94 rfl rfl ?_
  refine z_ist ((4 * K) + 1) d_X12_goes_95 (rput_a2 15 (t := 0) (n := 32) (F := (qup (g 15) (4 * K) p)) rfl rfl rfl (by decide) (by decide)) (by omega) rfl (by omega) ?_
  refine z_eq rfl rfl ((rput_sa 15 rfl rfl (by decide) (by decide)).trans (rput_cg rfl (gup_gup _ _ _))) ?_
  refine z_aload_n d_X12_goes_96 rfl rfl ?_
  refine z_getf (v := qR (m + 15)) d_X12_goes_97 fl_X12_56 rput_o rfl ?_
  refine z_iconst d_X12_goes_100 (by decide) ?_
  refine z_aload_n d_X12_goes_101 rfl rfl ?_
  refine z_getf (v := qI (f 27)) d_X12_goes_102 fl_X12_323 rput_o rfl ?_
  refine z_eq rfl (qc (qi hK) rfl) rfl ?_
  refine z_imul d_X12_goes_105 (by omega) ?_
  refine z_iconst d_X12_goes_106 (by decide) ?_
  refine z_iadd d_X12_goes_107 (by omega) ?_
  refine z_iload_n d_X12_goes_108 rfl rfl ?_
  refine z_ist ((4 * K) + 2) d_X12_goes_109 (rput_a2 15 (t := 0) (n := 32) (F := (qup (qup (g 15) (4 * K) p) ((4 * K) + 1) s)) rfl rfl rfl (by decide) (by decide)) (by omega) rfl (by omega) ?_
  refine z_eq rfl rfl ((rput_sa 15 rfl rfl (by decide) (by decide)).trans (rput_cg rfl (gup_gup _ _ _))) ?_
  refine z_aload_n d_X12_goes_110 rfl rfl ?_
  refine z_getf (v := qR (m + 15)) d_X12_goes_111 fl_X12_56 rput_o rfl ?_
  refine z_iconst d_X12_goes_114 (by decide) ?_
  refine z_aload_n d_X12_goes_115 rfl rfl ?_
  refine z_getf (v := qI (f 27)) d_X12_goes_116 fl_X12_323 rput_o rfl ?_
  refine z_eq rfl (qc (qi hK) rfl) rfl ?_
  refine z_imul d_X12_goes_119 (by omega) ?_
  refine z_iconst d_X12_goes_120 (by decide) ?_
  refine z_iadd d_X12_goes_121 (by omega) ?_
  refine z_iload d_X12_goes_122 rfl ?_
  refine z_ist ((4 * K) + 3) d_X12_goes_124 (rput_a2 15 (t := 0) (n := 32) (F := (qup (qup (qup (g 15) (4 * K) p) ((4 * K) + 1) s) ((4 * K) + 2) a)) rfl rfl rfl (by decide) (by decide)) (by omega) rfl (by omega) ?_
  refine z_eq rfl rfl ((rput_sa 15 rfl rfl (by decide) (by decide)).trans (rput_cg rfl (gup_gup _ _ _))) ?_
  refine z_aload_n d_X12_goes_125 rfl rfl ?_
  refine z_dup d_X12_goes_126 rfl ?_
  refine z_getf (v := qI (f 27)) d_X12_goes_127 fl_X12_323 rput_o rfl ?_
  refine z_eq rfl (qc (qi hK) rfl) rfl ?_
  refine z_iconst d_X12_goes_130 (by decide) ?_
  refine z_iadd d_X12_goes_131 (by omega) ?_
  refine z_putf (fs' := [qI (f 0), qI (f 1), qI (f 2), qI (f 3), qI (f 4), qI (f 5), qI (f 6), qI (f 7), qR (m + 1), qR (m + 2), qR (m + 3), qR (m + 4), qR (m + 5), qR (m + 6), qR (m + 7), qR (m + 8), qR (m + 9), qR (m + 10), qI (f 18), qI (f 19), qI (f 20), qR (m + 11), qR (m + 12), qR (m + 13), qR (m + 14), qI (f 25), qR (m + 15), qI ((K : Int) + 1), qR (m + 16), qR (m + 17), qR (m + 18), qR (m + 19), qR (m + 20), qR (m + 21), qR (m + 22), qR (m + 23), qR (m + 24), qI (f 37), qI (f 38), qI (f 39), qI (f 40), qR (m + 25), qR (m + 26), qR (m + 27), qR (m + 28), qR (m + 29), qR (m + 30), qR (m + 31), qI (f 48), qR (m + 32), qR (m + 33), qR (m + 34), qR (m + 35), qR (m + 36), qR (m + 37)]) d_X12_goes_132 fp_X12_323 rput_o (fun _ => rfl) (fun _ => rfl) (Nat.le_of_ble_eq_true rfl) rfl ?_
  refine z_eq rfl rfl (rput_sf (f' := (qup f 27 ((K : Int) + 1))) rfl) ?_
  refine z_aload_n d_X12_goes_135 rfl rfl ?_
  refine z_getf (v := qI ((K : Int) + 1)) d_X12_goes_136 fl_X12_323 rput_o rfl ?_
  exact z_iret d_X12_goes_139 rfl er eh
set_option maxRecDepth 20000 in
set_option maxHeartbeats 4000000 in
theorem c_keeps {h : qH} {m : Nat} {f : Nat → Int} {g : Nat → Nat → Int}  (hm : 2 ≤ m) (h0 : f 0 = 0) (hR : ∀ k, k < 4 → 0 ≤ g 5 k ∧ g 5 k ≤ 24) : qEx M_X12_keeps 0 [qR m] [] (rput h m f g) (some (qI (sm (qmx 4 (g 5) (g 6)) 4))) (rput h m f (gup (gup g 3 (qmx 384 (g 2) (g 3))) 6 (qmx 4 (g 5) (g 6)))) := by
  refine q_gen (fun r hr er eh => ?_)
  refine z_aload_n d_X12_keeps_0 rfl rfl ?_
  refine z_iconst d_X12_keeps_1 (by decide) ?_
  refine z_putf (fs' := [qI 0, qI (f 1), qI (f 2), qI (f 3), qI (f 4), qI (f 5), qI (f 6), qI (f 7), qR (m + 1), qR (m + 2), qR (m + 3), qR (m + 4), qR (m + 5), qR (m + 6), qR (m + 7), qR (m + 8), qR (m + 9), qR (m + 10), qI (f 18), qI (f 19), qI (f 20), qR (m + 11), qR (m + 12), qR (m + 13), qR (m + 14), qI (f 25), qR (m + 15), qI (f 27), qR (m + 16), qR (m + 17), qR (m + 18), qR (m + 19), qR (m + 20), qR (m + 21), qR (m + 22), qR (m + 23), qR (m + 24), qI (f 37), qI (f 38), qI (f 39), qI (f 40), qR (m + 25), qR (m + 26), qR (m + 27), qR (m + 28), qR (m + 29), qR (m + 30), qR (m + 31), qI (f 48), qR (m + 32), qR (m + 33), qR (m + 34), qR (m + 35), qR (m + 36), qR (m + 37)]) d_X12_keeps_2 fp_X12_127 rput_o (fun _ => rfl) (fun _ => rfl) (Nat.le_of_ble_eq_true rfl) rfl ?_
  refine z_eq rfl rfl ((rput_sf (f' := qup f 0 0) rfl).trans (rput_cg (qup_self h0) rfl)) ?_
  refine z_aload_n d_X12_keeps_5 rfl rfl ?_
  refine z_getf (v := qR (m + 2)) d_X12_keeps_6 fl_X12_17 rput_o rfl ?_
  refine z_aload_n d_X12_keeps_9 rfl rfl ?_
  refine z_getf (v := qR (m + 3)) d_X12_keeps_10 fl_X12_20 rput_o rfl ?_
  refine z_cs0 (M1 := M_X12_copies) d_X12_keeps_13 ls_X12_249 k_X12_copies [qR (m + 2), qR (m + 3)] rfl rfl (Nat.le_of_ble_eq_true rfl) (by decide) (by decide) (Nat.le_of_ble_eq_true rfl) (c_copies (rput_a2 2 (t := 0) (n := 384) (F := (g 2)) rfl rfl rfl (by decide) (by decide)) (rput_a2 3 (t := 0) (n := 384) (F := (g 3)) rfl rfl rfl (by decide) (by decide)) (by omega) (by omega) (by decide) (by decide)) ?_
  refine z_eq rfl rfl (rput_sa 3 rfl rfl (by decide) (by decide)) ?_
  refine z_aload_n d_X12_keeps_16 rfl rfl ?_
  refine z_getf (v := qR (m + 5)) d_X12_keeps_17 fl_X12_26 rput_o rfl ?_
  refine z_aload_n d_X12_keeps_20 rfl rfl ?_
  refine z_getf (v := qR (m + 6)) d_X12_keeps_21 fl_X12_29 rput_o rfl ?_
  refine z_cs0 (M1 := M_X12_copies) d_X12_keeps_24 ls_X12_249 k_X12_copies [qR (m + 5), qR (m + 6)] rfl rfl (Nat.le_of_ble_eq_true rfl) (by decide) (by decide) (Nat.le_of_ble_eq_true rfl) (c_copies (rput_a2 5 (t := 0) (n := 4) (F := (g 5)) rfl rfl rfl (by decide) (by decide)) (rput_a2 6 (t := 0) (n := 4) (F := (g 6)) rfl rfl rfl (by decide) (by decide)) (by omega) (by omega) (by decide) (by decide)) ?_
  refine z_eq rfl rfl (rput_sa 6 rfl rfl (by decide) (by decide)) ?_
  refine z_aload_n d_X12_keeps_27 rfl rfl ?_
  refine z_getf (v := qR (m + 6)) d_X12_keeps_28 fl_X12_29 rput_o rfl ?_
  refine z_cs (M1 := M_X12_sumOf) d_X12_keeps_31 ls_X12_278 k_X12_sumOf [qR (m + 6)] rfl rfl (Nat.le_of_ble_eq_true rfl) (by decide) (by decide) (Nat.le_of_ble_eq_true rfl) (c_sumOf (rput_a2 6 (t := 0) (n := 4) (F := (qmx 4 (g 5) (g 6))) rfl rfl rfl (by decide) (by decide)) (by decide) (fun k hk => by rw [qmx_lt hk]; exact ⟨(hR k hk).1, by have := (hR k hk).2; omega⟩)) ?_
  exact z_iret d_X12_keeps_34 rfl er eh
set_option maxRecDepth 20000 in
set_option maxHeartbeats 4000000 in
theorem c_isRule {h : qH} {m : Nat} {f : Nat → Int} {g : Nat → Nat → Int} (i : Int) (hm : 2 ≤ m)  : qEx M_X12_isRule 0 [qR m, qI i] [] (rput h m f g) (some (qI (qb (0 ≤ i ∧ i ≤ 95 ∧ i % 24 < g 5 (i.toNat / 24))))) (rput h m f g) := by
  refine q_gen (fun r hr er eh => ?_)
  refine z_iload_n d_X12_isRule_0 rfl rfl ?_
  refine z_iconst d_X12_isRule_1 (by decide) ?_
  refine z_bipush d_X12_isRule_2 (by decide) ?_
  refine z_cs (M1 := M_X12_in) d_X12_isRule_4 ls_X12_137 k_X12_in [qI i, qI 0, qI 95] rfl rfl (Nat.le_of_ble_eq_true rfl) (by decide) (by decide) (Nat.le_of_ble_eq_true rfl) (c_in i 0 95) ?_
  refine z_ifeqB 30 d_X12_isRule_7 (by decide) (fun ha => ?_) (fun ha => ?_)
  · refine z_iconst d_X12_isRule_30 (by decide) ?_
    exact z_zret d_X12_isRule_31 rfl (by first | exact qb_01 _ | decide | omega) (qer er (qb_f (fun z => by first | omega | (rw [Int.tmod_eq_emod_of_nonneg (by omega)] at hb; omega)))) eh
  · refine z_iload_n d_X12_isRule_10 rfl rfl ?_
    refine z_bipush d_X12_isRule_11 (by decide) ?_
    refine z_irem d_X12_isRule_13 (by omega) ?_
    refine z_aload_n d_X12_isRule_14 rfl rfl ?_
    refine z_getf (v := qR (m + 5)) d_X12_isRule_15 fl_X12_26 rput_o rfl ?_
    refine z_iload_n d_X12_isRule_18 rfl rfl ?_
    refine z_bipush d_X12_isRule_19 (by decide) ?_
    refine z_idiv d_X12_isRule_21 (by omega) ?_
    refine z_ild (i.toNat / 24) d_X12_isRule_22 (rput_a2 5 (t := 0) (n := 4) (F := (g 5)) rfl rfl rfl (by decide) (by decide)) (by rw [Int.tdiv_eq_ediv_of_nonneg (by omega)]; omega) (by omega) ?_
    refine z_icmp_ge 30 d_X12_isRule_23 (by decide) (fun hb => ?_) (fun hb => ?_)
    · refine z_iconst d_X12_isRule_30 (by decide) ?_
      exact z_zret d_X12_isRule_31 rfl (by first | exact qb_01 _ | decide | omega) (qer er (qb_f (fun z => by first | omega | (rw [Int.tmod_eq_emod_of_nonneg (by omega)] at hb; omega)))) eh
    · refine z_iconst d_X12_isRule_26 (by decide) ?_
      refine z_goto 31 d_X12_isRule_27 (by decide) ?_
      exact z_zret d_X12_isRule_31 rfl (by first | exact qb_01 _ | decide | omega) (qer er (qb_t (by rw [Int.tmod_eq_emod_of_nonneg (by omega)] at hb; exact ⟨by omega, by omega, by omega⟩))) eh
