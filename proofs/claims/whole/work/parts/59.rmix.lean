/-! ===== CONTRACTS: the reference: mixes, mixed, unlike, more ===== -/
section BookAgree
variable {R R' C C' : Nat → Int}
theorem bkP_cg (hR : ∀ k, k < 384 → R k = R' k) (hC : ∀ p, p < 4 → C p = C' p) {pg wo : Int} {o l r i : Nat} (hi : i < 96) : bkP R C pg wo o l r i ↔ bkP R' C' pg wo o l r i := by
  unfold bkP bkA bkFt
  rw [hR (4 * i) (by omega), hR (4 * i + 1) (by omega), hR (4 * i + 2) (by omega), hC (i / 24) (by omega)]
theorem bkF_cg (hR : ∀ k, k < 384 → R k = R' k) (hC : ∀ p, p < 4 → C p = C' p) {pg wo : Int} {o l r : Nat} : bkF R C pg wo o l r = bkF R' C' pg wo o l r := by
  unfold bkF
  rw [fst_congr (fun i hi => bkP_cg hR hC (pg := pg) (wo := wo) (o := o) (l := l) (r := r) hi)]
theorem bkT_cg (hR : ∀ k, k < 384 → R k = R' k) (hC : ∀ p, p < 4 → C p = C' p) {pg wo ch sy : Int} {o l r : Nat} : bkT R C pg wo ch sy o l r = bkT R' C' pg wo ch sy o l r := by
  have hb := bkF_bd R' C' pg wo o l r
  have e : bkM R C pg wo ch sy o l r = bkM R' C' pg wo ch sy o l r := by
    unfold bkM
    rw [bkF_cg hR hC]
    by_cases h : bkF R' C' pg wo o l r ≠ -1
    · rw [qif_t h, qif_t h, hR (4 * (bkF R' C' pg wo o l r).toNat + 3) (by omega)]
    · rw [qif_f h, qif_f h]
  unfold bkT
  rw [e]
theorem bkTc_cg (hR : ∀ k, k < 384 → R k = R' k) (hC : ∀ p, p < 4 → C p = C' p) {pg wo ch sy : Int} (c : Nat) : bkTc R C pg wo ch sy c = bkTc R' C' pg wo ch sy c := bkT_cg hR hC
theorem bkFc_cg (hR : ∀ k, k < 384 → R k = R' k) (hC : ∀ p, p < 4 → C p = C' p) {pg wo : Int} (c : Nat) : bkFc R C pg wo c = bkFc R' C' pg wo c := bkF_cg hR hC
end BookAgree
/-- a book mixed of the own one and the other -/
noncomputable def mxR (g : Nat → Nat → Int) (s : Int) (k : Nat) : Int := qif (tb s (k / 96) = true) (g 3 k) (g 2 k)
noncomputable def mxC (g : Nat → Nat → Int) (s : Int) (p : Nat) : Int := qif (tb s p = true) (g 6 p) (g 5 p)
noncomputable def mxT (g : Nat → Nat → Int) (s : Int) : Nat → Int := bkTc (mxR g s) (mxC g s) 15 (-1) (-1) 0
theorem mx_ok {g : Nat → Nat → Int} {s : Int} (h1 : bkOk (g 2) (g 5)) (h2 : bkOk (g 3) (g 6)) : bkOk (mxR g s) (mxC g s) := by
  intro i hi hc
  unfold mxC at hc
  unfold mxR
  rw [show (4 * i + 3) / 96 = i / 24 by omega]
  by_cases h : tb s (i / 24) = true
  · rw [qif_t h] at hc ⊢
    exact h2 i hi hc
  · rw [qif_f h] at hc ⊢
    exact h1 i hi hc
set_option maxRecDepth 20000 in
set_option maxHeartbeats 1000000 in
theorem c_mixes {h : qH} {m : Nat} {f : Nat → Int} {g : Nat → Nat → Int} (s : Int) (hm : 2 ≤ m)  : ∃ g', (fr [35, 36] g g' ∧ (∀ k, k < 384 → g' 35 k = mxR g s k) ∧ ∀ q, q < 4 → g' 36 q = mxC g s q) ∧ qEx M_X12_mixes 0 [qR m, qI s, qU, qU, qU] [] (rput h m f g) none (rput h m f g') := by
  refine y_in (fun Q hQ => ?_)
  refine qy (fun _ _ k9 => z_iconst d_X12_mixes_0 (by decide) k9) ?_
  refine qy (fun _ _ k9 => z_istore_n (ls' := [qR m, qI s, qI 0, qU, qU]) d_X12_mixes_1 rfl (by decide) rfl k9) ?_
  refine qy (fun _ _ k9 => z_eq (qc rfl (qc rfl (qc (qi (by omega)) (qc rfl (qc rfl rfl))))) rfl rfl k9) (y_wh2 (fun (p : Nat) (x : Nat → Nat → Int) => 4 - p) (fun (p : Nat) (x : Nat → Nat → Int) => [qR m, qI s, qI (p : Int), qU, qU]) (fun (p : Nat) (x : Nat → Nat → Int) => (rput h m f x)) (fun (p : Nat) (x : Nat → Nat → Int) => p ≤ 4 ∧ fr [35, 36] g x ∧ (∀ k, k < 96 * p → x 35 k = mxR g s k) ∧ ∀ q, q < p → x 36 q = mxC g s q) 0 g (⟨by omega, fr_rf, fun k hk => absurd hk (by omega), fun k hk => absurd hk (by omega)⟩) (fun p x hp kk => ?_))
  obtain ⟨hp4, hs, hR, hC⟩ := hp
  show qEy M_X12_mixes 2 [qR m, qI s, qI (p : Int), qU, qU] [] (rput h m f x) Q
  refine qy (fun _ _ k9 => z_iload_n d_X12_mixes_2 rfl rfl k9) ?_
  refine qy (fun _ _ k9 => z_iconst d_X12_mixes_3 (by decide) k9) ?_
  refine qy2 (fun _ _ => z_icmp_ge 103 d_X12_mixes_4 (by decide)) (fun hc1 => ?_) (fun hc1 => ?_)
  · exact y_ret (hQ x (⟨hs, fun k hk => hR k (by omega), fun q hq => hC q (by omega)⟩)) (z_vret d_X12_mixes_103 rfl rfl rfl)
  · refine qy (fun _ _ k9 => z_iload_n d_X12_mixes_7 rfl rfl k9) ?_
    refine qy (fun _ _ k9 => z_iload_n d_X12_mixes_8 rfl rfl k9) ?_
    refine qy (fun _ _ k9 => z_cs (M1 := M_X12_has) d_X12_mixes_9 ls_X12_259 k_X12_has [qI s, qI (p : Int)] rfl rfl (Nat.le_of_ble_eq_true rfl) (by decide) (by decide) (Nat.le_of_ble_eq_true rfl) (c_has s p (by omega)) k9) ?_
    refine qy (fun _ _ k9 => z_istore_n (ls' := [qR m, qI s, qI (p : Int), qI (qb (tb s p = true)), qU]) d_X12_mixes_12 rfl (by decide) rfl k9) ?_
    refine qy (fun _ _ k9 => z_aload_n d_X12_mixes_13 rfl rfl k9) ?_
    refine qy (fun _ _ k9 => z_getf (v := qR (m + 36)) d_X12_mixes_14 fl_X12_121 rput_o rfl k9) ?_
    refine qy (fun _ _ k9 => z_iload_n d_X12_mixes_17 rfl rfl k9) ?_
    refine qy (fun _ _ k9 => z_iload_n d_X12_mixes_18 rfl rfl k9) ?_
    suffices kJ19 : qEy M_X12_mixes 37 [qR m, qI s, qI (p : Int), qI (qb (tb s p = true)), qU] [qI (qif (¬ (tb s p = true)) ((x 5) p) ((x 6) p)), qI (p : Int), qR (m + 36)] (rput h m f x) Q by
      refine qy2n (fun _ _ => z_ifeqB 31 d_X12_mixes_19 (by decide)) (fun hc2 => ?_) (fun hc2 => ?_)
      · refine qy (fun _ _ k9 => z_aload_n d_X12_mixes_31 rfl rfl k9) ?_
        refine qy (fun _ _ k9 => z_getf (v := qR (m + 5)) d_X12_mixes_32 fl_X12_26 rput_o rfl k9) ?_
        refine qy (fun _ _ k9 => z_iload_n d_X12_mixes_35 rfl rfl k9) ?_
        refine qy (fun _ _ k9 => z_ild p d_X12_mixes_36 (rput_a2 5 (t := 0) (n := 4) (F := (x 5)) rfl rfl rfl (by decide) (by decide)) rfl (by omega) k9) ?_
        exact qy (fun _ _ k9 => z_eq rfl (qc (qi (qif_t hc2).symm) (qc rfl (qc rfl rfl))) rfl k9) kJ19
      · refine qy (fun _ _ k9 => z_aload_n d_X12_mixes_22 rfl rfl k9) ?_
        refine qy (fun _ _ k9 => z_getf (v := qR (m + 6)) d_X12_mixes_23 fl_X12_29 rput_o rfl k9) ?_
        refine qy (fun _ _ k9 => z_iload_n d_X12_mixes_26 rfl rfl k9) ?_
        refine qy (fun _ _ k9 => z_ild p d_X12_mixes_27 (rput_a2 6 (t := 0) (n := 4) (F := (x 6)) rfl rfl rfl (by decide) (by decide)) rfl (by omega) k9) ?_
        refine qy (fun _ _ k9 => z_goto 37 d_X12_mixes_28 (by decide) k9) ?_
        exact qy (fun _ _ k9 => z_eq rfl (qc (qi (qif_f (fun z => z hc2)).symm) (qc rfl (qc rfl rfl))) rfl k9) kJ19
    refine qy (fun _ _ k9 => z_ist p d_X12_mixes_37 (rput_a2 36 (t := 0) (n := 4) (F := (x 36)) rfl rfl rfl (by decide) (by decide)) (by omega) rfl (by omega) k9) ?_
    refine qy (fun _ _ k9 => z_eq rfl rfl (rput_sa 36 rfl rfl (by decide) (by decide)) k9) ?_
    refine qy (fun _ _ k9 => z_iconst d_X12_mixes_38 (by decide) k9) ?_
    refine qy (fun _ _ k9 => z_istore (ls' := [qR m, qI s, qI (p : Int), qI (qb (tb s p = true)), qI 0]) d_X12_mixes_39 (by decide) rfl k9) ?_
    have hCn : ∀ q, q < p + 1 → qup (x 36) p (qif (¬ tb s p = true) (x 5 p) (x 6 p)) q = mxC g s q := fun q hq => if e : q = p then (by rw [e, qup_eq, qif_not, hs 5 (by decide), hs 6 (by decide)]; rfl) else (by rw [qup_ne e]; exact hC q (by omega))
    refine qy (fun _ _ k9 => z_eq (qc rfl (qc rfl (qc rfl (qc rfl (qc (qi (by omega)) rfl))))) rfl rfl k9) (y_wh2 (fun (k : Nat) (z : Nat → Nat → Int) => 96 - k) (fun (k : Nat) (z : Nat → Nat → Int) => [qR m, qI s, qI (p : Int), qI (qb (tb s p = true)), qI (k : Int)]) (fun (k : Nat) (z : Nat → Nat → Int) => (rput h m f z)) (fun (k : Nat) (z : Nat → Nat → Int) => k ≤ 96 ∧ fr [35, 36] g z ∧ (∀ q, q < 96 * p + k → z 35 q = mxR g s q) ∧ ∀ q, q < p + 1 → z 36 q = mxC g s q) 0 (gup x 36 (qup (x 36) p (qif (¬ (tb s p = true)) ((x 5) p) ((x 6) p)))) (⟨by omega, fr_up hs (by decide), fun q hq => hR q (by omega), hCn⟩) (fun k z hpk kkk => ?_))
    obtain ⟨hk, hs2, hR2, hC2⟩ := hpk
    show qEy M_X12_mixes 41 [qR m, qI s, qI (p : Int), qI (qb (tb s p = true)), qI (k : Int)] [] (rput h m f z) Q
    refine qy (fun _ _ k9 => z_iload d_X12_mixes_41 rfl k9) ?_
    refine qy (fun _ _ k9 => z_bipush d_X12_mixes_43 (by decide) k9) ?_
    refine qy2 (fun _ _ => z_icmp_ge 97 d_X12_mixes_45 (by decide)) (fun hc3 => ?_) (fun hc3 => ?_)
    · refine qy (fun _ _ k9 => z_iinc (ls' := [qR m, qI s, qI ((p : Int) + 1), qI (qb (tb s p = true)), qI (k : Int)]) d_X12_mixes_97 rfl (by decide) (by omega) rfl k9) ?_
      refine qy (fun _ _ k9 => z_goto 2 d_X12_mixes_100 (by decide) k9) ?_
      exact qy (fun _ _ k9 => z_dr (qle_k rfl (qle_k rfl (qle_k (qi (by omega)) (qle_d (qle_d qle_n))))) rfl rfl k9) (kk (p + 1) z (⟨by omega, hs2, fun k hk => hR2 k (by omega), hC2⟩) (by omega))
    · refine qy (fun _ _ k9 => z_aload_n d_X12_mixes_48 rfl rfl k9) ?_
      refine qy (fun _ _ k9 => z_getf (v := qR (m + 35)) d_X12_mixes_49 fl_X12_118 rput_o rfl k9) ?_
      refine qy (fun _ _ k9 => z_bipush d_X12_mixes_52 (by decide) k9) ?_
      refine qy (fun _ _ k9 => z_iload_n d_X12_mixes_54 rfl rfl k9) ?_
      refine qy (fun _ _ k9 => z_imul d_X12_mixes_55 (by omega) k9) ?_
      refine qy (fun _ _ k9 => z_iload d_X12_mixes_56 rfl k9) ?_
      refine qy (fun _ _ k9 => z_iadd d_X12_mixes_58 (by omega) k9) ?_
      refine qy (fun _ _ k9 => z_iload_n d_X12_mixes_59 rfl rfl k9) ?_
      suffices kJ60 : qEy M_X12_mixes 90 [qR m, qI s, qI (p : Int), qI (qb (tb s p = true)), qI (k : Int)] [qI (qif (¬ (tb s p = true)) ((z 2) ((96 * p) + k)) ((z 3) ((96 * p) + k))), qI ((96 * (p : Int)) + (k : Int)), qR (m + 35)] (rput h m f z) Q by
        refine qy2n (fun _ _ => z_ifeqB 78 d_X12_mixes_60 (by decide)) (fun hc4 => ?_) (fun hc4 => ?_)
        · refine qy (fun _ _ k9 => z_aload_n d_X12_mixes_78 rfl rfl k9) ?_
          refine qy (fun _ _ k9 => z_getf (v := qR (m + 2)) d_X12_mixes_79 fl_X12_17 rput_o rfl k9) ?_
          refine qy (fun _ _ k9 => z_bipush d_X12_mixes_82 (by decide) k9) ?_
          refine qy (fun _ _ k9 => z_iload_n d_X12_mixes_84 rfl rfl k9) ?_
          refine qy (fun _ _ k9 => z_imul d_X12_mixes_85 (by omega) k9) ?_
          refine qy (fun _ _ k9 => z_iload d_X12_mixes_86 rfl k9) ?_
          refine qy (fun _ _ k9 => z_iadd d_X12_mixes_88 (by omega) k9) ?_
          refine qy (fun _ _ k9 => z_ild ((96 * p) + k) d_X12_mixes_89 (rput_a2 2 (t := 0) (n := 384) (F := (z 2)) rfl rfl rfl (by decide) (by decide)) rfl (by omega) k9) ?_
          exact qy (fun _ _ k9 => z_eq rfl (qc (qi (qif_t hc4).symm) (qc rfl (qc rfl rfl))) rfl k9) kJ60
        · refine qy (fun _ _ k9 => z_aload_n d_X12_mixes_63 rfl rfl k9) ?_
          refine qy (fun _ _ k9 => z_getf (v := qR (m + 3)) d_X12_mixes_64 fl_X12_20 rput_o rfl k9) ?_
          refine qy (fun _ _ k9 => z_bipush d_X12_mixes_67 (by decide) k9) ?_
          refine qy (fun _ _ k9 => z_iload_n d_X12_mixes_69 rfl rfl k9) ?_
          refine qy (fun _ _ k9 => z_imul d_X12_mixes_70 (by omega) k9) ?_
          refine qy (fun _ _ k9 => z_iload d_X12_mixes_71 rfl k9) ?_
          refine qy (fun _ _ k9 => z_iadd d_X12_mixes_73 (by omega) k9) ?_
          refine qy (fun _ _ k9 => z_ild ((96 * p) + k) d_X12_mixes_74 (rput_a2 3 (t := 0) (n := 384) (F := (z 3)) rfl rfl rfl (by decide) (by decide)) rfl (by omega) k9) ?_
          refine qy (fun _ _ k9 => z_goto 90 d_X12_mixes_75 (by decide) k9) ?_
          exact qy (fun _ _ k9 => z_eq rfl (qc (qi (qif_f (fun z => z hc4)).symm) (qc rfl (qc rfl rfl))) rfl k9) kJ60
      refine qy (fun _ _ k9 => z_ist ((96 * p) + k) d_X12_mixes_90 (rput_a2 35 (t := 0) (n := 384) (F := (z 35)) rfl rfl rfl (by decide) (by decide)) (by omega) rfl (by omega) k9) ?_
      refine qy (fun _ _ k9 => z_eq rfl rfl (rput_sa 35 rfl rfl (by decide) (by decide)) k9) ?_
      refine qy (fun _ _ k9 => z_iinc (ls' := [qR m, qI s, qI (p : Int), qI (qb (tb s p = true)), qI ((k : Int) + 1)]) d_X12_mixes_91 rfl (by decide) (by omega) rfl k9) ?_
      refine qy (fun _ _ k9 => z_goto 41 d_X12_mixes_94 (by decide) k9) ?_
      exact qy (fun _ _ k9 => z_eq (qc rfl (qc rfl (qc rfl (qc rfl (qc (qi (by omega)) rfl))))) rfl rfl k9) (kkk (k + 1) (gup z 35 (qup (z 35) ((96 * p) + k) (qif (¬ (tb s p = true)) ((z 2) ((96 * p) + k)) ((z 3) ((96 * p) + k))))) (⟨by omega, fr_up hs2 (by decide), fun q hq => if e : q = 96 * p + k then (by show qup (z 35) (96 * p + k) _ q = _; rw [e, qup_eq, qif_not, hs2 2 (by decide), hs2 3 (by decide)]; unfold mxR; rw [show (96 * p + k) / 96 = p by omega]) else (by show qup (z 35) (96 * p + k) _ q = _; rw [qup_ne e]; exact hR2 q (by omega)), hC2⟩) (by omega))
set_option maxRecDepth 20000 in
set_option maxHeartbeats 1000000 in
theorem c_mixed {h : qH} {m : Nat} {f : Nat → Int} {g : Nat → Nat → Int} {to : Nat} (what : Int) (hm : 2 ≤ m) (h0 : f 0 = 0) (ht : 1 ≤ to ∧ to ≤ 24) (hw : 0 ≤ what ∧ what ≤ 1) (hO : bkOk (g 2) (g 5)) (hO2 : bkOk (g 3) (g 6)) : ∃ g', (sq g g') ∧ qEx M_X12_mixed 0 [qR m, qI (to : Int), qI what, qU, qU, qU] [] (rput h m f g) (some (qI (qif (what ≠ 0) (fst (fun q9 : Nat => fbR (mxT g (q9 : Int)) to = -1) 16) (cnt (fun q9 : Nat => fbR (mxT g (q9 : Int)) to = -1) 16)))) (rput h m f g') := by
  refine y_in (fun Q hQ => ?_)
  refine qy (fun _ _ k9 => z_aload_n d_X12_mixed_0 rfl rfl k9) ?_
  refine qy (fun _ _ k9 => z_iconst d_X12_mixed_1 (by decide) k9) ?_
  refine qy (fun _ _ k9 => z_putf (fs' := [qI 0, qI (f 1), qI (f 2), qI (f 3), qI (f 4), qI (f 5), qI (f 6), qI (f 7), qR (m + 1), qR (m + 2), qR (m + 3), qR (m + 4), qR (m + 5), qR (m + 6), qR (m + 7), qR (m + 8), qR (m + 9), qR (m + 10), qI (f 18), qI (f 19), qI (f 20), qR (m + 11), qR (m + 12), qR (m + 13), qR (m + 14), qI (f 25), qR (m + 15), qI (f 27), qR (m + 16), qR (m + 17), qR (m + 18), qR (m + 19), qR (m + 20), qR (m + 21), qR (m + 22), qR (m + 23), qR (m + 24), qI (f 37), qI (f 38), qI (f 39), qI (f 40), qR (m + 25), qR (m + 26), qR (m + 27), qR (m + 28), qR (m + 29), qR (m + 30), qR (m + 31), qI (f 48), qR (m + 32), qR (m + 33), qR (m + 34), qR (m + 35), qR (m + 36), qR (m + 37)]) d_X12_mixed_2 fp_X12_127 rput_o (fun _ => rfl) (fun _ => rfl) (Nat.le_of_ble_eq_true rfl) rfl k9) ?_
  refine qy (fun _ _ k9 => z_eq rfl rfl ((rput_sf (f' := qup f 0 0) rfl).trans (rput_cg (qup_self h0) rfl)) k9) ?_
  refine qy (fun _ _ k9 => z_iload_n d_X12_mixed_5 rfl rfl k9) ?_
  refine qy (fun _ _ k9 => z_iconst d_X12_mixed_6 (by decide) k9) ?_
  refine qy (fun _ _ k9 => z_bipush d_X12_mixed_7 (by decide) k9) ?_
  refine qy (fun _ _ k9 => z_cs (M1 := M_X12_in) d_X12_mixed_9 ls_X12_137 k_X12_in [qI (to : Int), qI 1, qI 24] rfl rfl (Nat.le_of_ble_eq_true rfl) (by decide) (by decide) (Nat.le_of_ble_eq_true rfl) (c_in (to : Int) 1 24) k9) ?_
  refine qy2n (fun _ _ => z_ifeqB 24 d_X12_mixed_12 (by decide)) (fun hc1 => absurd hc1 (by omega)) (fun hc1 => ?_)
  refine qy (fun _ _ k9 => z_iload_n d_X12_mixed_15 rfl rfl k9) ?_
  refine qy (fun _ _ k9 => z_iconst d_X12_mixed_16 (by decide) k9) ?_
  refine qy (fun _ _ k9 => z_iconst d_X12_mixed_17 (by decide) k9) ?_
  refine qy (fun _ _ k9 => z_cs (M1 := M_X12_in) d_X12_mixed_18 ls_X12_137 k_X12_in [qI what, qI 0, qI 1] rfl rfl (Nat.le_of_ble_eq_true rfl) (by decide) (by decide) (Nat.le_of_ble_eq_true rfl) (c_in what 0 1) k9) ?_
  refine qy2 (fun _ _ => z_ifneB 26 d_X12_mixed_21 (by decide)) (fun hc2 => ?_) (fun hc2 => absurd hc2 (by omega))
  refine qy (fun _ _ k9 => z_iconst d_X12_mixed_26 (by decide) k9) ?_
  refine qy (fun _ _ k9 => z_istore_n (ls' := [qR m, qI (to : Int), qI what, qI 0, qU, qU]) d_X12_mixed_27 rfl (by decide) rfl k9) ?_
  refine qy (fun _ _ k9 => z_iconst d_X12_mixed_28 (by decide) k9) ?_
  refine qy (fun _ _ k9 => z_istore (ls' := [qR m, qI (to : Int), qI what, qI 0, qI (-1), qU]) d_X12_mixed_29 (by decide) rfl k9) ?_
  refine qy (fun _ _ k9 => z_bipush d_X12_mixed_31 (by decide) k9) ?_
  refine qy (fun _ _ k9 => z_istore (ls' := [qR m, qI (to : Int), qI what, qI 0, qI (-1), qI 15]) d_X12_mixed_33 (by decide) rfl k9) ?_
  refine qy (fun _ _ k9 => z_eq (qc rfl (qc rfl (qc rfl (qc (qi (by show (0 : Int) = cnt _ 16 - cnt _ 16; omega)) (qc (qi (rfl)) (qc (qi (by omega)) rfl)))))) rfl rfl k9) (y_wh2 (fun (j : Nat) (x : Nat → Nat → Int) => 16 - j) (fun (j : Nat) (x : Nat → Nat → Int) => [qR m, qI (to : Int), qI what, qI (cnt (fun q9 : Nat => fbR (mxT g (q9 : Int)) to = -1) 16 - cnt (fun q9 : Nat => fbR (mxT g (q9 : Int)) to = -1) (16 - j)), qI (fstF (fun q9 : Nat => fbR (mxT g (q9 : Int)) to = -1) j (16 - j)), qI (15 - (j : Int))]) (fun (j : Nat) (x : Nat → Nat → Int) => (rput h m f x)) (fun (j : Nat) (x : Nat → Nat → Int) => j ≤ 16 ∧ sq g x) 0 g (⟨by omega, sq_rf⟩) (fun j x hp kk => ?_))
  obtain ⟨hj, hs⟩ := hp
  show qEy M_X12_mixed 35 [qR m, qI (to : Int), qI what, qI (cnt (fun q9 : Nat => fbR (mxT g (q9 : Int)) to = -1) 16 - cnt (fun q9 : Nat => fbR (mxT g (q9 : Int)) to = -1) (16 - j)), qI (fstF (fun q9 : Nat => fbR (mxT g (q9 : Int)) to = -1) j (16 - j)), qI (15 - (j : Int))] [] (rput h m f x) Q
  have hc1 := cnt_bd (fun q9 : Nat => fbR (mxT g (q9 : Int)) to = -1) 16
  have hc2 := cnt_bd (fun q9 : Nat => fbR (mxT g (q9 : Int)) to = -1) (16 - j)
  refine qy (fun _ _ k9 => z_iload d_X12_mixed_35 rfl k9) ?_
  refine qy2 (fun _ _ => z_if_lt 92 d_X12_mixed_37 (by decide)) (fun hc3 => ?_) (fun hc3 => ?_)
  · refine qy (fun _ _ k9 => z_iload_n d_X12_mixed_92 rfl rfl k9) ?_
    suffices kJ93 : qEy M_X12_mixed 102 [qR m, qI (to : Int), qI what, qI (cnt (fun q9 : Nat => fbR (mxT g (q9 : Int)) to = -1) 16 - cnt (fun q9 : Nat => fbR (mxT g (q9 : Int)) to = -1) (16 - j)), qI (fstF (fun q9 : Nat => fbR (mxT g (q9 : Int)) to = -1) j (16 - j)), qI (15 - (j : Int))] [qI (qif (what ≠ 0) (fstF (fun q9 : Nat => fbR (mxT g (q9 : Int)) to = -1) j (16 - j)) (cnt (fun q9 : Nat => fbR (mxT g (q9 : Int)) to = -1) 16 - cnt (fun q9 : Nat => fbR (mxT g (q9 : Int)) to = -1) (16 - j)))] (rput h m f x) Q by
      refine qy2 (fun _ _ => z_if_ne 100 d_X12_mixed_93 (by decide)) (fun hc4 => ?_) (fun hc4 => ?_)
      · refine qy (fun _ _ k9 => z_iload d_X12_mixed_100 rfl k9) ?_
        exact qy (fun _ _ k9 => z_eq rfl (qc (qi (qif_t hc4).symm) rfl) rfl k9) kJ93
      · refine qy (fun _ _ k9 => z_iload_n d_X12_mixed_96 rfl rfl k9) ?_
        refine qy (fun _ _ k9 => z_goto 102 d_X12_mixed_97 (by decide) k9) ?_
        exact qy (fun _ _ k9 => z_eq rfl (qc (qi (qif_f hc4).symm) rfl) rfl k9) kJ93
    exact y_ret (hQ x hs) (z_iret d_X12_mixed_102 rfl (qsi (by rw [show j = 16 by omega]; exact qif_cg Iff.rfl rfl (by show cnt _ 16 = cnt _ 16 - 0; omega))) rfl)
  · refine qy (fun _ _ k9 => z_aload_n d_X12_mixed_40 rfl rfl k9) ?_
    refine qy (fun _ _ k9 => z_iload d_X12_mixed_41 rfl k9) ?_
    obtain ⟨y1, ⟨hmf, hmR, hmC⟩, hx1⟩ := c_mixes (h := h) (f := f) (15 - (j : Int)) hm
    refine qy (fun _ _ k9 => z_cv0 (M1 := M_X12_mixes) d_X12_mixed_43 lv_X12_401 k_X12_mixes [qI (15 - (j : Int))] rfl rfl rput_o ⟨_, _, rfl⟩ (Nat.le_of_ble_eq_true rfl) (by decide) (by decide) (Nat.le_of_ble_eq_true rfl) hx1 k9) ?_
    refine qy (fun _ _ k9 => z_aload_n d_X12_mixed_46 rfl rfl k9) ?_
    refine qy (fun _ _ k9 => z_aload_n d_X12_mixed_47 rfl rfl k9) ?_
    refine qy (fun _ _ k9 => z_getf (v := qR (m + 35)) d_X12_mixed_48 fl_X12_118 rput_o rfl k9) ?_
    refine qy (fun _ _ k9 => z_aload_n d_X12_mixed_51 rfl rfl k9) ?_
    refine qy (fun _ _ k9 => z_getf (v := qR (m + 36)) d_X12_mixed_52 fl_X12_121 rput_o rfl k9) ?_
    refine qy (fun _ _ k9 => z_bipush d_X12_mixed_55 (by decide) k9) ?_
    refine qy (fun _ _ k9 => z_iconst d_X12_mixed_57 (by decide) k9) ?_
    refine qy (fun _ _ k9 => z_iconst d_X12_mixed_58 (by decide) k9) ?_
    refine qy (fun _ _ k9 => z_iconst d_X12_mixed_59 (by decide) k9) ?_
    refine qy (fun _ _ k9 => z_aload_n d_X12_mixed_60 rfl rfl k9) ?_
    refine qy (fun _ _ k9 => z_getf (v := qR (m + 25)) d_X12_mixed_61 fl_X12_86 rput_o rfl k9) ?_
    obtain ⟨y2, ⟨hlf, hlT, hlF⟩, hx2⟩ := y_laysBook (h := h) (f := f) (a := 35) (b := 36) (t := 25) 15 (-1) (-1) 0 rfl rfl hm (by decide) (by decide) (by decide) (by decide) (by decide) (by decide) (by decide) (by decide)
    refine qy (fun _ _ k9 => z_cv0 (M1 := M_X12_laysBook) d_X12_mixed_64 lv_X12_271 k_X12_laysBook [qR (m + 35), qR (m + 36), qI 15, qI (-1), qI (-1), qI 0, qR (m + 25)] rfl rfl rput_o ⟨_, _, rfl⟩ (Nat.le_of_ble_eq_true rfl) (by decide) (by decide) (Nat.le_of_ble_eq_true rfl) hx2 k9) ?_
    have hB9 : ∀ c, c < 648 → 0 ≤ mxT g (15 - j : Int) c ∧ mxT g (15 - j : Int) c ≤ 7 := fun c hc => bkTc_bd (mx_ok hO hO2) (by decide) c hc
    have hT9 : ∀ c, c < 648 → y2 25 c = mxT g (15 - j : Int) c := fun c hc => (hlT c hc).trans (bkTc_cg (fun k hk => (hmR k hk).trans (by unfold mxR; rw [hs 3 (by decide) (by decide), hs 2 (by decide) (by decide)])) (fun q hq => (hmC q hq).trans (by unfold mxC; rw [hs 6 (by decide) (by decide), hs 5 (by decide) (by decide)])) c)
    refine qy (fun _ _ k9 => z_aload_n d_X12_mixed_67 rfl rfl k9) ?_
    refine qy (fun _ _ k9 => z_iload_n d_X12_mixed_68 rfl rfl k9) ?_
    obtain ⟨y3, hff, hx3⟩ := y_firstBad (h := h) (f := f) (to := to) (mxT g (15 - j : Int)) hm (by omega) hT9 hB9
    refine qy (fun _ _ k9 => z_cv (M1 := M_X12_firstBad) d_X12_mixed_69 lv_X12_354 k_X12_firstBad [qI (to : Int)] rfl rfl rput_o ⟨_, _, rfl⟩ (Nat.le_of_ble_eq_true rfl) (by decide) (by decide) (Nat.le_of_ble_eq_true rfl) hx3 k9) ?_
    refine qy (fun _ _ k9 => z_iconst d_X12_mixed_72 (by decide) k9) ?_
    refine qy2 (fun _ _ => z_icmp_eq 79 d_X12_mixed_73 (by decide)) (fun hf9 => ?_) (fun hf9 => ?_)
    · refine qy (fun _ _ k9 => z_iinc (ls' := [qR m, qI (to : Int), qI what, qI ((cnt (fun q9 : Nat => fbR (mxT g (q9 : Int)) to = -1) 16 - cnt (fun q9 : Nat => fbR (mxT g (q9 : Int)) to = -1) (16 - j)) + 1), qI (fstF (fun q9 : Nat => fbR (mxT g (q9 : Int)) to = -1) j (16 - j)), qI (15 - (j : Int))]) d_X12_mixed_79 rfl (by decide) (by omega) rfl k9) ?_
      refine qy (fun _ _ k9 => z_iload d_X12_mixed_82 rfl k9) ?_
      refine qy (fun _ _ k9 => z_istore (ls' := [qR m, qI (to : Int), qI what, qI ((cnt (fun q9 : Nat => fbR (mxT g (q9 : Int)) to = -1) 16 - cnt (fun q9 : Nat => fbR (mxT g (q9 : Int)) to = -1) (16 - j)) + 1), qI (15 - (j : Int)), qI (15 - (j : Int))]) d_X12_mixed_84 (by decide) rfl k9) ?_
      refine qy (fun _ _ k9 => z_iinc (ls' := [qR m, qI (to : Int), qI what, qI ((cnt (fun q9 : Nat => fbR (mxT g (q9 : Int)) to = -1) 16 - cnt (fun q9 : Nat => fbR (mxT g (q9 : Int)) to = -1) (16 - j)) + 1), qI (15 - (j : Int)), qI ((15 - (j : Int)) + (-1))]) d_X12_mixed_86 rfl (by decide) (by omega) rfl k9) ?_
      refine qy (fun _ _ k9 => z_goto 35 d_X12_mixed_89 (by decide) k9) ?_
      exact qy (fun _ _ k9 => z_eq (qc rfl (qc rfl (qc rfl (qc (qi (by rw [show 16 - j = 15 - j + 1 by omega, show 16 - (j + 1) = 15 - j by omega, show cnt (fun q9 : Nat => fbR (mxT g (q9 : Int)) to = -1) (15 - j + 1) = cnt (fun q9 : Nat => fbR (mxT g (q9 : Int)) to = -1) (15 - j) + qb (fbR (mxT g ((15 - j : Nat) : Int)) to = -1) from rfl, show ((15 - j : Nat) : Int) = 15 - (j : Int) by omega]; first | (rw [qb_t hf9]; omega) | (rw [qb_f hf9]; omega))) (qc (qi (by rw [show 16 - (j + 1) = 15 - j by omega, fstF_s, show ((15 - j : Nat) : Int) = 15 - (j : Int) by omega]; first | rw [qif_t hf9] | rw [qif_f hf9, show 15 - j + 1 = 16 - j by omega])) (qc (qi (by omega)) rfl)))))) rfl rfl k9) (kk (j + 1) y3 (⟨by omega, (sq_tr (sq_tr (sq_tr hs (sq_fr hmf (by decide))) (sq_fr hlf (by decide))) (sq_fr hff (by decide)))⟩) (by omega))
    · refine qy (fun _ _ k9 => z_goto 86 d_X12_mixed_76 (by decide) k9) ?_
      refine qy (fun _ _ k9 => z_iinc (ls' := [qR m, qI (to : Int), qI what, qI (cnt (fun q9 : Nat => fbR (mxT g (q9 : Int)) to = -1) 16 - cnt (fun q9 : Nat => fbR (mxT g (q9 : Int)) to = -1) (16 - j)), qI (fstF (fun q9 : Nat => fbR (mxT g (q9 : Int)) to = -1) j (16 - j)), qI ((15 - (j : Int)) + (-1))]) d_X12_mixed_86 rfl (by decide) (by omega) rfl k9) ?_
      refine qy (fun _ _ k9 => z_goto 35 d_X12_mixed_89 (by decide) k9) ?_
      exact qy (fun _ _ k9 => z_eq (qc rfl (qc rfl (qc rfl (qc (qi (by rw [show 16 - j = 15 - j + 1 by omega, show 16 - (j + 1) = 15 - j by omega, show cnt (fun q9 : Nat => fbR (mxT g (q9 : Int)) to = -1) (15 - j + 1) = cnt (fun q9 : Nat => fbR (mxT g (q9 : Int)) to = -1) (15 - j) + qb (fbR (mxT g ((15 - j : Nat) : Int)) to = -1) from rfl, show ((15 - j : Nat) : Int) = 15 - (j : Int) by omega]; first | (rw [qb_t hf9]; omega) | (rw [qb_f hf9]; omega))) (qc (qi (by rw [show 16 - (j + 1) = 15 - j by omega, fstF_s, show ((15 - j : Nat) : Int) = 15 - (j : Int) by omega]; first | rw [qif_t hf9] | rw [qif_f hf9, show 15 - j + 1 = 16 - j by omega])) (qc (qi (by omega)) rfl)))))) rfl rfl k9) (kk (j + 1) y3 (⟨by omega, (sq_tr (sq_tr (sq_tr hs (sq_fr hmf (by decide))) (sq_fr hlf (by decide))) (sq_fr hff (by decide)))⟩) (by omega))
set_option maxRecDepth 20000 in
set_option maxHeartbeats 4000000 in
theorem c_mixed_no {h : qH} {m : Nat} {f : Nat → Int} {g : Nat → Nat → Int} (to what : Int) (hm : 2 ≤ m) (h0 : f 0 = 0) (hno : ¬ ((1 ≤ to ∧ to ≤ 24) ∧ 0 ≤ what ∧ what ≤ 1)) : qEx M_X12_mixed 0 [qR m, qI to, qI what, qU, qU, qU] [] (rput h m f g) (some (qI (-1))) (rput h m f g) := by
  refine q_gen (fun r hr er eh => ?_)
  refine z_aload_n d_X12_mixed_0 rfl rfl ?_
  refine z_iconst d_X12_mixed_1 (by decide) ?_
  refine z_putf (fs' := [qI 0, qI (f 1), qI (f 2), qI (f 3), qI (f 4), qI (f 5), qI (f 6), qI (f 7), qR (m + 1), qR (m + 2), qR (m + 3), qR (m + 4), qR (m + 5), qR (m + 6), qR (m + 7), qR (m + 8), qR (m + 9), qR (m + 10), qI (f 18), qI (f 19), qI (f 20), qR (m + 11), qR (m + 12), qR (m + 13), qR (m + 14), qI (f 25), qR (m + 15), qI (f 27), qR (m + 16), qR (m + 17), qR (m + 18), qR (m + 19), qR (m + 20), qR (m + 21), qR (m + 22), qR (m + 23), qR (m + 24), qI (f 37), qI (f 38), qI (f 39), qI (f 40), qR (m + 25), qR (m + 26), qR (m + 27), qR (m + 28), qR (m + 29), qR (m + 30), qR (m + 31), qI (f 48), qR (m + 32), qR (m + 33), qR (m + 34), qR (m + 35), qR (m + 36), qR (m + 37)]) d_X12_mixed_2 fp_X12_127 rput_o (fun _ => rfl) (fun _ => rfl) (Nat.le_of_ble_eq_true rfl) rfl ?_
  refine z_eq rfl rfl ((rput_sf (f' := qup f 0 0) rfl).trans (rput_cg (qup_self h0) rfl)) ?_
  refine z_iload_n d_X12_mixed_5 rfl rfl ?_
  refine z_iconst d_X12_mixed_6 (by decide) ?_
  refine z_bipush d_X12_mixed_7 (by decide) ?_
  refine z_cs (M1 := M_X12_in) d_X12_mixed_9 ls_X12_137 k_X12_in [qI to, qI 1, qI 24] rfl rfl (Nat.le_of_ble_eq_true rfl) (by decide) (by decide) (Nat.le_of_ble_eq_true rfl) (c_in to 1 24) ?_
  refine z_ifeqB 24 d_X12_mixed_12 (by decide) (fun hc1 => ?_) (fun hc1 => ?_)
  · refine z_iconst d_X12_mixed_24 (by decide) ?_
    exact z_iret d_X12_mixed_25 rfl er eh
  · refine z_iload_n d_X12_mixed_15 rfl rfl ?_
    refine z_iconst d_X12_mixed_16 (by decide) ?_
    refine z_iconst d_X12_mixed_17 (by decide) ?_
    refine z_cs (M1 := M_X12_in) d_X12_mixed_18 ls_X12_137 k_X12_in [qI what, qI 0, qI 1] rfl rfl (Nat.le_of_ble_eq_true rfl) (by decide) (by decide) (Nat.le_of_ble_eq_true rfl) (c_in what 0 1) ?_
    refine z_ifneB 26 d_X12_mixed_21 (by decide) (fun hc2 => ?_) (fun hc2 => ?_)
    · exact absurd (by omega) hno
    · refine z_iconst d_X12_mixed_24 (by decide) ?_
      exact z_iret d_X12_mixed_25 rfl er eh
