/-! ===== CONTRACTS: the reference: text, whole ===== -/
def txF (f f' : Nat → Int) (s : pS) : Prop := (∀ j, j ∉ [1, 2, 3, 4, 5, 6, 7, 18, 19, 20, 25] → f' j = f j) ∧ f' 1 = 0 ∧ f' 6 = s.2.1 ∧ f' 7 = s.2.2
noncomputable def pgP (f : Nat → Int) (g : Nat → Nat → Int) (k : Nat) (B : Nat → Int) (N : Nat) (f' : Nat → Int) (g' : Nat → Nat → Int) : Prop := (txF f f' (pgS B N (pgJ B N)) ∧ f' 18 = f 18 ∧ f' 19 = f 19) ∧ (∀ j, j ∉ [2, 4, 5, 10] → g' j = g j) ∧ ((pgS B N (pgJ B N)).2.1 ≠ 0 → f' 25 = f 25 ∧ g' 2 = g 2 ∧ g' 5 = g 5) ∧ ((pgS B N (pgJ B N)).2.1 = 0 → f' 25 = 0 ∧ pgJ B N ≤ 24 ∧ g' 5 = qup (g 5) k (pgJ B N : Int) ∧ ∀ j, j < 384 → g' 2 j = if 96 * k ≤ j ∧ j < 96 * k + 4 * pgJ B N then lpV B N (pgS B N ((j - 96 * k) / 4)) ((j - 96 * k) % 4) else g 2 j)
noncomputable def pnP (f : Nat → Int) (g : Nat → Nat → Int) (B : Nat → Int) (N : Nat) (f' : Nat → Int) (g' : Nat → Nat → Int) : Prop := (txF f f' (pnS B N (pnJ B N)) ∧ f' 19 = f 19) ∧ (∀ j, j ∉ [7, 8, 10] → g' j = g j) ∧ ((pnS B N (pnJ B N)).2.1 ≠ 0 → f' 25 = f 25 ∧ f' 18 = f 18 ∧ g' 7 = g 7) ∧ ((pnS B N (pnJ B N)).2.1 = 0 → f' 25 = 0 ∧ pnJ B N ≤ 16 ∧ f' 18 = (pnJ B N : Int) ∧ ∀ j, j < 4 * pnJ B N → g' 7 j = lqV B N (pnS B N (j / 4)) (j % 4))
noncomputable def tnA (g : Nat → Nat → Int) : Nat → Int := qmx 16 (fun _ => -1) (g 10)
noncomputable def tnP (f : Nat → Int) (g : Nat → Nat → Int) (B : Nat → Int) (N : Nat) (f' : Nat → Int) (g' : Nat → Nat → Int) : Prop := (txF f f' (tnX B N (tnA g) (tnJ B N (tnA g))).1 ∧ f' 18 = f 18 ∧ f' 25 = f 25) ∧ (∀ j, j ∉ [9, 10] → g' j = g j) ∧ ((tnX B N (tnA g) (tnJ B N (tnA g))).1.2.1 ≠ 0 → f' 19 = f 19 ∧ g' 9 = g 9) ∧ ((tnX B N (tnA g) (tnJ B N (tnA g))).1.2.1 = 0 → tnJ B N (tnA g) ≤ 16 ∧ f' 19 = (tnJ B N (tnA g) : Int) ∧ ∀ j, j < 16 → g' 9 j = (tnX B N (tnA g) (tnJ B N (tnA g))).2 j)
set_option maxRecDepth 20000 in
set_option maxHeartbeats 4000000 in
theorem c_text_pg {h : qH} {m : Nat} {f : Nat → Int} {g : Nat → Nat → Int} {N : Nat} (k : Nat) (hm : 2 ≤ m) (h0 : f 0 = 0) (hN : f 1 = (N : Int)) (hN4 : N ≤ 400) (hk : k < 4) : ∃ f' g', pgP f g k (g 1) N f' g' ∧ qEx M_X12_text 0 [qR m, qI (k : Int), qU] [] (rput h m f g) (some (qI (qif ((pgS (g 1) N (pgJ (g 1) N)).2.1 = 0) ((pgJ (g 1) N) : Int) (-1)))) (rput h m f' g') := by
  refine y_in2 (fun Q hQ => ?_)
  refine qy (fun _ _ k9 => z_aload_n d_X12_text_0 rfl rfl k9) ?_
  refine qy (fun _ _ k9 => z_iconst d_X12_text_1 (by decide) k9) ?_
  refine qy (fun _ _ k9 => z_putf (fs' := [qI 0, qI (f 1), qI (f 2), qI (f 3), qI (f 4), qI (f 5), qI (f 6), qI (f 7), qR (m + 1), qR (m + 2), qR (m + 3), qR (m + 4), qR (m + 5), qR (m + 6), qR (m + 7), qR (m + 8), qR (m + 9), qR (m + 10), qI (f 18), qI (f 19), qI (f 20), qR (m + 11), qR (m + 12), qR (m + 13), qR (m + 14), qI (f 25), qR (m + 15), qI (f 27), qR (m + 16), qR (m + 17), qR (m + 18), qR (m + 19), qR (m + 20), qR (m + 21), qR (m + 22), qR (m + 23), qR (m + 24), qI (f 37), qI (f 38), qI (f 39), qI (f 40), qR (m + 25), qR (m + 26), qR (m + 27), qR (m + 28), qR (m + 29), qR (m + 30), qR (m + 31), qI (f 48), qR (m + 32), qR (m + 33), qR (m + 34), qR (m + 35), qR (m + 36), qR (m + 37)]) d_X12_text_2 fp_X12_127 rput_o (fun _ => rfl) (fun _ => rfl) (Nat.le_of_ble_eq_true rfl) rfl k9) ?_
  refine qy (fun _ _ k9 => z_eq rfl rfl ((rput_sf (f' := qup f 0 0) rfl).trans (rput_cg (qup_self h0) rfl)) k9) ?_
  refine qy (fun _ _ k9 => z_aload_n d_X12_text_5 rfl rfl k9) ?_
  refine qy (fun _ _ k9 => z_aload_n d_X12_text_6 rfl rfl k9) ?_
  refine qy (fun _ _ k9 => z_getf (v := qI (f 1)) d_X12_text_7 fl_X12_130 rput_o rfl k9) ?_
  refine qy (fun _ _ k9 => z_eq rfl (qc (qi hN) rfl) rfl k9) ?_
  refine qy (fun _ _ k9 => z_putf (fs' := [qI (f 0), qI (f 1), qI (N : Int), qI (f 3), qI (f 4), qI (f 5), qI (f 6), qI (f 7), qR (m + 1), qR (m + 2), qR (m + 3), qR (m + 4), qR (m + 5), qR (m + 6), qR (m + 7), qR (m + 8), qR (m + 9), qR (m + 10), qI (f 18), qI (f 19), qI (f 20), qR (m + 11), qR (m + 12), qR (m + 13), qR (m + 14), qI (f 25), qR (m + 15), qI (f 27), qR (m + 16), qR (m + 17), qR (m + 18), qR (m + 19), qR (m + 20), qR (m + 21), qR (m + 22), qR (m + 23), qR (m + 24), qI (f 37), qI (f 38), qI (f 39), qI (f 40), qR (m + 25), qR (m + 26), qR (m + 27), qR (m + 28), qR (m + 29), qR (m + 30), qR (m + 31), qI (f 48), qR (m + 32), qR (m + 33), qR (m + 34), qR (m + 35), qR (m + 36), qR (m + 37)]) d_X12_text_10 fp_X12_147 rput_o (fun _ => rfl) (fun _ => rfl) (Nat.le_of_ble_eq_true rfl) rfl k9) ?_
  refine qy (fun _ _ k9 => z_eq rfl rfl (rput_sf (f' := (qup f 2 (N : Int))) rfl) k9) ?_
  refine qy (fun _ _ k9 => z_aload_n d_X12_text_13 rfl rfl k9) ?_
  refine qy (fun _ _ k9 => z_iconst d_X12_text_14 (by decide) k9) ?_
  refine qy (fun _ _ k9 => z_putf (fs' := [qI (f 0), qI (f 1), qI (N : Int), qI 0, qI (f 4), qI (f 5), qI (f 6), qI (f 7), qR (m + 1), qR (m + 2), qR (m + 3), qR (m + 4), qR (m + 5), qR (m + 6), qR (m + 7), qR (m + 8), qR (m + 9), qR (m + 10), qI (f 18), qI (f 19), qI (f 20), qR (m + 11), qR (m + 12), qR (m + 13), qR (m + 14), qI (f 25), qR (m + 15), qI (f 27), qR (m + 16), qR (m + 17), qR (m + 18), qR (m + 19), qR (m + 20), qR (m + 21), qR (m + 22), qR (m + 23), qR (m + 24), qI (f 37), qI (f 38), qI (f 39), qI (f 40), qR (m + 25), qR (m + 26), qR (m + 27), qR (m + 28), qR (m + 29), qR (m + 30), qR (m + 31), qI (f 48), qR (m + 32), qR (m + 33), qR (m + 34), qR (m + 35), qR (m + 36), qR (m + 37)]) d_X12_text_15 fp_X12_150 rput_o (fun _ => rfl) (fun _ => rfl) (Nat.le_of_ble_eq_true rfl) rfl k9) ?_
  refine qy (fun _ _ k9 => z_eq rfl rfl (rput_sf (f' := (qup (qup f 2 (N : Int)) 3 0)) rfl) k9) ?_
  refine qy (fun _ _ k9 => z_aload_n d_X12_text_18 rfl rfl k9) ?_
  refine qy (fun _ _ k9 => z_iconst d_X12_text_19 (by decide) k9) ?_
  refine qy (fun _ _ k9 => z_putf (fs' := [qI (f 0), qI (f 1), qI (N : Int), qI 0, qI 0, qI (f 5), qI (f 6), qI (f 7), qR (m + 1), qR (m + 2), qR (m + 3), qR (m + 4), qR (m + 5), qR (m + 6), qR (m + 7), qR (m + 8), qR (m + 9), qR (m + 10), qI (f 18), qI (f 19), qI (f 20), qR (m + 11), qR (m + 12), qR (m + 13), qR (m + 14), qI (f 25), qR (m + 15), qI (f 27), qR (m + 16), qR (m + 17), qR (m + 18), qR (m + 19), qR (m + 20), qR (m + 21), qR (m + 22), qR (m + 23), qR (m + 24), qI (f 37), qI (f 38), qI (f 39), qI (f 40), qR (m + 25), qR (m + 26), qR (m + 27), qR (m + 28), qR (m + 29), qR (m + 30), qR (m + 31), qI (f 48), qR (m + 32), qR (m + 33), qR (m + 34), qR (m + 35), qR (m + 36), qR (m + 37)]) d_X12_text_20 fp_X12_141 rput_o (fun _ => rfl) (fun _ => rfl) (Nat.le_of_ble_eq_true rfl) rfl k9) ?_
  refine qy (fun _ _ k9 => z_eq rfl rfl (rput_sf (f' := (qup (qup (qup f 2 (N : Int)) 3 0) 4 0)) rfl) k9) ?_
  refine qy (fun _ _ k9 => z_aload_n d_X12_text_23 rfl rfl k9) ?_
  refine qy (fun _ _ k9 => z_iconst d_X12_text_24 (by decide) k9) ?_
  refine qy (fun _ _ k9 => z_putf (fs' := [qI (f 0), qI (f 1), qI (N : Int), qI 0, qI 0, qI (-1), qI (f 6), qI (f 7), qR (m + 1), qR (m + 2), qR (m + 3), qR (m + 4), qR (m + 5), qR (m + 6), qR (m + 7), qR (m + 8), qR (m + 9), qR (m + 10), qI (f 18), qI (f 19), qI (f 20), qR (m + 11), qR (m + 12), qR (m + 13), qR (m + 14), qI (f 25), qR (m + 15), qI (f 27), qR (m + 16), qR (m + 17), qR (m + 18), qR (m + 19), qR (m + 20), qR (m + 21), qR (m + 22), qR (m + 23), qR (m + 24), qI (f 37), qI (f 38), qI (f 39), qI (f 40), qR (m + 25), qR (m + 26), qR (m + 27), qR (m + 28), qR (m + 29), qR (m + 30), qR (m + 31), qI (f 48), qR (m + 32), qR (m + 33), qR (m + 34), qR (m + 35), qR (m + 36), qR (m + 37)]) d_X12_text_25 fp_X12_144 rput_o (fun _ => rfl) (fun _ => rfl) (Nat.le_of_ble_eq_true rfl) rfl k9) ?_
  refine qy (fun _ _ k9 => z_eq rfl rfl (rput_sf (f' := (qup (qup (qup (qup f 2 (N : Int)) 3 0) 4 0) 5 (-1))) rfl) k9) ?_
  refine qy (fun _ _ k9 => z_aload_n d_X12_text_28 rfl rfl k9) ?_
  refine qy (fun _ _ k9 => z_iconst d_X12_text_29 (by decide) k9) ?_
  refine qy (fun _ _ k9 => z_putf (fs' := [qI (f 0), qI (f 1), qI (N : Int), qI 0, qI 0, qI (-1), qI (f 6), qI (f 7), qR (m + 1), qR (m + 2), qR (m + 3), qR (m + 4), qR (m + 5), qR (m + 6), qR (m + 7), qR (m + 8), qR (m + 9), qR (m + 10), qI (f 18), qI (f 19), qI 0, qR (m + 11), qR (m + 12), qR (m + 13), qR (m + 14), qI (f 25), qR (m + 15), qI (f 27), qR (m + 16), qR (m + 17), qR (m + 18), qR (m + 19), qR (m + 20), qR (m + 21), qR (m + 22), qR (m + 23), qR (m + 24), qI (f 37), qI (f 38), qI (f 39), qI (f 40), qR (m + 25), qR (m + 26), qR (m + 27), qR (m + 28), qR (m + 29), qR (m + 30), qR (m + 31), qI (f 48), qR (m + 32), qR (m + 33), qR (m + 34), qR (m + 35), qR (m + 36), qR (m + 37)]) d_X12_text_30 fp_X12_222 rput_o (fun _ => rfl) (fun _ => rfl) (Nat.le_of_ble_eq_true rfl) rfl k9) ?_
  refine qy (fun _ _ k9 => z_eq rfl rfl (rput_sf (f' := (qup (qup (qup (qup (qup f 2 (N : Int)) 3 0) 4 0) 5 (-1)) 20 0)) rfl) k9) ?_
  refine qy (fun _ _ k9 => z_aload_n d_X12_text_33 rfl rfl k9) ?_
  refine qy (fun _ _ k9 => z_iconst d_X12_text_34 (by decide) k9) ?_
  refine qy (fun _ _ k9 => z_putf (fs' := [qI (f 0), qI (f 1), qI (N : Int), qI 0, qI 0, qI (-1), qI 0, qI (f 7), qR (m + 1), qR (m + 2), qR (m + 3), qR (m + 4), qR (m + 5), qR (m + 6), qR (m + 7), qR (m + 8), qR (m + 9), qR (m + 10), qI (f 18), qI (f 19), qI 0, qR (m + 11), qR (m + 12), qR (m + 13), qR (m + 14), qI (f 25), qR (m + 15), qI (f 27), qR (m + 16), qR (m + 17), qR (m + 18), qR (m + 19), qR (m + 20), qR (m + 21), qR (m + 22), qR (m + 23), qR (m + 24), qI (f 37), qI (f 38), qI (f 39), qI (f 40), qR (m + 25), qR (m + 26), qR (m + 27), qR (m + 28), qR (m + 29), qR (m + 30), qR (m + 31), qI (f 48), qR (m + 32), qR (m + 33), qR (m + 34), qR (m + 35), qR (m + 36), qR (m + 37)]) d_X12_text_35 fp_X12_234 rput_o (fun _ => rfl) (fun _ => rfl) (Nat.le_of_ble_eq_true rfl) rfl k9) ?_
  refine qy (fun _ _ k9 => z_eq rfl rfl (rput_sf (f' := (qup (qup (qup (qup (qup (qup f 2 (N : Int)) 3 0) 4 0) 5 (-1)) 20 0) 6 0)) rfl) k9) ?_
  refine qy (fun _ _ k9 => z_aload_n d_X12_text_38 rfl rfl k9) ?_
  refine qy (fun _ _ k9 => z_iconst d_X12_text_39 (by decide) k9) ?_
  refine qy (fun _ _ k9 => z_putf (fs' := [qI (f 0), qI (f 1), qI (N : Int), qI 0, qI 0, qI (-1), qI 0, qI (-1), qR (m + 1), qR (m + 2), qR (m + 3), qR (m + 4), qR (m + 5), qR (m + 6), qR (m + 7), qR (m + 8), qR (m + 9), qR (m + 10), qI (f 18), qI (f 19), qI 0, qR (m + 11), qR (m + 12), qR (m + 13), qR (m + 14), qI (f 25), qR (m + 15), qI (f 27), qR (m + 16), qR (m + 17), qR (m + 18), qR (m + 19), qR (m + 20), qR (m + 21), qR (m + 22), qR (m + 23), qR (m + 24), qI (f 37), qI (f 38), qI (f 39), qI (f 40), qR (m + 25), qR (m + 26), qR (m + 27), qR (m + 28), qR (m + 29), qR (m + 30), qR (m + 31), qI (f 48), qR (m + 32), qR (m + 33), qR (m + 34), qR (m + 35), qR (m + 36), qR (m + 37)]) d_X12_text_40 fp_X12_9 rput_o (fun _ => rfl) (fun _ => rfl) (Nat.le_of_ble_eq_true rfl) rfl k9) ?_
  refine qy (fun _ _ k9 => z_eq rfl rfl (rput_sf (f' := (qup (qup (qup (qup (qup (qup (qup f 2 (N : Int)) 3 0) 4 0) 5 (-1)) 20 0) 6 0) 7 (-1))) rfl) k9) ?_
  refine qy (fun _ _ k9 => z_aload_n d_X12_text_43 rfl rfl k9) ?_
  refine qy (fun _ _ k9 => z_iconst d_X12_text_44 (by decide) k9) ?_
  refine qy (fun _ _ k9 => z_putf (fs' := [qI (f 0), qI 0, qI (N : Int), qI 0, qI 0, qI (-1), qI 0, qI (-1), qR (m + 1), qR (m + 2), qR (m + 3), qR (m + 4), qR (m + 5), qR (m + 6), qR (m + 7), qR (m + 8), qR (m + 9), qR (m + 10), qI (f 18), qI (f 19), qI 0, qR (m + 11), qR (m + 12), qR (m + 13), qR (m + 14), qI (f 25), qR (m + 15), qI (f 27), qR (m + 16), qR (m + 17), qR (m + 18), qR (m + 19), qR (m + 20), qR (m + 21), qR (m + 22), qR (m + 23), qR (m + 24), qI (f 37), qI (f 38), qI (f 39), qI (f 40), qR (m + 25), qR (m + 26), qR (m + 27), qR (m + 28), qR (m + 29), qR (m + 30), qR (m + 31), qI (f 48), qR (m + 32), qR (m + 33), qR (m + 34), qR (m + 35), qR (m + 36), qR (m + 37)]) d_X12_text_45 fp_X12_130 rput_o (fun _ => rfl) (fun _ => rfl) (Nat.le_of_ble_eq_true rfl) rfl k9) ?_
  refine qy (fun _ _ k9 => z_eq rfl rfl (rput_sf (f' := (qup (qup (qup (qup (qup (qup (qup (qup f 2 (N : Int)) 3 0) 4 0) 5 (-1)) 20 0) 6 0) 7 (-1)) 1 0)) rfl) k9) ?_
  refine qy (fun _ _ k9 => z_iload_n d_X12_text_48 rfl rfl k9) ?_
  refine qy (fun _ _ k9 => z_iconst d_X12_text_49 (by decide) k9) ?_
  refine qy (fun _ _ k9 => z_iconst d_X12_text_50 (by decide) k9) ?_
  refine qy (fun _ _ k9 => z_cs (M1 := M_X12_in) d_X12_text_51 ls_X12_137 k_X12_in [qI (k : Int), qI 0, qI 5] rfl rfl (Nat.le_of_ble_eq_true rfl) (by decide) (by decide) (Nat.le_of_ble_eq_true rfl) (c_in (k : Int) 0 5) k9) ?_
  refine qy2 (fun _ _ => z_ifneB 59 d_X12_text_54 (by decide)) (fun hc1 => ?_) (fun hc1 => absurd hc1 (by omega))
  refine qy (fun _ _ k9 => z_iconst d_X12_text_59 (by decide) k9) ?_
  refine qy (fun _ _ k9 => z_istore_n (ls' := [qR m, qI (k : Int), qI 0]) d_X12_text_60 rfl (by decide) rfl k9) ?_
  refine qy (fun _ _ k9 => z_eq (qc rfl (qc rfl (qc (qi (rfl)) rfl))) rfl (rput_cg rfl (gup_self (qmx_0 _ _).symm).symm) k9) (y_wh1 (fun (i : Nat) => 16 - i) (fun (i : Nat) => [qR m, qI (k : Int), qI (i : Int)]) (fun (i : Nat) => (rput h m (qup (qup (qup (qup (qup (qup (qup (qup f 2 (N : Int)) 3 0) 4 0) 5 (-1)) 20 0) 6 0) 7 (-1)) 1 0) (gup g 10 (qmx i (fun _ => -1) (g 10))))) (fun (i : Nat) => i ≤ 16) 0 (by omega) (fun i hp kk => ?_))
  show qEy M_X12_text 61 [qR m, qI (k : Int), qI (i : Int)] [] (rput h m (qup (qup (qup (qup (qup (qup (qup (qup f 2 (N : Int)) 3 0) 4 0) 5 (-1)) 20 0) 6 0) 7 (-1)) 1 0) (gup g 10 (qmx i (fun _ => -1) (g 10)))) Q
  refine qy (fun _ _ k9 => z_iload_n d_X12_text_61 rfl rfl k9) ?_
  refine qy (fun _ _ k9 => z_bipush d_X12_text_62 (by decide) k9) ?_
  refine qy2 (fun _ _ => z_icmp_ge 80 d_X12_text_64 (by decide)) (fun hc2 => ?_) (fun hc2 => ?_)
  · have hi16 : i = 16 := by omega
    subst hi16
    obtain ⟨f1, hf1⟩ : ∃ f1, f1 = (qup (qup (qup (qup (qup (qup (qup (qup f 2 (N : Int)) 3 0) 4 0) 5 (-1)) 20 0) 6 0) 7 (-1)) 1 0) := ⟨_, rfl⟩
    have hf1_1 : f1 1 = 0 := by rw [hf1]; rfl
    have hf1_2 : f1 2 = (N : Int) := by rw [hf1]; rfl
    have hf1_6 : f1 6 = 0 := by rw [hf1]; rfl
    have hf1_7 : f1 7 = (-1) := by rw [hf1]; rfl
    have hf1_20 : f1 20 = 0 := by rw [hf1]; rfl
    have hf1_18 : f1 18 = f 18 := by rw [hf1]; rfl
    have hf1_19 : f1 19 = f 19 := by rw [hf1]; rfl
    have hf1_25 : f1 25 = f 25 := by rw [hf1]; rfl
    have hf1x : ∀ j, j ∉ [1, 2, 3, 4, 5, 6, 7, 18, 19, 20, 25] → f1 j = f j := by
      intro j hj
      simp only [List.mem_cons, List.not_mem_nil, or_false, not_or] at hj
      rw [hf1]; rw [qup_ne (by omega), qup_ne (by omega), qup_ne (by omega), qup_ne (by omega), qup_ne (by omega), qup_ne (by omega), qup_ne (by omega), qup_ne (by omega)]
    refine qy (fun _ _ k9 => z_eq rfl rfl (show (rput h m (qup (qup (qup (qup (qup (qup (qup (qup f 2 (N : Int)) 3 0) 4 0) 5 (-1)) 20 0) 6 0) 7 (-1)) 1 0) (gup g 10 (qmx 16 (fun _ => -1) (g 10)))) = (rput h m (qup (qup (qup (qup f1 20 0) 3 ((((0, 0, -1) : pS).1 : Nat) : Int)) 4 (((0, 0, -1) : pS).2.1)) 5 (((0, 0, -1) : pS).2.2)) (gup g 10 (qmx 16 (fun _ => -1) (g 10)))) by rw [hf1]; exact rput_cg ((qup_self rfl).trans ((qup_self rfl).trans ((qup_self rfl).trans (qup_self rfl)))).symm rfl) k9) ?_
    refine qy (fun _ _ k9 => z_aload_n d_X12_text_80 rfl rfl k9) ?_
    refine qy (fun _ _ k9 => z_cv0 (M1 := M_X12_blanks) d_X12_text_81 lv_X12_164 k_X12_blanks [] rfl rfl rput_o ⟨_, _, rfl⟩ (Nat.le_of_ble_eq_true rfl) (by decide) (by decide) (Nat.le_of_ble_eq_true rfl) (y_blanks (N := N) ((0, 0, -1) : pS) hm hf1_2 hN4 (Nat.zero_le _)) k9) ?_
    refine qy (fun _ _ k9 => z_eq rfl rfl rfl k9) (y_wh3 (fun (i : Nat) (l : Int) (y : Nat → Nat → Int) => 26 - i) (fun (i : Nat) (l : Int) (y : Nat → Nat → Int) => [qR m, qI (k : Int), qI 16]) (fun (i : Nat) (l : Int) (y : Nat → Nat → Int) => (rput h m (qup (qup (qup (qup f1 20 l) 3 (((pgS (g 1) N i).1 : Nat) : Int)) 4 ((pgS (g 1) N i).2.1)) 5 ((pgS (g 1) N i).2.2)) y)) (fun (i : Nat) (l : Int) (y : Nat → Nat → Int) => (∀ q, q < i → gon N (pgS (g 1) N q)) ∧ i ≤ 25 ∧ (∀ j, j ≠ 4 → y j = (gup g 10 (qmx 16 (fun _ => -1) (g 10))) j) ∧ ((pgS (g 1) N i).2.1 = 0 → l = (i : Int) ∧ i ≤ 24 ∧ ∀ j, j < 4 * i → y 4 j = lpV (g 1) N (pgS (g 1) N (j / 4)) (j % 4))) 0 0 (gup g 10 (qmx 16 (fun _ => -1) (g 10))) (⟨fun q hq => absurd hq (by omega), by omega, fun j _ => rfl, fun _ => ⟨rfl, by omega, fun j hj => absurd hj (by omega)⟩⟩) (fun i l y hp kk => ?_))
    obtain ⟨hp1, hp2, hp3, hp4⟩ := hp
    show qEy M_X12_text 84 [qR m, qI (k : Int), qI 16] [] (rput h m (qup (qup (qup (qup f1 20 l) 3 (((pgS (g 1) N i).1 : Nat) : Int)) 4 ((pgS (g 1) N i).2.1)) 5 ((pgS (g 1) N i).2.2)) y) Q
    have hy1 : y 1 = g 1 := (hp3 1 (by decide))
    refine qy (fun _ _ k9 => z_aload_n d_X12_text_84 rfl rfl k9) ?_
    refine qy (fun _ _ k9 => z_getf (v := qI ((pgS (g 1) N i).2.1)) d_X12_text_85 fl_X12_141 rput_o rfl k9) ?_
    refine qy2 (fun _ _ => z_if_ne 137 d_X12_text_88 (by decide)) (fun q88 => ?_) (fun q88 => ?_)
    · have hJ : (pgJ (g 1) N) = i := utl_at (by omega) (fun q hq => not_not_intro (hp1 q hq)) (fun z => by have z1 := z.1; have z2 := z.2; omega)
      refine qy (fun _ _ k9 => z_aload_n d_X12_text_137 rfl rfl k9) ?_
      refine qy (fun _ _ k9 => z_aload_n d_X12_text_138 rfl rfl k9) ?_
      refine qy (fun _ _ k9 => z_getf (v := qI ((pgS (g 1) N i).2.1)) d_X12_text_139 fl_X12_141 rput_o rfl k9) ?_
      refine qy (fun _ _ k9 => z_putf (fs' := [qI (f1 0), qI (f1 1), qI (f1 2), qI (((pgS (g 1) N i).1 : Nat) : Int), qI ((pgS (g 1) N i).2.1), qI ((pgS (g 1) N i).2.2), qI ((pgS (g 1) N i).2.1), qI (f1 7), qR (m + 1), qR (m + 2), qR (m + 3), qR (m + 4), qR (m + 5), qR (m + 6), qR (m + 7), qR (m + 8), qR (m + 9), qR (m + 10), qI (f1 18), qI (f1 19), qI l, qR (m + 11), qR (m + 12), qR (m + 13), qR (m + 14), qI (f1 25), qR (m + 15), qI (f1 27), qR (m + 16), qR (m + 17), qR (m + 18), qR (m + 19), qR (m + 20), qR (m + 21), qR (m + 22), qR (m + 23), qR (m + 24), qI (f1 37), qI (f1 38), qI (f1 39), qI (f1 40), qR (m + 25), qR (m + 26), qR (m + 27), qR (m + 28), qR (m + 29), qR (m + 30), qR (m + 31), qI (f1 48), qR (m + 32), qR (m + 33), qR (m + 34), qR (m + 35), qR (m + 36), qR (m + 37)]) d_X12_text_142 fp_X12_234 rput_o (fun _ => rfl) (fun _ => rfl) (Nat.le_of_ble_eq_true rfl) rfl k9) ?_
      refine qy (fun _ _ k9 => z_eq rfl rfl (rput_sf (f' := (qup (qup (qup (qup (qup f1 20 l) 3 (((pgS (g 1) N i).1 : Nat) : Int)) 4 ((pgS (g 1) N i).2.1)) 5 ((pgS (g 1) N i).2.2)) 6 ((pgS (g 1) N i).2.1))) rfl) k9) ?_
      refine qy (fun _ _ k9 => z_aload_n d_X12_text_145 rfl rfl k9) ?_
      refine qy (fun _ _ k9 => z_aload_n d_X12_text_146 rfl rfl k9) ?_
      refine qy (fun _ _ k9 => z_getf (v := qI ((pgS (g 1) N i).2.2)) d_X12_text_147 fl_X12_144 rput_o rfl k9) ?_
      refine qy (fun _ _ k9 => z_putf (fs' := [qI (f1 0), qI (f1 1), qI (f1 2), qI (((pgS (g 1) N i).1 : Nat) : Int), qI ((pgS (g 1) N i).2.1), qI ((pgS (g 1) N i).2.2), qI ((pgS (g 1) N i).2.1), qI ((pgS (g 1) N i).2.2), qR (m + 1), qR (m + 2), qR (m + 3), qR (m + 4), qR (m + 5), qR (m + 6), qR (m + 7), qR (m + 8), qR (m + 9), qR (m + 10), qI (f1 18), qI (f1 19), qI l, qR (m + 11), qR (m + 12), qR (m + 13), qR (m + 14), qI (f1 25), qR (m + 15), qI (f1 27), qR (m + 16), qR (m + 17), qR (m + 18), qR (m + 19), qR (m + 20), qR (m + 21), qR (m + 22), qR (m + 23), qR (m + 24), qI (f1 37), qI (f1 38), qI (f1 39), qI (f1 40), qR (m + 25), qR (m + 26), qR (m + 27), qR (m + 28), qR (m + 29), qR (m + 30), qR (m + 31), qI (f1 48), qR (m + 32), qR (m + 33), qR (m + 34), qR (m + 35), qR (m + 36), qR (m + 37)]) d_X12_text_150 fp_X12_9 rput_o (fun _ => rfl) (fun _ => rfl) (Nat.le_of_ble_eq_true rfl) rfl k9) ?_
      refine qy (fun _ _ k9 => z_eq rfl rfl (rput_sf (f' := (qup (qup (qup (qup (qup (qup f1 20 l) 3 (((pgS (g 1) N i).1 : Nat) : Int)) 4 ((pgS (g 1) N i).2.1)) 5 ((pgS (g 1) N i).2.2)) 6 ((pgS (g 1) N i).2.1)) 7 ((pgS (g 1) N i).2.2))) rfl) k9) ?_
      refine qy (fun _ _ k9 => z_aload_n d_X12_text_153 rfl rfl k9) ?_
      refine qy (fun _ _ k9 => z_getf (v := qI ((pgS (g 1) N i).2.1)) d_X12_text_154 fl_X12_141 rput_o rfl k9) ?_
      refine qy2 (fun _ _ => z_if_eq 162 d_X12_text_157 (by decide)) (fun hc3 => absurd hc3 (by omega)) (fun hc3 => ?_)
      refine qy (fun _ _ k9 => z_iconst d_X12_text_160 (by decide) k9) ?_
      exact y_ret (hQ (qup (qup (qup (qup (qup (qup f1 20 l) 3 (((pgS (g 1) N i).1 : Nat) : Int)) 4 ((pgS (g 1) N i).2.1)) 5 ((pgS (g 1) N i).2.2)) 6 ((pgS (g 1) N i).2.1)) 7 ((pgS (g 1) N i).2.2)) y (by unfold pgP; rw [hJ]; exact ⟨⟨⟨(fun j hj => by have hj9 := hj; simp only [List.mem_cons, List.not_mem_nil, or_false, not_or] at hj9; rw [qup_ne (by omega), qup_ne (by omega), qup_ne (by omega), qup_ne (by omega), qup_ne (by omega), qup_ne (by omega)]; exact hf1x j hj), hf1_1, rfl, rfl⟩, hf1_18, hf1_19⟩, (fun j hj => by simp only [List.mem_cons, List.not_mem_nil, or_false, not_or] at hj; exact (hp3 j (by omega)).trans (gup_ne (by omega))), (fun _ => ⟨hf1_25, hp3 2 (by decide), hp3 5 (by decide)⟩), (fun z => absurd z (by omega))⟩)) (z_iret d_X12_text_161 rfl (qsi (by rw [hJ, qif_f (show ¬ (pgS (g 1) N i).2.1 = 0 by omega)])) rfl)
    · refine qy (fun _ _ k9 => z_aload_n d_X12_text_91 rfl rfl k9) ?_
      refine qy (fun _ _ k9 => z_getf (v := qI (((pgS (g 1) N i).1 : Nat) : Int)) d_X12_text_92 fl_X12_150 rput_o rfl k9) ?_
      refine qy (fun _ _ k9 => z_aload_n d_X12_text_95 rfl rfl k9) ?_
      refine qy (fun _ _ k9 => z_getf (v := qI (f1 2)) d_X12_text_96 fl_X12_147 rput_o rfl k9) ?_
      refine qy2 (fun _ _ => z_icmp_ge 137 d_X12_text_99 (by decide)) (fun q99 => ?_) (fun q99 => ?_)
      · have hJ : (pgJ (g 1) N) = i := utl_at (by omega) (fun q hq => not_not_intro (hp1 q hq)) (fun z => by have z1 := z.1; have z2 := z.2; omega)
        have hs0 : (pgS (g 1) N i).2.1 = 0 := by omega
        have hp6 := hp4 hs0
        have hli : l = (i : Int) := hp6.1
        refine qy (fun _ _ k9 => z_aload_n d_X12_text_137 rfl rfl k9) ?_
        refine qy (fun _ _ k9 => z_aload_n d_X12_text_138 rfl rfl k9) ?_
        refine qy (fun _ _ k9 => z_getf (v := qI ((pgS (g 1) N i).2.1)) d_X12_text_139 fl_X12_141 rput_o rfl k9) ?_
        refine qy (fun _ _ k9 => z_putf (fs' := [qI (f1 0), qI (f1 1), qI (f1 2), qI (((pgS (g 1) N i).1 : Nat) : Int), qI ((pgS (g 1) N i).2.1), qI ((pgS (g 1) N i).2.2), qI ((pgS (g 1) N i).2.1), qI (f1 7), qR (m + 1), qR (m + 2), qR (m + 3), qR (m + 4), qR (m + 5), qR (m + 6), qR (m + 7), qR (m + 8), qR (m + 9), qR (m + 10), qI (f1 18), qI (f1 19), qI l, qR (m + 11), qR (m + 12), qR (m + 13), qR (m + 14), qI (f1 25), qR (m + 15), qI (f1 27), qR (m + 16), qR (m + 17), qR (m + 18), qR (m + 19), qR (m + 20), qR (m + 21), qR (m + 22), qR (m + 23), qR (m + 24), qI (f1 37), qI (f1 38), qI (f1 39), qI (f1 40), qR (m + 25), qR (m + 26), qR (m + 27), qR (m + 28), qR (m + 29), qR (m + 30), qR (m + 31), qI (f1 48), qR (m + 32), qR (m + 33), qR (m + 34), qR (m + 35), qR (m + 36), qR (m + 37)]) d_X12_text_142 fp_X12_234 rput_o (fun _ => rfl) (fun _ => rfl) (Nat.le_of_ble_eq_true rfl) rfl k9) ?_
        refine qy (fun _ _ k9 => z_eq rfl rfl (rput_sf (f' := (qup (qup (qup (qup (qup f1 20 l) 3 (((pgS (g 1) N i).1 : Nat) : Int)) 4 ((pgS (g 1) N i).2.1)) 5 ((pgS (g 1) N i).2.2)) 6 ((pgS (g 1) N i).2.1))) rfl) k9) ?_
        refine qy (fun _ _ k9 => z_aload_n d_X12_text_145 rfl rfl k9) ?_
        refine qy (fun _ _ k9 => z_aload_n d_X12_text_146 rfl rfl k9) ?_
        refine qy (fun _ _ k9 => z_getf (v := qI ((pgS (g 1) N i).2.2)) d_X12_text_147 fl_X12_144 rput_o rfl k9) ?_
        refine qy (fun _ _ k9 => z_putf (fs' := [qI (f1 0), qI (f1 1), qI (f1 2), qI (((pgS (g 1) N i).1 : Nat) : Int), qI ((pgS (g 1) N i).2.1), qI ((pgS (g 1) N i).2.2), qI ((pgS (g 1) N i).2.1), qI ((pgS (g 1) N i).2.2), qR (m + 1), qR (m + 2), qR (m + 3), qR (m + 4), qR (m + 5), qR (m + 6), qR (m + 7), qR (m + 8), qR (m + 9), qR (m + 10), qI (f1 18), qI (f1 19), qI l, qR (m + 11), qR (m + 12), qR (m + 13), qR (m + 14), qI (f1 25), qR (m + 15), qI (f1 27), qR (m + 16), qR (m + 17), qR (m + 18), qR (m + 19), qR (m + 20), qR (m + 21), qR (m + 22), qR (m + 23), qR (m + 24), qI (f1 37), qI (f1 38), qI (f1 39), qI (f1 40), qR (m + 25), qR (m + 26), qR (m + 27), qR (m + 28), qR (m + 29), qR (m + 30), qR (m + 31), qI (f1 48), qR (m + 32), qR (m + 33), qR (m + 34), qR (m + 35), qR (m + 36), qR (m + 37)]) d_X12_text_150 fp_X12_9 rput_o (fun _ => rfl) (fun _ => rfl) (Nat.le_of_ble_eq_true rfl) rfl k9) ?_
        refine qy (fun _ _ k9 => z_eq rfl rfl (rput_sf (f' := (qup (qup (qup (qup (qup (qup f1 20 l) 3 (((pgS (g 1) N i).1 : Nat) : Int)) 4 ((pgS (g 1) N i).2.1)) 5 ((pgS (g 1) N i).2.2)) 6 ((pgS (g 1) N i).2.1)) 7 ((pgS (g 1) N i).2.2))) rfl) k9) ?_
        refine qy (fun _ _ k9 => z_aload_n d_X12_text_153 rfl rfl k9) ?_
        refine qy (fun _ _ k9 => z_getf (v := qI ((pgS (g 1) N i).2.1)) d_X12_text_154 fl_X12_141 rput_o rfl k9) ?_
        refine qy2 (fun _ _ => z_if_eq 162 d_X12_text_157 (by decide)) (fun hc4 => ?_) (fun hc4 => absurd hc4 (by omega))
        refine qy (fun _ _ k9 => z_iload_n d_X12_text_162 rfl rfl k9) ?_
        refine qy (fun _ _ k9 => z_iconst d_X12_text_163 (by decide) k9) ?_
        refine qy2 (fun _ _ => z_icmp_ge 215 d_X12_text_164 (by decide)) (fun hc5 => absurd hc5 (by omega)) (fun hc5 => ?_)
        refine qy (fun _ _ k9 => z_aload_n d_X12_text_167 rfl rfl k9) ?_
        refine qy (fun _ _ k9 => z_getf (v := qR (m + 5)) d_X12_text_168 fl_X12_26 rput_o rfl k9) ?_
        refine qy (fun _ _ k9 => z_iload_n d_X12_text_171 rfl rfl k9) ?_
        refine qy (fun _ _ k9 => z_aload_n d_X12_text_172 rfl rfl k9) ?_
        refine qy (fun _ _ k9 => z_getf (v := qI l) d_X12_text_173 fl_X12_222 rput_o rfl k9) ?_
        refine qy (fun _ _ k9 => z_eq rfl (qc (qi hli) rfl) rfl k9) ?_
        refine qy (fun _ _ k9 => z_ist k d_X12_text_176 (rput_a2 5 (t := 0) (n := 4) (F := (y 5)) rfl rfl rfl (by decide) (by decide)) (by omega) rfl (by omega) k9) ?_
        refine qy (fun _ _ k9 => z_eq rfl rfl (rput_sa 5 rfl rfl (by decide) (by decide)) k9) ?_
        refine qy (fun _ _ k9 => z_iconst d_X12_text_177 (by decide) k9) ?_
        refine qy (fun _ _ k9 => z_istore_n (ls' := [qR m, qI (k : Int), qI 0]) d_X12_text_178 rfl (by decide) rfl k9) ?_
        refine qy (fun _ _ k9 => z_eq (qc rfl (qc rfl (qc (qi (rfl)) rfl))) rfl rfl k9) (y_wh2 (fun (j : Nat) (z : Nat → Nat → Int) => 4 * i - j) (fun (j : Nat) (z : Nat → Nat → Int) => [qR m, qI (k : Int), qI (j : Int)]) (fun (j : Nat) (z : Nat → Nat → Int) => (rput h m (qup (qup (qup (qup (qup (qup f1 20 l) 3 (((pgS (g 1) N i).1 : Nat) : Int)) 4 ((pgS (g 1) N i).2.1)) 5 ((pgS (g 1) N i).2.2)) 6 ((pgS (g 1) N i).2.1)) 7 ((pgS (g 1) N i).2.2)) z)) (fun (j : Nat) (z : Nat → Nat → Int) => j ≤ 4 * i ∧ (∀ q, q ≠ 2 → z q = (gup y 5 (qup (y 5) k (i : Int))) q) ∧ ∀ q, q < 384 → z 2 q = if 96 * k ≤ q ∧ q < 96 * k + j then y 4 (q - 96 * k) else g 2 q) 0 (gup y 5 (qup (y 5) k (i : Int))) (⟨by omega, fun q _ => rfl, fun q hq => by rw [if_neg (by omega)]; exact congrFun (hp3 2 (by decide)) q⟩) (fun j z hp kk => ?_))
        obtain ⟨hz1, hz2, hz3⟩ := hp
        show qEy M_X12_text 179 [qR m, qI (k : Int), qI (j : Int)] [] (rput h m (qup (qup (qup (qup (qup (qup f1 20 l) 3 (((pgS (g 1) N i).1 : Nat) : Int)) 4 ((pgS (g 1) N i).2.1)) 5 ((pgS (g 1) N i).2.2)) 6 ((pgS (g 1) N i).2.1)) 7 ((pgS (g 1) N i).2.2)) z) Q
        have hz4 : z 4 = y 4 := hz2 4 (by decide)
        refine qy (fun _ _ k9 => z_iload_n d_X12_text_179 rfl rfl k9) ?_
        refine qy (fun _ _ k9 => z_iconst d_X12_text_180 (by decide) k9) ?_
        refine qy (fun _ _ k9 => z_aload_n d_X12_text_181 rfl rfl k9) ?_
        refine qy (fun _ _ k9 => z_getf (v := qI l) d_X12_text_182 fl_X12_222 rput_o rfl k9) ?_
        refine qy (fun _ _ k9 => z_eq rfl (qc (qi hli) rfl) rfl k9) ?_
        refine qy (fun _ _ k9 => z_imul d_X12_text_185 (by omega) k9) ?_
        refine qy2 (fun _ _ => z_icmp_ge 212 d_X12_text_186 (by decide)) (fun hc6 => ?_) (fun hc6 => ?_)
        · refine qy (fun _ _ k9 => z_goto 261 d_X12_text_212 (by decide) k9) ?_
          refine qy (fun _ _ k9 => z_aload_n d_X12_text_261 rfl rfl k9) ?_
          refine qy (fun _ _ k9 => z_iload_n d_X12_text_262 rfl rfl k9) ?_
          refine qy (fun _ _ k9 => z_iconst d_X12_text_263 (by decide) k9) ?_
          refine qy2 (fun _ _ => z_icmp_ge 271 d_X12_text_264 (by decide)) (fun hc7 => absurd hc7 (by omega)) (fun hc7 => ?_)
          refine qy (fun _ _ k9 => z_iconst d_X12_text_267 (by decide) k9) ?_
          refine qy (fun _ _ k9 => z_goto 275 d_X12_text_268 (by decide) k9) ?_
          refine qy (fun _ _ k9 => z_putf (fs' := [qI (f1 0), qI (f1 1), qI (f1 2), qI (((pgS (g 1) N i).1 : Nat) : Int), qI ((pgS (g 1) N i).2.1), qI ((pgS (g 1) N i).2.2), qI ((pgS (g 1) N i).2.1), qI ((pgS (g 1) N i).2.2), qR (m + 1), qR (m + 2), qR (m + 3), qR (m + 4), qR (m + 5), qR (m + 6), qR (m + 7), qR (m + 8), qR (m + 9), qR (m + 10), qI (f1 18), qI (f1 19), qI l, qR (m + 11), qR (m + 12), qR (m + 13), qR (m + 14), qI 0, qR (m + 15), qI (f1 27), qR (m + 16), qR (m + 17), qR (m + 18), qR (m + 19), qR (m + 20), qR (m + 21), qR (m + 22), qR (m + 23), qR (m + 24), qI (f1 37), qI (f1 38), qI (f1 39), qI (f1 40), qR (m + 25), qR (m + 26), qR (m + 27), qR (m + 28), qR (m + 29), qR (m + 30), qR (m + 31), qI (f1 48), qR (m + 32), qR (m + 33), qR (m + 34), qR (m + 35), qR (m + 36), qR (m + 37)]) d_X12_text_275 fp_X12_256 rput_o (fun _ => rfl) (fun _ => rfl) (Nat.le_of_ble_eq_true rfl) rfl k9) ?_
          refine qy (fun _ _ k9 => z_eq rfl rfl (rput_sf (f' := (qup (qup (qup (qup (qup (qup (qup f1 20 l) 3 (((pgS (g 1) N i).1 : Nat) : Int)) 4 ((pgS (g 1) N i).2.1)) 5 ((pgS (g 1) N i).2.2)) 6 ((pgS (g 1) N i).2.1)) 7 ((pgS (g 1) N i).2.2)) 25 0)) rfl) k9) ?_
          refine qy (fun _ _ k9 => z_aload_n d_X12_text_278 rfl rfl k9) ?_
          refine qy (fun _ _ k9 => z_getf (v := qI l) d_X12_text_279 fl_X12_222 rput_o rfl k9) ?_
          refine qy (fun _ _ k9 => z_eq rfl (qc (qi hli) rfl) rfl k9) ?_
          exact y_ret (hQ (qup (qup (qup (qup (qup (qup (qup f1 20 l) 3 (((pgS (g 1) N i).1 : Nat) : Int)) 4 ((pgS (g 1) N i).2.1)) 5 ((pgS (g 1) N i).2.2)) 6 ((pgS (g 1) N i).2.1)) 7 ((pgS (g 1) N i).2.2)) 25 0) z (by unfold pgP; rw [hJ]; exact ⟨⟨⟨(fun j hj => by have hj9 := hj; simp only [List.mem_cons, List.not_mem_nil, or_false, not_or] at hj9; rw [qup_ne (by omega), qup_ne (by omega), qup_ne (by omega), qup_ne (by omega), qup_ne (by omega), qup_ne (by omega), qup_ne (by omega)]; exact hf1x j hj), hf1_1, rfl, rfl⟩, hf1_18, hf1_19⟩, (fun j hj => by simp only [List.mem_cons, List.not_mem_nil, or_false, not_or] at hj; rw [hz2 j (by omega), gup_ne (by omega)]; exact (hp3 j (by omega)).trans (gup_ne (by omega))), (fun z => absurd hs0 z), (fun _ => ⟨rfl, hp6.2.1, by rw [hz2 5 (by decide), gup_eq, hp3 5 (by decide)]; rfl, fun q hq => by rw [hz3 q hq]; by_cases e2 : 96 * k ≤ q ∧ q < 96 * k + j; rw [if_pos e2, if_pos (by omega), hp6.2.2 _ (by omega)]; rw [if_neg e2, if_neg (by omega)]⟩)⟩)) (z_iret d_X12_text_282 rfl (qsi (by rw [hJ, qif_t hs0])) rfl)
        · refine qy (fun _ _ k9 => z_aload_n d_X12_text_189 rfl rfl k9) ?_
          refine qy (fun _ _ k9 => z_getf (v := qR (m + 2)) d_X12_text_190 fl_X12_17 rput_o rfl k9) ?_
          refine qy (fun _ _ k9 => z_bipush d_X12_text_193 (by decide) k9) ?_
          refine qy (fun _ _ k9 => z_iload_n d_X12_text_195 rfl rfl k9) ?_
          refine qy (fun _ _ k9 => z_imul d_X12_text_196 (by omega) k9) ?_
          refine qy (fun _ _ k9 => z_iload_n d_X12_text_197 rfl rfl k9) ?_
          refine qy (fun _ _ k9 => z_iadd d_X12_text_198 (by omega) k9) ?_
          refine qy (fun _ _ k9 => z_aload_n d_X12_text_199 rfl rfl k9) ?_
          refine qy (fun _ _ k9 => z_getf (v := qR (m + 4)) d_X12_text_200 fl_X12_23 rput_o rfl k9) ?_
          refine qy (fun _ _ k9 => z_iload_n d_X12_text_203 rfl rfl k9) ?_
          refine qy (fun _ _ k9 => z_ild j d_X12_text_204 (rput_a2 4 (t := 0) (n := 96) (F := (z 4)) rfl rfl rfl (by decide) (by decide)) rfl (by omega) k9) ?_
          refine qy (fun _ _ k9 => z_ist ((96 * k) + j) d_X12_text_205 (rput_a2 2 (t := 0) (n := 384) (F := (z 2)) rfl rfl rfl (by decide) (by decide)) (by omega) rfl (by omega) k9) ?_
          refine qy (fun _ _ k9 => z_eq rfl rfl (rput_sa 2 rfl rfl (by decide) (by decide)) k9) ?_
          refine qy (fun _ _ k9 => z_iinc (ls' := [qR m, qI (k : Int), qI ((j : Int) + 1)]) d_X12_text_206 rfl (by decide) (by omega) rfl k9) ?_
          refine qy (fun _ _ k9 => z_goto 179 d_X12_text_209 (by decide) k9) ?_
          exact qy (fun _ _ k9 => z_eq (qc rfl (qc rfl (qc (qi (by omega)) rfl))) rfl rfl k9) (kk (j + 1) (gup z 2 (qup (z 2) ((96 * k) + j) ((z 4) j))) (⟨by omega, fun q hq => (gup_ne hq).trans (hz2 q hq), fun q hq => by rw [gup_eq]; by_cases e : q = 96 * k + j; rw [e, qup_eq, if_pos (by omega), hz4, show 96 * k + j - 96 * k = j by omega]; rw [qup_ne e, hz3 q hq]; by_cases e2 : 96 * k ≤ q ∧ q < 96 * k + j; rw [if_pos e2, if_pos (by omega)]; rw [if_neg e2, if_neg (by omega)]⟩) (by omega))
      · refine qy (fun _ _ k9 => z_iload_n d_X12_text_102 rfl rfl k9) ?_
        refine qy (fun _ _ k9 => z_iconst d_X12_text_103 (by decide) k9) ?_
        refine qy2 (fun _ _ => z_icmp_ge 114 d_X12_text_104 (by decide)) (fun hc8 => absurd hc8 (by omega)) (fun hc8 => ?_)
        refine qy (fun _ _ k9 => z_aload_n d_X12_text_107 rfl rfl k9) ?_
        have hgo : gon N (pgS (g 1) N i) := ⟨by omega, by omega⟩
        have hp6 := hp4 hgo.1
        have hli : l = (i : Int) := hp6.1
        obtain ⟨l2, y2, ⟨hv1, hv2⟩, hx⟩ := y_lineOfPage (h := h) (f := f1) (g := y) (N := N) (L := i) (pgS (g 1) N i) hm hf1_2 hN4 (pgS_le i) (by rw [hy1]; exact pgS_sk i) hgo.1 (by omega)
        rw [hy1, ← hli] at hx
        rw [hy1] at hv2
        have hy2 : y2 1 = g 1 := (hv1 1 (by decide)).trans hy1
        refine qy (fun _ _ k9 => z_cv0 (M1 := M_X12_lineOfPage) d_X12_text_108 lv_X12_237 k_X12_lineOfPage [] rfl rfl rput_o ⟨_, _, rfl⟩ (Nat.le_of_ble_eq_true rfl) (by decide) (by decide) (Nat.le_of_ble_eq_true rfl) hx k9) ?_
        refine qy (fun _ _ k9 => z_goto 130 d_X12_text_111 (by decide) k9) ?_
        refine qy (fun _ _ k9 => z_aload_n d_X12_text_130 rfl rfl k9) ?_
        have hx9 := y_blanks (h := h) (f := qup f1 20 l2) (g := y2) (N := N) (lpS (g 1) N i (pgS (g 1) N i)) hm hf1_2 hN4 (lpS_le (pgS_le i))
        rw [hy2] at hx9
        refine qy (fun _ _ k9 => z_cv0 (M1 := M_X12_blanks) d_X12_text_131 lv_X12_164 k_X12_blanks [] rfl rfl rput_o ⟨_, _, rfl⟩ (Nat.le_of_ble_eq_true rfl) (by decide) (by decide) (Nat.le_of_ble_eq_true rfl) hx9 k9) ?_
        refine qy (fun _ _ k9 => z_goto 84 d_X12_text_134 (by decide) k9) ?_
        exact qy (fun _ _ k9 => z_eq rfl rfl rfl k9) (kk (i + 1) l2 y2 (⟨fun q hq => by rcases Nat.lt_or_ge q i with z | z; exact hp1 q z; exact (show q = i by omega) ▸ hgo, by omega, fun j hj => (hv1 j hj).trans (hp3 j hj), fun z => ⟨(hv2 z).1, (hv2 z).2.1, fun j hj => by rw [(hv2 z).2.2 j]; by_cases e : j / 4 = i; rw [if_pos e, e]; rw [if_neg e]; exact hp6.2.2 j (by omega)⟩⟩) (by omega))
  · refine qy (fun _ _ k9 => z_aload_n d_X12_text_67 rfl rfl k9) ?_
    refine qy (fun _ _ k9 => z_getf (v := qR (m + 10)) d_X12_text_68 fl_X12_41 rput_o rfl k9) ?_
    refine qy (fun _ _ k9 => z_iload_n d_X12_text_71 rfl rfl k9) ?_
    refine qy (fun _ _ k9 => z_iconst d_X12_text_72 (by decide) k9) ?_
    refine qy (fun _ _ k9 => z_ist i d_X12_text_73 (rput_a2 10 (t := 0) (n := 16) (F := (qmx i (fun _ => -1) (g 10))) rfl rfl rfl (by decide) (by decide)) (by omega) rfl (by omega) k9) ?_
    refine qy (fun _ _ k9 => z_eq rfl rfl ((rput_sa 10 rfl rfl (by decide) (by decide)).trans (rput_cg rfl (gup_gup _ _ _))) k9) ?_
    refine qy (fun _ _ k9 => z_iinc (ls' := [qR m, qI (k : Int), qI ((i : Int) + 1)]) d_X12_text_74 rfl (by decide) (by omega) rfl k9) ?_
    refine qy (fun _ _ k9 => z_goto 61 d_X12_text_77 (by decide) k9) ?_
    exact qy (fun _ _ k9 => z_eq (qc rfl (qc rfl (qc (qi (by omega)) rfl))) rfl (rput_cg rfl (gup_cg rfl (qmx_s _ _ _))) k9) (kk (i + 1) (by omega) (by omega))
set_option maxRecDepth 20000 in
set_option maxHeartbeats 4000000 in
theorem c_text_pn {h : qH} {m : Nat} {f : Nat → Int} {g : Nat → Nat → Int} {N : Nat} (hm : 2 ≤ m) (h0 : f 0 = 0) (hN : f 1 = (N : Int)) (hN4 : N ≤ 400)  : ∃ f' g', pnP f g (g 1) N f' g' ∧ qEx M_X12_text 0 [qR m, qI 4, qU] [] (rput h m f g) (some (qI (qif ((pnS (g 1) N (pnJ (g 1) N)).2.1 = 0) ((pnJ (g 1) N) : Int) (-1)))) (rput h m f' g') := by
  refine y_in2 (fun Q hQ => ?_)
  refine qy (fun _ _ k9 => z_aload_n d_X12_text_0 rfl rfl k9) ?_
  refine qy (fun _ _ k9 => z_iconst d_X12_text_1 (by decide) k9) ?_
  refine qy (fun _ _ k9 => z_putf (fs' := [qI 0, qI (f 1), qI (f 2), qI (f 3), qI (f 4), qI (f 5), qI (f 6), qI (f 7), qR (m + 1), qR (m + 2), qR (m + 3), qR (m + 4), qR (m + 5), qR (m + 6), qR (m + 7), qR (m + 8), qR (m + 9), qR (m + 10), qI (f 18), qI (f 19), qI (f 20), qR (m + 11), qR (m + 12), qR (m + 13), qR (m + 14), qI (f 25), qR (m + 15), qI (f 27), qR (m + 16), qR (m + 17), qR (m + 18), qR (m + 19), qR (m + 20), qR (m + 21), qR (m + 22), qR (m + 23), qR (m + 24), qI (f 37), qI (f 38), qI (f 39), qI (f 40), qR (m + 25), qR (m + 26), qR (m + 27), qR (m + 28), qR (m + 29), qR (m + 30), qR (m + 31), qI (f 48), qR (m + 32), qR (m + 33), qR (m + 34), qR (m + 35), qR (m + 36), qR (m + 37)]) d_X12_text_2 fp_X12_127 rput_o (fun _ => rfl) (fun _ => rfl) (Nat.le_of_ble_eq_true rfl) rfl k9) ?_
  refine qy (fun _ _ k9 => z_eq rfl rfl ((rput_sf (f' := qup f 0 0) rfl).trans (rput_cg (qup_self h0) rfl)) k9) ?_
  refine qy (fun _ _ k9 => z_aload_n d_X12_text_5 rfl rfl k9) ?_
  refine qy (fun _ _ k9 => z_aload_n d_X12_text_6 rfl rfl k9) ?_
  refine qy (fun _ _ k9 => z_getf (v := qI (f 1)) d_X12_text_7 fl_X12_130 rput_o rfl k9) ?_
  refine qy (fun _ _ k9 => z_eq rfl (qc (qi hN) rfl) rfl k9) ?_
  refine qy (fun _ _ k9 => z_putf (fs' := [qI (f 0), qI (f 1), qI (N : Int), qI (f 3), qI (f 4), qI (f 5), qI (f 6), qI (f 7), qR (m + 1), qR (m + 2), qR (m + 3), qR (m + 4), qR (m + 5), qR (m + 6), qR (m + 7), qR (m + 8), qR (m + 9), qR (m + 10), qI (f 18), qI (f 19), qI (f 20), qR (m + 11), qR (m + 12), qR (m + 13), qR (m + 14), qI (f 25), qR (m + 15), qI (f 27), qR (m + 16), qR (m + 17), qR (m + 18), qR (m + 19), qR (m + 20), qR (m + 21), qR (m + 22), qR (m + 23), qR (m + 24), qI (f 37), qI (f 38), qI (f 39), qI (f 40), qR (m + 25), qR (m + 26), qR (m + 27), qR (m + 28), qR (m + 29), qR (m + 30), qR (m + 31), qI (f 48), qR (m + 32), qR (m + 33), qR (m + 34), qR (m + 35), qR (m + 36), qR (m + 37)]) d_X12_text_10 fp_X12_147 rput_o (fun _ => rfl) (fun _ => rfl) (Nat.le_of_ble_eq_true rfl) rfl k9) ?_
  refine qy (fun _ _ k9 => z_eq rfl rfl (rput_sf (f' := (qup f 2 (N : Int))) rfl) k9) ?_
  refine qy (fun _ _ k9 => z_aload_n d_X12_text_13 rfl rfl k9) ?_
  refine qy (fun _ _ k9 => z_iconst d_X12_text_14 (by decide) k9) ?_
  refine qy (fun _ _ k9 => z_putf (fs' := [qI (f 0), qI (f 1), qI (N : Int), qI 0, qI (f 4), qI (f 5), qI (f 6), qI (f 7), qR (m + 1), qR (m + 2), qR (m + 3), qR (m + 4), qR (m + 5), qR (m + 6), qR (m + 7), qR (m + 8), qR (m + 9), qR (m + 10), qI (f 18), qI (f 19), qI (f 20), qR (m + 11), qR (m + 12), qR (m + 13), qR (m + 14), qI (f 25), qR (m + 15), qI (f 27), qR (m + 16), qR (m + 17), qR (m + 18), qR (m + 19), qR (m + 20), qR (m + 21), qR (m + 22), qR (m + 23), qR (m + 24), qI (f 37), qI (f 38), qI (f 39), qI (f 40), qR (m + 25), qR (m + 26), qR (m + 27), qR (m + 28), qR (m + 29), qR (m + 30), qR (m + 31), qI (f 48), qR (m + 32), qR (m + 33), qR (m + 34), qR (m + 35), qR (m + 36), qR (m + 37)]) d_X12_text_15 fp_X12_150 rput_o (fun _ => rfl) (fun _ => rfl) (Nat.le_of_ble_eq_true rfl) rfl k9) ?_
  refine qy (fun _ _ k9 => z_eq rfl rfl (rput_sf (f' := (qup (qup f 2 (N : Int)) 3 0)) rfl) k9) ?_
  refine qy (fun _ _ k9 => z_aload_n d_X12_text_18 rfl rfl k9) ?_
  refine qy (fun _ _ k9 => z_iconst d_X12_text_19 (by decide) k9) ?_
  refine qy (fun _ _ k9 => z_putf (fs' := [qI (f 0), qI (f 1), qI (N : Int), qI 0, qI 0, qI (f 5), qI (f 6), qI (f 7), qR (m + 1), qR (m + 2), qR (m + 3), qR (m + 4), qR (m + 5), qR (m + 6), qR (m + 7), qR (m + 8), qR (m + 9), qR (m + 10), qI (f 18), qI (f 19), qI (f 20), qR (m + 11), qR (m + 12), qR (m + 13), qR (m + 14), qI (f 25), qR (m + 15), qI (f 27), qR (m + 16), qR (m + 17), qR (m + 18), qR (m + 19), qR (m + 20), qR (m + 21), qR (m + 22), qR (m + 23), qR (m + 24), qI (f 37), qI (f 38), qI (f 39), qI (f 40), qR (m + 25), qR (m + 26), qR (m + 27), qR (m + 28), qR (m + 29), qR (m + 30), qR (m + 31), qI (f 48), qR (m + 32), qR (m + 33), qR (m + 34), qR (m + 35), qR (m + 36), qR (m + 37)]) d_X12_text_20 fp_X12_141 rput_o (fun _ => rfl) (fun _ => rfl) (Nat.le_of_ble_eq_true rfl) rfl k9) ?_
  refine qy (fun _ _ k9 => z_eq rfl rfl (rput_sf (f' := (qup (qup (qup f 2 (N : Int)) 3 0) 4 0)) rfl) k9) ?_
  refine qy (fun _ _ k9 => z_aload_n d_X12_text_23 rfl rfl k9) ?_
  refine qy (fun _ _ k9 => z_iconst d_X12_text_24 (by decide) k9) ?_
  refine qy (fun _ _ k9 => z_putf (fs' := [qI (f 0), qI (f 1), qI (N : Int), qI 0, qI 0, qI (-1), qI (f 6), qI (f 7), qR (m + 1), qR (m + 2), qR (m + 3), qR (m + 4), qR (m + 5), qR (m + 6), qR (m + 7), qR (m + 8), qR (m + 9), qR (m + 10), qI (f 18), qI (f 19), qI (f 20), qR (m + 11), qR (m + 12), qR (m + 13), qR (m + 14), qI (f 25), qR (m + 15), qI (f 27), qR (m + 16), qR (m + 17), qR (m + 18), qR (m + 19), qR (m + 20), qR (m + 21), qR (m + 22), qR (m + 23), qR (m + 24), qI (f 37), qI (f 38), qI (f 39), qI (f 40), qR (m + 25), qR (m + 26), qR (m + 27), qR (m + 28), qR (m + 29), qR (m + 30), qR (m + 31), qI (f 48), qR (m + 32), qR (m + 33), qR (m + 34), qR (m + 35), qR (m + 36), qR (m + 37)]) d_X12_text_25 fp_X12_144 rput_o (fun _ => rfl) (fun _ => rfl) (Nat.le_of_ble_eq_true rfl) rfl k9) ?_
  refine qy (fun _ _ k9 => z_eq rfl rfl (rput_sf (f' := (qup (qup (qup (qup f 2 (N : Int)) 3 0) 4 0) 5 (-1))) rfl) k9) ?_
  refine qy (fun _ _ k9 => z_aload_n d_X12_text_28 rfl rfl k9) ?_
  refine qy (fun _ _ k9 => z_iconst d_X12_text_29 (by decide) k9) ?_
  refine qy (fun _ _ k9 => z_putf (fs' := [qI (f 0), qI (f 1), qI (N : Int), qI 0, qI 0, qI (-1), qI (f 6), qI (f 7), qR (m + 1), qR (m + 2), qR (m + 3), qR (m + 4), qR (m + 5), qR (m + 6), qR (m + 7), qR (m + 8), qR (m + 9), qR (m + 10), qI (f 18), qI (f 19), qI 0, qR (m + 11), qR (m + 12), qR (m + 13), qR (m + 14), qI (f 25), qR (m + 15), qI (f 27), qR (m + 16), qR (m + 17), qR (m + 18), qR (m + 19), qR (m + 20), qR (m + 21), qR (m + 22), qR (m + 23), qR (m + 24), qI (f 37), qI (f 38), qI (f 39), qI (f 40), qR (m + 25), qR (m + 26), qR (m + 27), qR (m + 28), qR (m + 29), qR (m + 30), qR (m + 31), qI (f 48), qR (m + 32), qR (m + 33), qR (m + 34), qR (m + 35), qR (m + 36), qR (m + 37)]) d_X12_text_30 fp_X12_222 rput_o (fun _ => rfl) (fun _ => rfl) (Nat.le_of_ble_eq_true rfl) rfl k9) ?_
  refine qy (fun _ _ k9 => z_eq rfl rfl (rput_sf (f' := (qup (qup (qup (qup (qup f 2 (N : Int)) 3 0) 4 0) 5 (-1)) 20 0)) rfl) k9) ?_
  refine qy (fun _ _ k9 => z_aload_n d_X12_text_33 rfl rfl k9) ?_
  refine qy (fun _ _ k9 => z_iconst d_X12_text_34 (by decide) k9) ?_
  refine qy (fun _ _ k9 => z_putf (fs' := [qI (f 0), qI (f 1), qI (N : Int), qI 0, qI 0, qI (-1), qI 0, qI (f 7), qR (m + 1), qR (m + 2), qR (m + 3), qR (m + 4), qR (m + 5), qR (m + 6), qR (m + 7), qR (m + 8), qR (m + 9), qR (m + 10), qI (f 18), qI (f 19), qI 0, qR (m + 11), qR (m + 12), qR (m + 13), qR (m + 14), qI (f 25), qR (m + 15), qI (f 27), qR (m + 16), qR (m + 17), qR (m + 18), qR (m + 19), qR (m + 20), qR (m + 21), qR (m + 22), qR (m + 23), qR (m + 24), qI (f 37), qI (f 38), qI (f 39), qI (f 40), qR (m + 25), qR (m + 26), qR (m + 27), qR (m + 28), qR (m + 29), qR (m + 30), qR (m + 31), qI (f 48), qR (m + 32), qR (m + 33), qR (m + 34), qR (m + 35), qR (m + 36), qR (m + 37)]) d_X12_text_35 fp_X12_234 rput_o (fun _ => rfl) (fun _ => rfl) (Nat.le_of_ble_eq_true rfl) rfl k9) ?_
  refine qy (fun _ _ k9 => z_eq rfl rfl (rput_sf (f' := (qup (qup (qup (qup (qup (qup f 2 (N : Int)) 3 0) 4 0) 5 (-1)) 20 0) 6 0)) rfl) k9) ?_
  refine qy (fun _ _ k9 => z_aload_n d_X12_text_38 rfl rfl k9) ?_
  refine qy (fun _ _ k9 => z_iconst d_X12_text_39 (by decide) k9) ?_
  refine qy (fun _ _ k9 => z_putf (fs' := [qI (f 0), qI (f 1), qI (N : Int), qI 0, qI 0, qI (-1), qI 0, qI (-1), qR (m + 1), qR (m + 2), qR (m + 3), qR (m + 4), qR (m + 5), qR (m + 6), qR (m + 7), qR (m + 8), qR (m + 9), qR (m + 10), qI (f 18), qI (f 19), qI 0, qR (m + 11), qR (m + 12), qR (m + 13), qR (m + 14), qI (f 25), qR (m + 15), qI (f 27), qR (m + 16), qR (m + 17), qR (m + 18), qR (m + 19), qR (m + 20), qR (m + 21), qR (m + 22), qR (m + 23), qR (m + 24), qI (f 37), qI (f 38), qI (f 39), qI (f 40), qR (m + 25), qR (m + 26), qR (m + 27), qR (m + 28), qR (m + 29), qR (m + 30), qR (m + 31), qI (f 48), qR (m + 32), qR (m + 33), qR (m + 34), qR (m + 35), qR (m + 36), qR (m + 37)]) d_X12_text_40 fp_X12_9 rput_o (fun _ => rfl) (fun _ => rfl) (Nat.le_of_ble_eq_true rfl) rfl k9) ?_
  refine qy (fun _ _ k9 => z_eq rfl rfl (rput_sf (f' := (qup (qup (qup (qup (qup (qup (qup f 2 (N : Int)) 3 0) 4 0) 5 (-1)) 20 0) 6 0) 7 (-1))) rfl) k9) ?_
  refine qy (fun _ _ k9 => z_aload_n d_X12_text_43 rfl rfl k9) ?_
  refine qy (fun _ _ k9 => z_iconst d_X12_text_44 (by decide) k9) ?_
  refine qy (fun _ _ k9 => z_putf (fs' := [qI (f 0), qI 0, qI (N : Int), qI 0, qI 0, qI (-1), qI 0, qI (-1), qR (m + 1), qR (m + 2), qR (m + 3), qR (m + 4), qR (m + 5), qR (m + 6), qR (m + 7), qR (m + 8), qR (m + 9), qR (m + 10), qI (f 18), qI (f 19), qI 0, qR (m + 11), qR (m + 12), qR (m + 13), qR (m + 14), qI (f 25), qR (m + 15), qI (f 27), qR (m + 16), qR (m + 17), qR (m + 18), qR (m + 19), qR (m + 20), qR (m + 21), qR (m + 22), qR (m + 23), qR (m + 24), qI (f 37), qI (f 38), qI (f 39), qI (f 40), qR (m + 25), qR (m + 26), qR (m + 27), qR (m + 28), qR (m + 29), qR (m + 30), qR (m + 31), qI (f 48), qR (m + 32), qR (m + 33), qR (m + 34), qR (m + 35), qR (m + 36), qR (m + 37)]) d_X12_text_45 fp_X12_130 rput_o (fun _ => rfl) (fun _ => rfl) (Nat.le_of_ble_eq_true rfl) rfl k9) ?_
  refine qy (fun _ _ k9 => z_eq rfl rfl (rput_sf (f' := (qup (qup (qup (qup (qup (qup (qup (qup f 2 (N : Int)) 3 0) 4 0) 5 (-1)) 20 0) 6 0) 7 (-1)) 1 0)) rfl) k9) ?_
  refine qy (fun _ _ k9 => z_iload_n d_X12_text_48 rfl rfl k9) ?_
  refine qy (fun _ _ k9 => z_iconst d_X12_text_49 (by decide) k9) ?_
  refine qy (fun _ _ k9 => z_iconst d_X12_text_50 (by decide) k9) ?_
  refine qy (fun _ _ k9 => z_cs (M1 := M_X12_in) d_X12_text_51 ls_X12_137 k_X12_in [qI 4, qI 0, qI 5] rfl rfl (Nat.le_of_ble_eq_true rfl) (by decide) (by decide) (Nat.le_of_ble_eq_true rfl) (c_in 4 0 5) k9) ?_
  refine qy2 (fun _ _ => z_ifneB 59 d_X12_text_54 (by decide)) (fun hc1 => ?_) (fun hc1 => absurd hc1 (by omega))
  refine qy (fun _ _ k9 => z_iconst d_X12_text_59 (by decide) k9) ?_
  refine qy (fun _ _ k9 => z_istore_n (ls' := [qR m, qI 4, qI 0]) d_X12_text_60 rfl (by decide) rfl k9) ?_
  refine qy (fun _ _ k9 => z_eq (qc rfl (qc rfl (qc (qi (rfl)) rfl))) rfl (rput_cg rfl (gup_self (qmx_0 _ _).symm).symm) k9) (y_wh1 (fun (i : Nat) => 16 - i) (fun (i : Nat) => [qR m, qI 4, qI (i : Int)]) (fun (i : Nat) => (rput h m (qup (qup (qup (qup (qup (qup (qup (qup f 2 (N : Int)) 3 0) 4 0) 5 (-1)) 20 0) 6 0) 7 (-1)) 1 0) (gup g 10 (qmx i (fun _ => -1) (g 10))))) (fun (i : Nat) => i ≤ 16) 0 (by omega) (fun i hp kk => ?_))
  show qEy M_X12_text 61 [qR m, qI 4, qI (i : Int)] [] (rput h m (qup (qup (qup (qup (qup (qup (qup (qup f 2 (N : Int)) 3 0) 4 0) 5 (-1)) 20 0) 6 0) 7 (-1)) 1 0) (gup g 10 (qmx i (fun _ => -1) (g 10)))) Q
  refine qy (fun _ _ k9 => z_iload_n d_X12_text_61 rfl rfl k9) ?_
  refine qy (fun _ _ k9 => z_bipush d_X12_text_62 (by decide) k9) ?_
  refine qy2 (fun _ _ => z_icmp_ge 80 d_X12_text_64 (by decide)) (fun hc2 => ?_) (fun hc2 => ?_)
  · have hi16 : i = 16 := by omega
    subst hi16
    obtain ⟨f1, hf1⟩ : ∃ f1, f1 = (qup (qup (qup (qup (qup (qup (qup (qup f 2 (N : Int)) 3 0) 4 0) 5 (-1)) 20 0) 6 0) 7 (-1)) 1 0) := ⟨_, rfl⟩
    have hf1_1 : f1 1 = 0 := by rw [hf1]; rfl
    have hf1_2 : f1 2 = (N : Int) := by rw [hf1]; rfl
    have hf1_6 : f1 6 = 0 := by rw [hf1]; rfl
    have hf1_7 : f1 7 = (-1) := by rw [hf1]; rfl
    have hf1_20 : f1 20 = 0 := by rw [hf1]; rfl
    have hf1_18 : f1 18 = f 18 := by rw [hf1]; rfl
    have hf1_19 : f1 19 = f 19 := by rw [hf1]; rfl
    have hf1_25 : f1 25 = f 25 := by rw [hf1]; rfl
    have hf1x : ∀ j, j ∉ [1, 2, 3, 4, 5, 6, 7, 18, 19, 20, 25] → f1 j = f j := by
      intro j hj
      simp only [List.mem_cons, List.not_mem_nil, or_false, not_or] at hj
      rw [hf1]; rw [qup_ne (by omega), qup_ne (by omega), qup_ne (by omega), qup_ne (by omega), qup_ne (by omega), qup_ne (by omega), qup_ne (by omega), qup_ne (by omega)]
    refine qy (fun _ _ k9 => z_eq rfl rfl (show (rput h m (qup (qup (qup (qup (qup (qup (qup (qup f 2 (N : Int)) 3 0) 4 0) 5 (-1)) 20 0) 6 0) 7 (-1)) 1 0) (gup g 10 (qmx 16 (fun _ => -1) (g 10)))) = (rput h m (qup (qup (qup (qup f1 20 0) 3 ((((0, 0, -1) : pS).1 : Nat) : Int)) 4 (((0, 0, -1) : pS).2.1)) 5 (((0, 0, -1) : pS).2.2)) (gup g 10 (qmx 16 (fun _ => -1) (g 10)))) by rw [hf1]; exact rput_cg ((qup_self rfl).trans ((qup_self rfl).trans ((qup_self rfl).trans (qup_self rfl)))).symm rfl) k9) ?_
    refine qy (fun _ _ k9 => z_aload_n d_X12_text_80 rfl rfl k9) ?_
    refine qy (fun _ _ k9 => z_cv0 (M1 := M_X12_blanks) d_X12_text_81 lv_X12_164 k_X12_blanks [] rfl rfl rput_o ⟨_, _, rfl⟩ (Nat.le_of_ble_eq_true rfl) (by decide) (by decide) (Nat.le_of_ble_eq_true rfl) (y_blanks (N := N) ((0, 0, -1) : pS) hm hf1_2 hN4 (Nat.zero_le _)) k9) ?_
    refine qy (fun _ _ k9 => z_eq rfl rfl rfl k9) (y_wh3 (fun (i : Nat) (l : Int) (y : Nat → Nat → Int) => 26 - i) (fun (i : Nat) (l : Int) (y : Nat → Nat → Int) => [qR m, qI 4, qI 16]) (fun (i : Nat) (l : Int) (y : Nat → Nat → Int) => (rput h m (qup (qup (qup (qup f1 20 l) 3 (((pnS (g 1) N i).1 : Nat) : Int)) 4 ((pnS (g 1) N i).2.1)) 5 ((pnS (g 1) N i).2.2)) y)) (fun (i : Nat) (l : Int) (y : Nat → Nat → Int) => (∀ q, q < i → gon N (pnS (g 1) N q)) ∧ i ≤ 17 ∧ (∀ j, j ≠ 8 → y j = (gup g 10 (qmx 16 (fun _ => -1) (g 10))) j) ∧ ((pnS (g 1) N i).2.1 = 0 → l = (i : Int) ∧ i ≤ 16 ∧ ∀ j, j < 4 * i → y 8 j = lqV (g 1) N (pnS (g 1) N (j / 4)) (j % 4))) 0 0 (gup g 10 (qmx 16 (fun _ => -1) (g 10))) (⟨fun q hq => absurd hq (by omega), by omega, fun j _ => rfl, fun _ => ⟨rfl, by omega, fun j hj => absurd hj (by omega)⟩⟩) (fun i l y hp kk => ?_))
    obtain ⟨hp1, hp2, hp3, hp4⟩ := hp
    show qEy M_X12_text 84 [qR m, qI 4, qI 16] [] (rput h m (qup (qup (qup (qup f1 20 l) 3 (((pnS (g 1) N i).1 : Nat) : Int)) 4 ((pnS (g 1) N i).2.1)) 5 ((pnS (g 1) N i).2.2)) y) Q
    have hy1 : y 1 = g 1 := (hp3 1 (by decide))
    refine qy (fun _ _ k9 => z_aload_n d_X12_text_84 rfl rfl k9) ?_
    refine qy (fun _ _ k9 => z_getf (v := qI ((pnS (g 1) N i).2.1)) d_X12_text_85 fl_X12_141 rput_o rfl k9) ?_
    refine qy2 (fun _ _ => z_if_ne 137 d_X12_text_88 (by decide)) (fun q88 => ?_) (fun q88 => ?_)
    · have hJ : (pnJ (g 1) N) = i := utl_at (by omega) (fun q hq => not_not_intro (hp1 q hq)) (fun z => by have z1 := z.1; have z2 := z.2; omega)
      refine qy (fun _ _ k9 => z_aload_n d_X12_text_137 rfl rfl k9) ?_
      refine qy (fun _ _ k9 => z_aload_n d_X12_text_138 rfl rfl k9) ?_
      refine qy (fun _ _ k9 => z_getf (v := qI ((pnS (g 1) N i).2.1)) d_X12_text_139 fl_X12_141 rput_o rfl k9) ?_
      refine qy (fun _ _ k9 => z_putf (fs' := [qI (f1 0), qI (f1 1), qI (f1 2), qI (((pnS (g 1) N i).1 : Nat) : Int), qI ((pnS (g 1) N i).2.1), qI ((pnS (g 1) N i).2.2), qI ((pnS (g 1) N i).2.1), qI (f1 7), qR (m + 1), qR (m + 2), qR (m + 3), qR (m + 4), qR (m + 5), qR (m + 6), qR (m + 7), qR (m + 8), qR (m + 9), qR (m + 10), qI (f1 18), qI (f1 19), qI l, qR (m + 11), qR (m + 12), qR (m + 13), qR (m + 14), qI (f1 25), qR (m + 15), qI (f1 27), qR (m + 16), qR (m + 17), qR (m + 18), qR (m + 19), qR (m + 20), qR (m + 21), qR (m + 22), qR (m + 23), qR (m + 24), qI (f1 37), qI (f1 38), qI (f1 39), qI (f1 40), qR (m + 25), qR (m + 26), qR (m + 27), qR (m + 28), qR (m + 29), qR (m + 30), qR (m + 31), qI (f1 48), qR (m + 32), qR (m + 33), qR (m + 34), qR (m + 35), qR (m + 36), qR (m + 37)]) d_X12_text_142 fp_X12_234 rput_o (fun _ => rfl) (fun _ => rfl) (Nat.le_of_ble_eq_true rfl) rfl k9) ?_
      refine qy (fun _ _ k9 => z_eq rfl rfl (rput_sf (f' := (qup (qup (qup (qup (qup f1 20 l) 3 (((pnS (g 1) N i).1 : Nat) : Int)) 4 ((pnS (g 1) N i).2.1)) 5 ((pnS (g 1) N i).2.2)) 6 ((pnS (g 1) N i).2.1))) rfl) k9) ?_
      refine qy (fun _ _ k9 => z_aload_n d_X12_text_145 rfl rfl k9) ?_
      refine qy (fun _ _ k9 => z_aload_n d_X12_text_146 rfl rfl k9) ?_
      refine qy (fun _ _ k9 => z_getf (v := qI ((pnS (g 1) N i).2.2)) d_X12_text_147 fl_X12_144 rput_o rfl k9) ?_
      refine qy (fun _ _ k9 => z_putf (fs' := [qI (f1 0), qI (f1 1), qI (f1 2), qI (((pnS (g 1) N i).1 : Nat) : Int), qI ((pnS (g 1) N i).2.1), qI ((pnS (g 1) N i).2.2), qI ((pnS (g 1) N i).2.1), qI ((pnS (g 1) N i).2.2), qR (m + 1), qR (m + 2), qR (m + 3), qR (m + 4), qR (m + 5), qR (m + 6), qR (m + 7), qR (m + 8), qR (m + 9), qR (m + 10), qI (f1 18), qI (f1 19), qI l, qR (m + 11), qR (m + 12), qR (m + 13), qR (m + 14), qI (f1 25), qR (m + 15), qI (f1 27), qR (m + 16), qR (m + 17), qR (m + 18), qR (m + 19), qR (m + 20), qR (m + 21), qR (m + 22), qR (m + 23), qR (m + 24), qI (f1 37), qI (f1 38), qI (f1 39), qI (f1 40), qR (m + 25), qR (m + 26), qR (m + 27), qR (m + 28), qR (m + 29), qR (m + 30), qR (m + 31), qI (f1 48), qR (m + 32), qR (m + 33), qR (m + 34), qR (m + 35), qR (m + 36), qR (m + 37)]) d_X12_text_150 fp_X12_9 rput_o (fun _ => rfl) (fun _ => rfl) (Nat.le_of_ble_eq_true rfl) rfl k9) ?_
      refine qy (fun _ _ k9 => z_eq rfl rfl (rput_sf (f' := (qup (qup (qup (qup (qup (qup f1 20 l) 3 (((pnS (g 1) N i).1 : Nat) : Int)) 4 ((pnS (g 1) N i).2.1)) 5 ((pnS (g 1) N i).2.2)) 6 ((pnS (g 1) N i).2.1)) 7 ((pnS (g 1) N i).2.2))) rfl) k9) ?_
      refine qy (fun _ _ k9 => z_aload_n d_X12_text_153 rfl rfl k9) ?_
      refine qy (fun _ _ k9 => z_getf (v := qI ((pnS (g 1) N i).2.1)) d_X12_text_154 fl_X12_141 rput_o rfl k9) ?_
      refine qy2 (fun _ _ => z_if_eq 162 d_X12_text_157 (by decide)) (fun hc3 => absurd hc3 (by omega)) (fun hc3 => ?_)
      refine qy (fun _ _ k9 => z_iconst d_X12_text_160 (by decide) k9) ?_
      exact y_ret (hQ (qup (qup (qup (qup (qup (qup f1 20 l) 3 (((pnS (g 1) N i).1 : Nat) : Int)) 4 ((pnS (g 1) N i).2.1)) 5 ((pnS (g 1) N i).2.2)) 6 ((pnS (g 1) N i).2.1)) 7 ((pnS (g 1) N i).2.2)) y (by unfold pnP; rw [hJ]; exact ⟨⟨⟨(fun j hj => by have hj9 := hj; simp only [List.mem_cons, List.not_mem_nil, or_false, not_or] at hj9; rw [qup_ne (by omega), qup_ne (by omega), qup_ne (by omega), qup_ne (by omega), qup_ne (by omega), qup_ne (by omega)]; exact hf1x j hj), hf1_1, rfl, rfl⟩, hf1_19⟩, (fun j hj => by simp only [List.mem_cons, List.not_mem_nil, or_false, not_or] at hj; exact (hp3 j (by omega)).trans (gup_ne (by omega))), (fun _ => ⟨hf1_25, hf1_18, hp3 7 (by decide)⟩), (fun z => absurd z (by omega))⟩)) (z_iret d_X12_text_161 rfl (qsi (by rw [hJ, qif_f (show ¬ (pnS (g 1) N i).2.1 = 0 by omega)])) rfl)
    · refine qy (fun _ _ k9 => z_aload_n d_X12_text_91 rfl rfl k9) ?_
      refine qy (fun _ _ k9 => z_getf (v := qI (((pnS (g 1) N i).1 : Nat) : Int)) d_X12_text_92 fl_X12_150 rput_o rfl k9) ?_
      refine qy (fun _ _ k9 => z_aload_n d_X12_text_95 rfl rfl k9) ?_
      refine qy (fun _ _ k9 => z_getf (v := qI (f1 2)) d_X12_text_96 fl_X12_147 rput_o rfl k9) ?_
      refine qy2 (fun _ _ => z_icmp_ge 137 d_X12_text_99 (by decide)) (fun q99 => ?_) (fun q99 => ?_)
      · have hJ : (pnJ (g 1) N) = i := utl_at (by omega) (fun q hq => not_not_intro (hp1 q hq)) (fun z => by have z1 := z.1; have z2 := z.2; omega)
        have hs0 : (pnS (g 1) N i).2.1 = 0 := by omega
        have hp6 := hp4 hs0
        have hli : l = (i : Int) := hp6.1
        refine qy (fun _ _ k9 => z_aload_n d_X12_text_137 rfl rfl k9) ?_
        refine qy (fun _ _ k9 => z_aload_n d_X12_text_138 rfl rfl k9) ?_
        refine qy (fun _ _ k9 => z_getf (v := qI ((pnS (g 1) N i).2.1)) d_X12_text_139 fl_X12_141 rput_o rfl k9) ?_
        refine qy (fun _ _ k9 => z_putf (fs' := [qI (f1 0), qI (f1 1), qI (f1 2), qI (((pnS (g 1) N i).1 : Nat) : Int), qI ((pnS (g 1) N i).2.1), qI ((pnS (g 1) N i).2.2), qI ((pnS (g 1) N i).2.1), qI (f1 7), qR (m + 1), qR (m + 2), qR (m + 3), qR (m + 4), qR (m + 5), qR (m + 6), qR (m + 7), qR (m + 8), qR (m + 9), qR (m + 10), qI (f1 18), qI (f1 19), qI l, qR (m + 11), qR (m + 12), qR (m + 13), qR (m + 14), qI (f1 25), qR (m + 15), qI (f1 27), qR (m + 16), qR (m + 17), qR (m + 18), qR (m + 19), qR (m + 20), qR (m + 21), qR (m + 22), qR (m + 23), qR (m + 24), qI (f1 37), qI (f1 38), qI (f1 39), qI (f1 40), qR (m + 25), qR (m + 26), qR (m + 27), qR (m + 28), qR (m + 29), qR (m + 30), qR (m + 31), qI (f1 48), qR (m + 32), qR (m + 33), qR (m + 34), qR (m + 35), qR (m + 36), qR (m + 37)]) d_X12_text_142 fp_X12_234 rput_o (fun _ => rfl) (fun _ => rfl) (Nat.le_of_ble_eq_true rfl) rfl k9) ?_
        refine qy (fun _ _ k9 => z_eq rfl rfl (rput_sf (f' := (qup (qup (qup (qup (qup f1 20 l) 3 (((pnS (g 1) N i).1 : Nat) : Int)) 4 ((pnS (g 1) N i).2.1)) 5 ((pnS (g 1) N i).2.2)) 6 ((pnS (g 1) N i).2.1))) rfl) k9) ?_
        refine qy (fun _ _ k9 => z_aload_n d_X12_text_145 rfl rfl k9) ?_
        refine qy (fun _ _ k9 => z_aload_n d_X12_text_146 rfl rfl k9) ?_
        refine qy (fun _ _ k9 => z_getf (v := qI ((pnS (g 1) N i).2.2)) d_X12_text_147 fl_X12_144 rput_o rfl k9) ?_
        refine qy (fun _ _ k9 => z_putf (fs' := [qI (f1 0), qI (f1 1), qI (f1 2), qI (((pnS (g 1) N i).1 : Nat) : Int), qI ((pnS (g 1) N i).2.1), qI ((pnS (g 1) N i).2.2), qI ((pnS (g 1) N i).2.1), qI ((pnS (g 1) N i).2.2), qR (m + 1), qR (m + 2), qR (m + 3), qR (m + 4), qR (m + 5), qR (m + 6), qR (m + 7), qR (m + 8), qR (m + 9), qR (m + 10), qI (f1 18), qI (f1 19), qI l, qR (m + 11), qR (m + 12), qR (m + 13), qR (m + 14), qI (f1 25), qR (m + 15), qI (f1 27), qR (m + 16), qR (m + 17), qR (m + 18), qR (m + 19), qR (m + 20), qR (m + 21), qR (m + 22), qR (m + 23), qR (m + 24), qI (f1 37), qI (f1 38), qI (f1 39), qI (f1 40), qR (m + 25), qR (m + 26), qR (m + 27), qR (m + 28), qR (m + 29), qR (m + 30), qR (m + 31), qI (f1 48), qR (m + 32), qR (m + 33), qR (m + 34), qR (m + 35), qR (m + 36), qR (m + 37)]) d_X12_text_150 fp_X12_9 rput_o (fun _ => rfl) (fun _ => rfl) (Nat.le_of_ble_eq_true rfl) rfl k9) ?_
        refine qy (fun _ _ k9 => z_eq rfl rfl (rput_sf (f' := (qup (qup (qup (qup (qup (qup f1 20 l) 3 (((pnS (g 1) N i).1 : Nat) : Int)) 4 ((pnS (g 1) N i).2.1)) 5 ((pnS (g 1) N i).2.2)) 6 ((pnS (g 1) N i).2.1)) 7 ((pnS (g 1) N i).2.2))) rfl) k9) ?_
        refine qy (fun _ _ k9 => z_aload_n d_X12_text_153 rfl rfl k9) ?_
        refine qy (fun _ _ k9 => z_getf (v := qI ((pnS (g 1) N i).2.1)) d_X12_text_154 fl_X12_141 rput_o rfl k9) ?_
        refine qy2 (fun _ _ => z_if_eq 162 d_X12_text_157 (by decide)) (fun hc4 => ?_) (fun hc4 => absurd hc4 (by omega))
        refine qy (fun _ _ k9 => z_iload_n d_X12_text_162 rfl rfl k9) ?_
        refine qy (fun _ _ k9 => z_iconst d_X12_text_163 (by decide) k9) ?_
        refine qy2 (fun _ _ => z_icmp_ge 215 d_X12_text_164 (by decide)) (fun hc5 => ?_) (fun hc5 => absurd hc5 (by omega))
        refine qy (fun _ _ k9 => z_iload_n d_X12_text_215 rfl rfl k9) ?_
        refine qy (fun _ _ k9 => z_iconst d_X12_text_216 (by decide) k9) ?_
        refine qy2 (fun _ _ => z_icmp_ne 242 d_X12_text_217 (by decide)) (fun hc6 => absurd hc6 (by omega)) (fun hc6 => ?_)
        refine qy (fun _ _ k9 => z_aload_n d_X12_text_220 rfl rfl k9) ?_
        refine qy (fun _ _ k9 => z_aload_n d_X12_text_221 rfl rfl k9) ?_
        refine qy (fun _ _ k9 => z_getf (v := qI l) d_X12_text_222 fl_X12_222 rput_o rfl k9) ?_
        refine qy (fun _ _ k9 => z_eq rfl (qc (qi hli) rfl) rfl k9) ?_
        refine qy (fun _ _ k9 => z_putf (fs' := [qI (f1 0), qI (f1 1), qI (f1 2), qI (((pnS (g 1) N i).1 : Nat) : Int), qI ((pnS (g 1) N i).2.1), qI ((pnS (g 1) N i).2.2), qI ((pnS (g 1) N i).2.1), qI ((pnS (g 1) N i).2.2), qR (m + 1), qR (m + 2), qR (m + 3), qR (m + 4), qR (m + 5), qR (m + 6), qR (m + 7), qR (m + 8), qR (m + 9), qR (m + 10), qI (i : Int), qI (f1 19), qI l, qR (m + 11), qR (m + 12), qR (m + 13), qR (m + 14), qI (f1 25), qR (m + 15), qI (f1 27), qR (m + 16), qR (m + 17), qR (m + 18), qR (m + 19), qR (m + 20), qR (m + 21), qR (m + 22), qR (m + 23), qR (m + 24), qI (f1 37), qI (f1 38), qI (f1 39), qI (f1 40), qR (m + 25), qR (m + 26), qR (m + 27), qR (m + 28), qR (m + 29), qR (m + 30), qR (m + 31), qI (f1 48), qR (m + 32), qR (m + 33), qR (m + 34), qR (m + 35), qR (m + 36), qR (m + 37)]) d_X12_text_225 fp_X12_246 rput_o (fun _ => rfl) (fun _ => rfl) (Nat.le_of_ble_eq_true rfl) rfl k9) ?_
        refine qy (fun _ _ k9 => z_eq rfl rfl (rput_sf (f' := (qup (qup (qup (qup (qup (qup (qup f1 20 l) 3 (((pnS (g 1) N i).1 : Nat) : Int)) 4 ((pnS (g 1) N i).2.1)) 5 ((pnS (g 1) N i).2.2)) 6 ((pnS (g 1) N i).2.1)) 7 ((pnS (g 1) N i).2.2)) 18 (i : Int))) rfl) k9) ?_
        refine qy (fun _ _ k9 => z_aload_n d_X12_text_228 rfl rfl k9) ?_
        refine qy (fun _ _ k9 => z_getf (v := qR (m + 8)) d_X12_text_229 fl_X12_35 rput_o rfl k9) ?_
        refine qy (fun _ _ k9 => z_aload_n d_X12_text_232 rfl rfl k9) ?_
        refine qy (fun _ _ k9 => z_getf (v := qR (m + 7)) d_X12_text_233 fl_X12_32 rput_o rfl k9) ?_
        refine qy (fun _ _ k9 => z_cs0 (M1 := M_X12_copies) d_X12_text_236 ls_X12_249 k_X12_copies [qR (m + 8), qR (m + 7)] rfl rfl (Nat.le_of_ble_eq_true rfl) (by decide) (by decide) (Nat.le_of_ble_eq_true rfl) (c_copies (rput_a2 8 (t := 0) (n := 64) (F := (y 8)) rfl rfl rfl (by decide) (by decide)) (rput_a2 7 (t := 0) (n := 64) (F := (y 7)) rfl rfl rfl (by decide) (by decide)) (by omega) (by omega) (by decide) (by decide)) k9) ?_
        refine qy (fun _ _ k9 => z_eq rfl rfl (rput_sa 7 rfl rfl (by decide) (by decide)) k9) ?_
        refine qy (fun _ _ k9 => z_goto 261 d_X12_text_239 (by decide) k9) ?_
        refine qy (fun _ _ k9 => z_aload_n d_X12_text_261 rfl rfl k9) ?_
        refine qy (fun _ _ k9 => z_iload_n d_X12_text_262 rfl rfl k9) ?_
        refine qy (fun _ _ k9 => z_iconst d_X12_text_263 (by decide) k9) ?_
        refine qy2 (fun _ _ => z_icmp_ge 271 d_X12_text_264 (by decide)) (fun hc7 => absurd hc7 (by omega)) (fun hc7 => ?_)
        refine qy (fun _ _ k9 => z_iconst d_X12_text_267 (by decide) k9) ?_
        refine qy (fun _ _ k9 => z_goto 275 d_X12_text_268 (by decide) k9) ?_
        refine qy (fun _ _ k9 => z_putf (fs' := [qI (f1 0), qI (f1 1), qI (f1 2), qI (((pnS (g 1) N i).1 : Nat) : Int), qI ((pnS (g 1) N i).2.1), qI ((pnS (g 1) N i).2.2), qI ((pnS (g 1) N i).2.1), qI ((pnS (g 1) N i).2.2), qR (m + 1), qR (m + 2), qR (m + 3), qR (m + 4), qR (m + 5), qR (m + 6), qR (m + 7), qR (m + 8), qR (m + 9), qR (m + 10), qI (i : Int), qI (f1 19), qI l, qR (m + 11), qR (m + 12), qR (m + 13), qR (m + 14), qI 0, qR (m + 15), qI (f1 27), qR (m + 16), qR (m + 17), qR (m + 18), qR (m + 19), qR (m + 20), qR (m + 21), qR (m + 22), qR (m + 23), qR (m + 24), qI (f1 37), qI (f1 38), qI (f1 39), qI (f1 40), qR (m + 25), qR (m + 26), qR (m + 27), qR (m + 28), qR (m + 29), qR (m + 30), qR (m + 31), qI (f1 48), qR (m + 32), qR (m + 33), qR (m + 34), qR (m + 35), qR (m + 36), qR (m + 37)]) d_X12_text_275 fp_X12_256 rput_o (fun _ => rfl) (fun _ => rfl) (Nat.le_of_ble_eq_true rfl) rfl k9) ?_
        refine qy (fun _ _ k9 => z_eq rfl rfl (rput_sf (f' := (qup (qup (qup (qup (qup (qup (qup (qup f1 20 l) 3 (((pnS (g 1) N i).1 : Nat) : Int)) 4 ((pnS (g 1) N i).2.1)) 5 ((pnS (g 1) N i).2.2)) 6 ((pnS (g 1) N i).2.1)) 7 ((pnS (g 1) N i).2.2)) 18 (i : Int)) 25 0)) rfl) k9) ?_
        refine qy (fun _ _ k9 => z_aload_n d_X12_text_278 rfl rfl k9) ?_
        refine qy (fun _ _ k9 => z_getf (v := qI l) d_X12_text_279 fl_X12_222 rput_o rfl k9) ?_
        refine qy (fun _ _ k9 => z_eq rfl (qc (qi hli) rfl) rfl k9) ?_
        exact y_ret (hQ (qup (qup (qup (qup (qup (qup (qup (qup f1 20 l) 3 (((pnS (g 1) N i).1 : Nat) : Int)) 4 ((pnS (g 1) N i).2.1)) 5 ((pnS (g 1) N i).2.2)) 6 ((pnS (g 1) N i).2.1)) 7 ((pnS (g 1) N i).2.2)) 18 (i : Int)) 25 0) (gup y 7 (qmx 64 (y 8) (y 7))) (by unfold pnP; rw [hJ]; exact ⟨⟨⟨(fun j hj => by have hj9 := hj; simp only [List.mem_cons, List.not_mem_nil, or_false, not_or] at hj9; rw [qup_ne (by omega), qup_ne (by omega), qup_ne (by omega), qup_ne (by omega), qup_ne (by omega), qup_ne (by omega), qup_ne (by omega), qup_ne (by omega)]; exact hf1x j hj), hf1_1, rfl, rfl⟩, hf1_19⟩, (fun j hj => by simp only [List.mem_cons, List.not_mem_nil, or_false, not_or] at hj; rw [gup_ne (by omega)]; exact (hp3 j (by omega)).trans (gup_ne (by omega))), (fun z => absurd hs0 z), (fun _ => ⟨rfl, hp6.2.1, rfl, fun q hq => by rw [gup_eq, qmx_lt (by omega)]; exact hp6.2.2 q hq⟩)⟩)) (z_iret d_X12_text_282 rfl (qsi (by rw [hJ, qif_t hs0])) rfl)
      · refine qy (fun _ _ k9 => z_iload_n d_X12_text_102 rfl rfl k9) ?_
        refine qy (fun _ _ k9 => z_iconst d_X12_text_103 (by decide) k9) ?_
        refine qy2 (fun _ _ => z_icmp_ge 114 d_X12_text_104 (by decide)) (fun hc8 => ?_) (fun hc8 => absurd hc8 (by omega))
        refine qy (fun _ _ k9 => z_iload_n d_X12_text_114 rfl rfl k9) ?_
        refine qy (fun _ _ k9 => z_iconst d_X12_text_115 (by decide) k9) ?_
        refine qy2 (fun _ _ => z_icmp_ne 126 d_X12_text_116 (by decide)) (fun hc9 => absurd hc9 (by omega)) (fun hc9 => ?_)
        refine qy (fun _ _ k9 => z_aload_n d_X12_text_119 rfl rfl k9) ?_
        have hgo : gon N (pnS (g 1) N i) := ⟨by omega, by omega⟩
        have hp6 := hp4 hgo.1
        have hli : l = (i : Int) := hp6.1
        obtain ⟨l2, y2, ⟨hv1, hv2⟩, hx⟩ := y_lineOfPlan (h := h) (f := f1) (g := y) (N := N) (L := i) (pnS (g 1) N i) hm hf1_2 hN4 (pnS_le i) (by rw [hy1]; exact pnS_sk i) hgo.1 (by omega)
        rw [hy1, ← hli] at hx
        rw [hy1] at hv2
        have hy2 : y2 1 = g 1 := (hv1 1 (by decide)).trans hy1
        refine qy (fun _ _ k9 => z_cv0 (M1 := M_X12_lineOfPlan) d_X12_text_120 lv_X12_240 k_X12_lineOfPlan [] rfl rfl rput_o ⟨_, _, rfl⟩ (Nat.le_of_ble_eq_true rfl) (by decide) (by decide) (Nat.le_of_ble_eq_true rfl) hx k9) ?_
        refine qy (fun _ _ k9 => z_goto 130 d_X12_text_123 (by decide) k9) ?_
        refine qy (fun _ _ k9 => z_aload_n d_X12_text_130 rfl rfl k9) ?_
        have hx9 := y_blanks (h := h) (f := qup f1 20 l2) (g := y2) (N := N) (lqS (g 1) N i (pnS (g 1) N i)) hm hf1_2 hN4 (lqS_le (pnS_le i))
        rw [hy2] at hx9
        refine qy (fun _ _ k9 => z_cv0 (M1 := M_X12_blanks) d_X12_text_131 lv_X12_164 k_X12_blanks [] rfl rfl rput_o ⟨_, _, rfl⟩ (Nat.le_of_ble_eq_true rfl) (by decide) (by decide) (Nat.le_of_ble_eq_true rfl) hx9 k9) ?_
        refine qy (fun _ _ k9 => z_goto 84 d_X12_text_134 (by decide) k9) ?_
        exact qy (fun _ _ k9 => z_eq rfl rfl rfl k9) (kk (i + 1) l2 y2 (⟨fun q hq => by rcases Nat.lt_or_ge q i with z | z; exact hp1 q z; exact (show q = i by omega) ▸ hgo, by omega, fun j hj => (hv1 j hj).trans (hp3 j hj), fun z => ⟨(hv2 z).1, (hv2 z).2.1, fun j hj => by rw [(hv2 z).2.2 j]; by_cases e : j / 4 = i; rw [if_pos e, e]; rw [if_neg e]; exact hp6.2.2 j (by omega)⟩⟩) (by omega))
  · refine qy (fun _ _ k9 => z_aload_n d_X12_text_67 rfl rfl k9) ?_
    refine qy (fun _ _ k9 => z_getf (v := qR (m + 10)) d_X12_text_68 fl_X12_41 rput_o rfl k9) ?_
    refine qy (fun _ _ k9 => z_iload_n d_X12_text_71 rfl rfl k9) ?_
    refine qy (fun _ _ k9 => z_iconst d_X12_text_72 (by decide) k9) ?_
    refine qy (fun _ _ k9 => z_ist i d_X12_text_73 (rput_a2 10 (t := 0) (n := 16) (F := (qmx i (fun _ => -1) (g 10))) rfl rfl rfl (by decide) (by decide)) (by omega) rfl (by omega) k9) ?_
    refine qy (fun _ _ k9 => z_eq rfl rfl ((rput_sa 10 rfl rfl (by decide) (by decide)).trans (rput_cg rfl (gup_gup _ _ _))) k9) ?_
    refine qy (fun _ _ k9 => z_iinc (ls' := [qR m, qI 4, qI ((i : Int) + 1)]) d_X12_text_74 rfl (by decide) (by omega) rfl k9) ?_
    refine qy (fun _ _ k9 => z_goto 61 d_X12_text_77 (by decide) k9) ?_
    exact qy (fun _ _ k9 => z_eq (qc rfl (qc rfl (qc (qi (by omega)) rfl))) rfl (rput_cg rfl (gup_cg rfl (qmx_s _ _ _))) k9) (kk (i + 1) (by omega) (by omega))
set_option maxRecDepth 20000 in
set_option maxHeartbeats 4000000 in
theorem c_text_tn {h : qH} {m : Nat} {f : Nat → Int} {g : Nat → Nat → Int} {N : Nat} (hm : 2 ≤ m) (h0 : f 0 = 0) (hN : f 1 = (N : Int)) (hN4 : N ≤ 400)  : ∃ f' g', tnP f g (g 1) N f' g' ∧ qEx M_X12_text 0 [qR m, qI 5, qU] [] (rput h m f g) (some (qI (qif ((tnX (g 1) N (tnA g) (tnJ (g 1) N (tnA g))).1.2.1 = 0) ((tnJ (g 1) N (tnA g)) : Int) (-1)))) (rput h m f' g') := by
  refine y_in2 (fun Q hQ => ?_)
  refine qy (fun _ _ k9 => z_aload_n d_X12_text_0 rfl rfl k9) ?_
  refine qy (fun _ _ k9 => z_iconst d_X12_text_1 (by decide) k9) ?_
  refine qy (fun _ _ k9 => z_putf (fs' := [qI 0, qI (f 1), qI (f 2), qI (f 3), qI (f 4), qI (f 5), qI (f 6), qI (f 7), qR (m + 1), qR (m + 2), qR (m + 3), qR (m + 4), qR (m + 5), qR (m + 6), qR (m + 7), qR (m + 8), qR (m + 9), qR (m + 10), qI (f 18), qI (f 19), qI (f 20), qR (m + 11), qR (m + 12), qR (m + 13), qR (m + 14), qI (f 25), qR (m + 15), qI (f 27), qR (m + 16), qR (m + 17), qR (m + 18), qR (m + 19), qR (m + 20), qR (m + 21), qR (m + 22), qR (m + 23), qR (m + 24), qI (f 37), qI (f 38), qI (f 39), qI (f 40), qR (m + 25), qR (m + 26), qR (m + 27), qR (m + 28), qR (m + 29), qR (m + 30), qR (m + 31), qI (f 48), qR (m + 32), qR (m + 33), qR (m + 34), qR (m + 35), qR (m + 36), qR (m + 37)]) d_X12_text_2 fp_X12_127 rput_o (fun _ => rfl) (fun _ => rfl) (Nat.le_of_ble_eq_true rfl) rfl k9) ?_
  refine qy (fun _ _ k9 => z_eq rfl rfl ((rput_sf (f' := qup f 0 0) rfl).trans (rput_cg (qup_self h0) rfl)) k9) ?_
  refine qy (fun _ _ k9 => z_aload_n d_X12_text_5 rfl rfl k9) ?_
  refine qy (fun _ _ k9 => z_aload_n d_X12_text_6 rfl rfl k9) ?_
  refine qy (fun _ _ k9 => z_getf (v := qI (f 1)) d_X12_text_7 fl_X12_130 rput_o rfl k9) ?_
  refine qy (fun _ _ k9 => z_eq rfl (qc (qi hN) rfl) rfl k9) ?_
  refine qy (fun _ _ k9 => z_putf (fs' := [qI (f 0), qI (f 1), qI (N : Int), qI (f 3), qI (f 4), qI (f 5), qI (f 6), qI (f 7), qR (m + 1), qR (m + 2), qR (m + 3), qR (m + 4), qR (m + 5), qR (m + 6), qR (m + 7), qR (m + 8), qR (m + 9), qR (m + 10), qI (f 18), qI (f 19), qI (f 20), qR (m + 11), qR (m + 12), qR (m + 13), qR (m + 14), qI (f 25), qR (m + 15), qI (f 27), qR (m + 16), qR (m + 17), qR (m + 18), qR (m + 19), qR (m + 20), qR (m + 21), qR (m + 22), qR (m + 23), qR (m + 24), qI (f 37), qI (f 38), qI (f 39), qI (f 40), qR (m + 25), qR (m + 26), qR (m + 27), qR (m + 28), qR (m + 29), qR (m + 30), qR (m + 31), qI (f 48), qR (m + 32), qR (m + 33), qR (m + 34), qR (m + 35), qR (m + 36), qR (m + 37)]) d_X12_text_10 fp_X12_147 rput_o (fun _ => rfl) (fun _ => rfl) (Nat.le_of_ble_eq_true rfl) rfl k9) ?_
  refine qy (fun _ _ k9 => z_eq rfl rfl (rput_sf (f' := (qup f 2 (N : Int))) rfl) k9) ?_
  refine qy (fun _ _ k9 => z_aload_n d_X12_text_13 rfl rfl k9) ?_
  refine qy (fun _ _ k9 => z_iconst d_X12_text_14 (by decide) k9) ?_
  refine qy (fun _ _ k9 => z_putf (fs' := [qI (f 0), qI (f 1), qI (N : Int), qI 0, qI (f 4), qI (f 5), qI (f 6), qI (f 7), qR (m + 1), qR (m + 2), qR (m + 3), qR (m + 4), qR (m + 5), qR (m + 6), qR (m + 7), qR (m + 8), qR (m + 9), qR (m + 10), qI (f 18), qI (f 19), qI (f 20), qR (m + 11), qR (m + 12), qR (m + 13), qR (m + 14), qI (f 25), qR (m + 15), qI (f 27), qR (m + 16), qR (m + 17), qR (m + 18), qR (m + 19), qR (m + 20), qR (m + 21), qR (m + 22), qR (m + 23), qR (m + 24), qI (f 37), qI (f 38), qI (f 39), qI (f 40), qR (m + 25), qR (m + 26), qR (m + 27), qR (m + 28), qR (m + 29), qR (m + 30), qR (m + 31), qI (f 48), qR (m + 32), qR (m + 33), qR (m + 34), qR (m + 35), qR (m + 36), qR (m + 37)]) d_X12_text_15 fp_X12_150 rput_o (fun _ => rfl) (fun _ => rfl) (Nat.le_of_ble_eq_true rfl) rfl k9) ?_
  refine qy (fun _ _ k9 => z_eq rfl rfl (rput_sf (f' := (qup (qup f 2 (N : Int)) 3 0)) rfl) k9) ?_
  refine qy (fun _ _ k9 => z_aload_n d_X12_text_18 rfl rfl k9) ?_
  refine qy (fun _ _ k9 => z_iconst d_X12_text_19 (by decide) k9) ?_
  refine qy (fun _ _ k9 => z_putf (fs' := [qI (f 0), qI (f 1), qI (N : Int), qI 0, qI 0, qI (f 5), qI (f 6), qI (f 7), qR (m + 1), qR (m + 2), qR (m + 3), qR (m + 4), qR (m + 5), qR (m + 6), qR (m + 7), qR (m + 8), qR (m + 9), qR (m + 10), qI (f 18), qI (f 19), qI (f 20), qR (m + 11), qR (m + 12), qR (m + 13), qR (m + 14), qI (f 25), qR (m + 15), qI (f 27), qR (m + 16), qR (m + 17), qR (m + 18), qR (m + 19), qR (m + 20), qR (m + 21), qR (m + 22), qR (m + 23), qR (m + 24), qI (f 37), qI (f 38), qI (f 39), qI (f 40), qR (m + 25), qR (m + 26), qR (m + 27), qR (m + 28), qR (m + 29), qR (m + 30), qR (m + 31), qI (f 48), qR (m + 32), qR (m + 33), qR (m + 34), qR (m + 35), qR (m + 36), qR (m + 37)]) d_X12_text_20 fp_X12_141 rput_o (fun _ => rfl) (fun _ => rfl) (Nat.le_of_ble_eq_true rfl) rfl k9) ?_
  refine qy (fun _ _ k9 => z_eq rfl rfl (rput_sf (f' := (qup (qup (qup f 2 (N : Int)) 3 0) 4 0)) rfl) k9) ?_
  refine qy (fun _ _ k9 => z_aload_n d_X12_text_23 rfl rfl k9) ?_
  refine qy (fun _ _ k9 => z_iconst d_X12_text_24 (by decide) k9) ?_
  refine qy (fun _ _ k9 => z_putf (fs' := [qI (f 0), qI (f 1), qI (N : Int), qI 0, qI 0, qI (-1), qI (f 6), qI (f 7), qR (m + 1), qR (m + 2), qR (m + 3), qR (m + 4), qR (m + 5), qR (m + 6), qR (m + 7), qR (m + 8), qR (m + 9), qR (m + 10), qI (f 18), qI (f 19), qI (f 20), qR (m + 11), qR (m + 12), qR (m + 13), qR (m + 14), qI (f 25), qR (m + 15), qI (f 27), qR (m + 16), qR (m + 17), qR (m + 18), qR (m + 19), qR (m + 20), qR (m + 21), qR (m + 22), qR (m + 23), qR (m + 24), qI (f 37), qI (f 38), qI (f 39), qI (f 40), qR (m + 25), qR (m + 26), qR (m + 27), qR (m + 28), qR (m + 29), qR (m + 30), qR (m + 31), qI (f 48), qR (m + 32), qR (m + 33), qR (m + 34), qR (m + 35), qR (m + 36), qR (m + 37)]) d_X12_text_25 fp_X12_144 rput_o (fun _ => rfl) (fun _ => rfl) (Nat.le_of_ble_eq_true rfl) rfl k9) ?_
  refine qy (fun _ _ k9 => z_eq rfl rfl (rput_sf (f' := (qup (qup (qup (qup f 2 (N : Int)) 3 0) 4 0) 5 (-1))) rfl) k9) ?_
  refine qy (fun _ _ k9 => z_aload_n d_X12_text_28 rfl rfl k9) ?_
  refine qy (fun _ _ k9 => z_iconst d_X12_text_29 (by decide) k9) ?_
  refine qy (fun _ _ k9 => z_putf (fs' := [qI (f 0), qI (f 1), qI (N : Int), qI 0, qI 0, qI (-1), qI (f 6), qI (f 7), qR (m + 1), qR (m + 2), qR (m + 3), qR (m + 4), qR (m + 5), qR (m + 6), qR (m + 7), qR (m + 8), qR (m + 9), qR (m + 10), qI (f 18), qI (f 19), qI 0, qR (m + 11), qR (m + 12), qR (m + 13), qR (m + 14), qI (f 25), qR (m + 15), qI (f 27), qR (m + 16), qR (m + 17), qR (m + 18), qR (m + 19), qR (m + 20), qR (m + 21), qR (m + 22), qR (m + 23), qR (m + 24), qI (f 37), qI (f 38), qI (f 39), qI (f 40), qR (m + 25), qR (m + 26), qR (m + 27), qR (m + 28), qR (m + 29), qR (m + 30), qR (m + 31), qI (f 48), qR (m + 32), qR (m + 33), qR (m + 34), qR (m + 35), qR (m + 36), qR (m + 37)]) d_X12_text_30 fp_X12_222 rput_o (fun _ => rfl) (fun _ => rfl) (Nat.le_of_ble_eq_true rfl) rfl k9) ?_
  refine qy (fun _ _ k9 => z_eq rfl rfl (rput_sf (f' := (qup (qup (qup (qup (qup f 2 (N : Int)) 3 0) 4 0) 5 (-1)) 20 0)) rfl) k9) ?_
  refine qy (fun _ _ k9 => z_aload_n d_X12_text_33 rfl rfl k9) ?_
  refine qy (fun _ _ k9 => z_iconst d_X12_text_34 (by decide) k9) ?_
  refine qy (fun _ _ k9 => z_putf (fs' := [qI (f 0), qI (f 1), qI (N : Int), qI 0, qI 0, qI (-1), qI 0, qI (f 7), qR (m + 1), qR (m + 2), qR (m + 3), qR (m + 4), qR (m + 5), qR (m + 6), qR (m + 7), qR (m + 8), qR (m + 9), qR (m + 10), qI (f 18), qI (f 19), qI 0, qR (m + 11), qR (m + 12), qR (m + 13), qR (m + 14), qI (f 25), qR (m + 15), qI (f 27), qR (m + 16), qR (m + 17), qR (m + 18), qR (m + 19), qR (m + 20), qR (m + 21), qR (m + 22), qR (m + 23), qR (m + 24), qI (f 37), qI (f 38), qI (f 39), qI (f 40), qR (m + 25), qR (m + 26), qR (m + 27), qR (m + 28), qR (m + 29), qR (m + 30), qR (m + 31), qI (f 48), qR (m + 32), qR (m + 33), qR (m + 34), qR (m + 35), qR (m + 36), qR (m + 37)]) d_X12_text_35 fp_X12_234 rput_o (fun _ => rfl) (fun _ => rfl) (Nat.le_of_ble_eq_true rfl) rfl k9) ?_
  refine qy (fun _ _ k9 => z_eq rfl rfl (rput_sf (f' := (qup (qup (qup (qup (qup (qup f 2 (N : Int)) 3 0) 4 0) 5 (-1)) 20 0) 6 0)) rfl) k9) ?_
  refine qy (fun _ _ k9 => z_aload_n d_X12_text_38 rfl rfl k9) ?_
  refine qy (fun _ _ k9 => z_iconst d_X12_text_39 (by decide) k9) ?_
  refine qy (fun _ _ k9 => z_putf (fs' := [qI (f 0), qI (f 1), qI (N : Int), qI 0, qI 0, qI (-1), qI 0, qI (-1), qR (m + 1), qR (m + 2), qR (m + 3), qR (m + 4), qR (m + 5), qR (m + 6), qR (m + 7), qR (m + 8), qR (m + 9), qR (m + 10), qI (f 18), qI (f 19), qI 0, qR (m + 11), qR (m + 12), qR (m + 13), qR (m + 14), qI (f 25), qR (m + 15), qI (f 27), qR (m + 16), qR (m + 17), qR (m + 18), qR (m + 19), qR (m + 20), qR (m + 21), qR (m + 22), qR (m + 23), qR (m + 24), qI (f 37), qI (f 38), qI (f 39), qI (f 40), qR (m + 25), qR (m + 26), qR (m + 27), qR (m + 28), qR (m + 29), qR (m + 30), qR (m + 31), qI (f 48), qR (m + 32), qR (m + 33), qR (m + 34), qR (m + 35), qR (m + 36), qR (m + 37)]) d_X12_text_40 fp_X12_9 rput_o (fun _ => rfl) (fun _ => rfl) (Nat.le_of_ble_eq_true rfl) rfl k9) ?_
  refine qy (fun _ _ k9 => z_eq rfl rfl (rput_sf (f' := (qup (qup (qup (qup (qup (qup (qup f 2 (N : Int)) 3 0) 4 0) 5 (-1)) 20 0) 6 0) 7 (-1))) rfl) k9) ?_
  refine qy (fun _ _ k9 => z_aload_n d_X12_text_43 rfl rfl k9) ?_
  refine qy (fun _ _ k9 => z_iconst d_X12_text_44 (by decide) k9) ?_
  refine qy (fun _ _ k9 => z_putf (fs' := [qI (f 0), qI 0, qI (N : Int), qI 0, qI 0, qI (-1), qI 0, qI (-1), qR (m + 1), qR (m + 2), qR (m + 3), qR (m + 4), qR (m + 5), qR (m + 6), qR (m + 7), qR (m + 8), qR (m + 9), qR (m + 10), qI (f 18), qI (f 19), qI 0, qR (m + 11), qR (m + 12), qR (m + 13), qR (m + 14), qI (f 25), qR (m + 15), qI (f 27), qR (m + 16), qR (m + 17), qR (m + 18), qR (m + 19), qR (m + 20), qR (m + 21), qR (m + 22), qR (m + 23), qR (m + 24), qI (f 37), qI (f 38), qI (f 39), qI (f 40), qR (m + 25), qR (m + 26), qR (m + 27), qR (m + 28), qR (m + 29), qR (m + 30), qR (m + 31), qI (f 48), qR (m + 32), qR (m + 33), qR (m + 34), qR (m + 35), qR (m + 36), qR (m + 37)]) d_X12_text_45 fp_X12_130 rput_o (fun _ => rfl) (fun _ => rfl) (Nat.le_of_ble_eq_true rfl) rfl k9) ?_
  refine qy (fun _ _ k9 => z_eq rfl rfl (rput_sf (f' := (qup (qup (qup (qup (qup (qup (qup (qup f 2 (N : Int)) 3 0) 4 0) 5 (-1)) 20 0) 6 0) 7 (-1)) 1 0)) rfl) k9) ?_
  refine qy (fun _ _ k9 => z_iload_n d_X12_text_48 rfl rfl k9) ?_
  refine qy (fun _ _ k9 => z_iconst d_X12_text_49 (by decide) k9) ?_
  refine qy (fun _ _ k9 => z_iconst d_X12_text_50 (by decide) k9) ?_
  refine qy (fun _ _ k9 => z_cs (M1 := M_X12_in) d_X12_text_51 ls_X12_137 k_X12_in [qI 5, qI 0, qI 5] rfl rfl (Nat.le_of_ble_eq_true rfl) (by decide) (by decide) (Nat.le_of_ble_eq_true rfl) (c_in 5 0 5) k9) ?_
  refine qy2 (fun _ _ => z_ifneB 59 d_X12_text_54 (by decide)) (fun hc1 => ?_) (fun hc1 => absurd hc1 (by omega))
  refine qy (fun _ _ k9 => z_iconst d_X12_text_59 (by decide) k9) ?_
  refine qy (fun _ _ k9 => z_istore_n (ls' := [qR m, qI 5, qI 0]) d_X12_text_60 rfl (by decide) rfl k9) ?_
  refine qy (fun _ _ k9 => z_eq (qc rfl (qc rfl (qc (qi (rfl)) rfl))) rfl (rput_cg rfl (gup_self (qmx_0 _ _).symm).symm) k9) (y_wh1 (fun (i : Nat) => 16 - i) (fun (i : Nat) => [qR m, qI 5, qI (i : Int)]) (fun (i : Nat) => (rput h m (qup (qup (qup (qup (qup (qup (qup (qup f 2 (N : Int)) 3 0) 4 0) 5 (-1)) 20 0) 6 0) 7 (-1)) 1 0) (gup g 10 (qmx i (fun _ => -1) (g 10))))) (fun (i : Nat) => i ≤ 16) 0 (by omega) (fun i hp kk => ?_))
  show qEy M_X12_text 61 [qR m, qI 5, qI (i : Int)] [] (rput h m (qup (qup (qup (qup (qup (qup (qup (qup f 2 (N : Int)) 3 0) 4 0) 5 (-1)) 20 0) 6 0) 7 (-1)) 1 0) (gup g 10 (qmx i (fun _ => -1) (g 10)))) Q
  refine qy (fun _ _ k9 => z_iload_n d_X12_text_61 rfl rfl k9) ?_
  refine qy (fun _ _ k9 => z_bipush d_X12_text_62 (by decide) k9) ?_
  refine qy2 (fun _ _ => z_icmp_ge 80 d_X12_text_64 (by decide)) (fun hc2 => ?_) (fun hc2 => ?_)
  · have hi16 : i = 16 := by omega
    subst hi16
    obtain ⟨f1, hf1⟩ : ∃ f1, f1 = (qup (qup (qup (qup (qup (qup (qup (qup f 2 (N : Int)) 3 0) 4 0) 5 (-1)) 20 0) 6 0) 7 (-1)) 1 0) := ⟨_, rfl⟩
    have hf1_1 : f1 1 = 0 := by rw [hf1]; rfl
    have hf1_2 : f1 2 = (N : Int) := by rw [hf1]; rfl
    have hf1_6 : f1 6 = 0 := by rw [hf1]; rfl
    have hf1_7 : f1 7 = (-1) := by rw [hf1]; rfl
    have hf1_20 : f1 20 = 0 := by rw [hf1]; rfl
    have hf1_18 : f1 18 = f 18 := by rw [hf1]; rfl
    have hf1_19 : f1 19 = f 19 := by rw [hf1]; rfl
    have hf1_25 : f1 25 = f 25 := by rw [hf1]; rfl
    have hf1x : ∀ j, j ∉ [1, 2, 3, 4, 5, 6, 7, 18, 19, 20, 25] → f1 j = f j := by
      intro j hj
      simp only [List.mem_cons, List.not_mem_nil, or_false, not_or] at hj
      rw [hf1]; rw [qup_ne (by omega), qup_ne (by omega), qup_ne (by omega), qup_ne (by omega), qup_ne (by omega), qup_ne (by omega), qup_ne (by omega), qup_ne (by omega)]
    refine qy (fun _ _ k9 => z_eq rfl rfl (show (rput h m (qup (qup (qup (qup (qup (qup (qup (qup f 2 (N : Int)) 3 0) 4 0) 5 (-1)) 20 0) 6 0) 7 (-1)) 1 0) (gup g 10 (qmx 16 (fun _ => -1) (g 10)))) = (rput h m (qup (qup (qup (qup f1 20 0) 3 ((((0, 0, -1) : pS).1 : Nat) : Int)) 4 (((0, 0, -1) : pS).2.1)) 5 (((0, 0, -1) : pS).2.2)) (gup g 10 (qmx 16 (fun _ => -1) (g 10)))) by rw [hf1]; exact rput_cg ((qup_self rfl).trans ((qup_self rfl).trans ((qup_self rfl).trans (qup_self rfl)))).symm rfl) k9) ?_
    refine qy (fun _ _ k9 => z_aload_n d_X12_text_80 rfl rfl k9) ?_
    refine qy (fun _ _ k9 => z_cv0 (M1 := M_X12_blanks) d_X12_text_81 lv_X12_164 k_X12_blanks [] rfl rfl rput_o ⟨_, _, rfl⟩ (Nat.le_of_ble_eq_true rfl) (by decide) (by decide) (Nat.le_of_ble_eq_true rfl) (y_blanks (N := N) ((0, 0, -1) : pS) hm hf1_2 hN4 (Nat.zero_le _)) k9) ?_
    refine qy (fun _ _ k9 => z_eq rfl rfl rfl k9) (y_wh3 (fun (i : Nat) (l : Int) (y : Nat → Nat → Int) => 26 - i) (fun (i : Nat) (l : Int) (y : Nat → Nat → Int) => [qR m, qI 5, qI 16]) (fun (i : Nat) (l : Int) (y : Nat → Nat → Int) => (rput h m (qup (qup (qup (qup f1 20 l) 3 (((tnX (g 1) N (tnA g) i).1.1 : Nat) : Int)) 4 ((tnX (g 1) N (tnA g) i).1.2.1)) 5 ((tnX (g 1) N (tnA g) i).1.2.2)) y)) (fun (i : Nat) (l : Int) (y : Nat → Nat → Int) => (∀ q, q < i → gon N (tnX (g 1) N (tnA g) q).1) ∧ i ≤ 17 ∧ (∀ j, j ≠ 10 → y j = (gup g 10 (qmx 16 (fun _ => -1) (g 10))) j) ∧ y 10 = (tnX (g 1) N (tnA g) i).2 ∧ ((tnX (g 1) N (tnA g) i).1.2.1 = 0 → l = (i : Int) ∧ i ≤ 16)) 0 0 (gup g 10 (qmx 16 (fun _ => -1) (g 10))) (⟨fun q hq => absurd hq (by omega), by omega, fun j _ => rfl, rfl, fun _ => ⟨rfl, by omega⟩⟩) (fun i l y hp kk => ?_))
    obtain ⟨hp1, hp2, hp3, hp5, hp4⟩ := hp
    show qEy M_X12_text 84 [qR m, qI 5, qI 16] [] (rput h m (qup (qup (qup (qup f1 20 l) 3 (((tnX (g 1) N (tnA g) i).1.1 : Nat) : Int)) 4 ((tnX (g 1) N (tnA g) i).1.2.1)) 5 ((tnX (g 1) N (tnA g) i).1.2.2)) y) Q
    have hy1 : y 1 = g 1 := (hp3 1 (by decide))
    refine qy (fun _ _ k9 => z_aload_n d_X12_text_84 rfl rfl k9) ?_
    refine qy (fun _ _ k9 => z_getf (v := qI ((tnX (g 1) N (tnA g) i).1.2.1)) d_X12_text_85 fl_X12_141 rput_o rfl k9) ?_
    refine qy2 (fun _ _ => z_if_ne 137 d_X12_text_88 (by decide)) (fun q88 => ?_) (fun q88 => ?_)
    · have hJ : (tnJ (g 1) N (tnA g)) = i := utl_at (by omega) (fun q hq => not_not_intro (hp1 q hq)) (fun z => by have z1 := z.1; have z2 := z.2; omega)
      refine qy (fun _ _ k9 => z_aload_n d_X12_text_137 rfl rfl k9) ?_
      refine qy (fun _ _ k9 => z_aload_n d_X12_text_138 rfl rfl k9) ?_
      refine qy (fun _ _ k9 => z_getf (v := qI ((tnX (g 1) N (tnA g) i).1.2.1)) d_X12_text_139 fl_X12_141 rput_o rfl k9) ?_
      refine qy (fun _ _ k9 => z_putf (fs' := [qI (f1 0), qI (f1 1), qI (f1 2), qI (((tnX (g 1) N (tnA g) i).1.1 : Nat) : Int), qI ((tnX (g 1) N (tnA g) i).1.2.1), qI ((tnX (g 1) N (tnA g) i).1.2.2), qI ((tnX (g 1) N (tnA g) i).1.2.1), qI (f1 7), qR (m + 1), qR (m + 2), qR (m + 3), qR (m + 4), qR (m + 5), qR (m + 6), qR (m + 7), qR (m + 8), qR (m + 9), qR (m + 10), qI (f1 18), qI (f1 19), qI l, qR (m + 11), qR (m + 12), qR (m + 13), qR (m + 14), qI (f1 25), qR (m + 15), qI (f1 27), qR (m + 16), qR (m + 17), qR (m + 18), qR (m + 19), qR (m + 20), qR (m + 21), qR (m + 22), qR (m + 23), qR (m + 24), qI (f1 37), qI (f1 38), qI (f1 39), qI (f1 40), qR (m + 25), qR (m + 26), qR (m + 27), qR (m + 28), qR (m + 29), qR (m + 30), qR (m + 31), qI (f1 48), qR (m + 32), qR (m + 33), qR (m + 34), qR (m + 35), qR (m + 36), qR (m + 37)]) d_X12_text_142 fp_X12_234 rput_o (fun _ => rfl) (fun _ => rfl) (Nat.le_of_ble_eq_true rfl) rfl k9) ?_
      refine qy (fun _ _ k9 => z_eq rfl rfl (rput_sf (f' := (qup (qup (qup (qup (qup f1 20 l) 3 (((tnX (g 1) N (tnA g) i).1.1 : Nat) : Int)) 4 ((tnX (g 1) N (tnA g) i).1.2.1)) 5 ((tnX (g 1) N (tnA g) i).1.2.2)) 6 ((tnX (g 1) N (tnA g) i).1.2.1))) rfl) k9) ?_
      refine qy (fun _ _ k9 => z_aload_n d_X12_text_145 rfl rfl k9) ?_
      refine qy (fun _ _ k9 => z_aload_n d_X12_text_146 rfl rfl k9) ?_
      refine qy (fun _ _ k9 => z_getf (v := qI ((tnX (g 1) N (tnA g) i).1.2.2)) d_X12_text_147 fl_X12_144 rput_o rfl k9) ?_
      refine qy (fun _ _ k9 => z_putf (fs' := [qI (f1 0), qI (f1 1), qI (f1 2), qI (((tnX (g 1) N (tnA g) i).1.1 : Nat) : Int), qI ((tnX (g 1) N (tnA g) i).1.2.1), qI ((tnX (g 1) N (tnA g) i).1.2.2), qI ((tnX (g 1) N (tnA g) i).1.2.1), qI ((tnX (g 1) N (tnA g) i).1.2.2), qR (m + 1), qR (m + 2), qR (m + 3), qR (m + 4), qR (m + 5), qR (m + 6), qR (m + 7), qR (m + 8), qR (m + 9), qR (m + 10), qI (f1 18), qI (f1 19), qI l, qR (m + 11), qR (m + 12), qR (m + 13), qR (m + 14), qI (f1 25), qR (m + 15), qI (f1 27), qR (m + 16), qR (m + 17), qR (m + 18), qR (m + 19), qR (m + 20), qR (m + 21), qR (m + 22), qR (m + 23), qR (m + 24), qI (f1 37), qI (f1 38), qI (f1 39), qI (f1 40), qR (m + 25), qR (m + 26), qR (m + 27), qR (m + 28), qR (m + 29), qR (m + 30), qR (m + 31), qI (f1 48), qR (m + 32), qR (m + 33), qR (m + 34), qR (m + 35), qR (m + 36), qR (m + 37)]) d_X12_text_150 fp_X12_9 rput_o (fun _ => rfl) (fun _ => rfl) (Nat.le_of_ble_eq_true rfl) rfl k9) ?_
      refine qy (fun _ _ k9 => z_eq rfl rfl (rput_sf (f' := (qup (qup (qup (qup (qup (qup f1 20 l) 3 (((tnX (g 1) N (tnA g) i).1.1 : Nat) : Int)) 4 ((tnX (g 1) N (tnA g) i).1.2.1)) 5 ((tnX (g 1) N (tnA g) i).1.2.2)) 6 ((tnX (g 1) N (tnA g) i).1.2.1)) 7 ((tnX (g 1) N (tnA g) i).1.2.2))) rfl) k9) ?_
      refine qy (fun _ _ k9 => z_aload_n d_X12_text_153 rfl rfl k9) ?_
      refine qy (fun _ _ k9 => z_getf (v := qI ((tnX (g 1) N (tnA g) i).1.2.1)) d_X12_text_154 fl_X12_141 rput_o rfl k9) ?_
      refine qy2 (fun _ _ => z_if_eq 162 d_X12_text_157 (by decide)) (fun hc3 => absurd hc3 (by omega)) (fun hc3 => ?_)
      refine qy (fun _ _ k9 => z_iconst d_X12_text_160 (by decide) k9) ?_
      exact y_ret (hQ (qup (qup (qup (qup (qup (qup f1 20 l) 3 (((tnX (g 1) N (tnA g) i).1.1 : Nat) : Int)) 4 ((tnX (g 1) N (tnA g) i).1.2.1)) 5 ((tnX (g 1) N (tnA g) i).1.2.2)) 6 ((tnX (g 1) N (tnA g) i).1.2.1)) 7 ((tnX (g 1) N (tnA g) i).1.2.2)) y (by unfold tnP; rw [hJ]; exact ⟨⟨⟨(fun j hj => by have hj9 := hj; simp only [List.mem_cons, List.not_mem_nil, or_false, not_or] at hj9; rw [qup_ne (by omega), qup_ne (by omega), qup_ne (by omega), qup_ne (by omega), qup_ne (by omega), qup_ne (by omega)]; exact hf1x j hj), hf1_1, rfl, rfl⟩, hf1_18, hf1_25⟩, (fun j hj => by simp only [List.mem_cons, List.not_mem_nil, or_false, not_or] at hj; exact (hp3 j (by omega)).trans (gup_ne (by omega))), (fun _ => ⟨hf1_19, hp3 9 (by decide)⟩), (fun z => absurd z (by omega))⟩)) (z_iret d_X12_text_161 rfl (qsi (by rw [hJ, qif_f (show ¬ (tnX (g 1) N (tnA g) i).1.2.1 = 0 by omega)])) rfl)
    · refine qy (fun _ _ k9 => z_aload_n d_X12_text_91 rfl rfl k9) ?_
      refine qy (fun _ _ k9 => z_getf (v := qI (((tnX (g 1) N (tnA g) i).1.1 : Nat) : Int)) d_X12_text_92 fl_X12_150 rput_o rfl k9) ?_
      refine qy (fun _ _ k9 => z_aload_n d_X12_text_95 rfl rfl k9) ?_
      refine qy (fun _ _ k9 => z_getf (v := qI (f1 2)) d_X12_text_96 fl_X12_147 rput_o rfl k9) ?_
      refine qy2 (fun _ _ => z_icmp_ge 137 d_X12_text_99 (by decide)) (fun q99 => ?_) (fun q99 => ?_)
      · have hJ : (tnJ (g 1) N (tnA g)) = i := utl_at (by omega) (fun q hq => not_not_intro (hp1 q hq)) (fun z => by have z1 := z.1; have z2 := z.2; omega)
        have hs0 : (tnX (g 1) N (tnA g) i).1.2.1 = 0 := by omega
        have hp6 := hp4 hs0
        have hli : l = (i : Int) := hp6.1
        refine qy (fun _ _ k9 => z_aload_n d_X12_text_137 rfl rfl k9) ?_
        refine qy (fun _ _ k9 => z_aload_n d_X12_text_138 rfl rfl k9) ?_
        refine qy (fun _ _ k9 => z_getf (v := qI ((tnX (g 1) N (tnA g) i).1.2.1)) d_X12_text_139 fl_X12_141 rput_o rfl k9) ?_
        refine qy (fun _ _ k9 => z_putf (fs' := [qI (f1 0), qI (f1 1), qI (f1 2), qI (((tnX (g 1) N (tnA g) i).1.1 : Nat) : Int), qI ((tnX (g 1) N (tnA g) i).1.2.1), qI ((tnX (g 1) N (tnA g) i).1.2.2), qI ((tnX (g 1) N (tnA g) i).1.2.1), qI (f1 7), qR (m + 1), qR (m + 2), qR (m + 3), qR (m + 4), qR (m + 5), qR (m + 6), qR (m + 7), qR (m + 8), qR (m + 9), qR (m + 10), qI (f1 18), qI (f1 19), qI l, qR (m + 11), qR (m + 12), qR (m + 13), qR (m + 14), qI (f1 25), qR (m + 15), qI (f1 27), qR (m + 16), qR (m + 17), qR (m + 18), qR (m + 19), qR (m + 20), qR (m + 21), qR (m + 22), qR (m + 23), qR (m + 24), qI (f1 37), qI (f1 38), qI (f1 39), qI (f1 40), qR (m + 25), qR (m + 26), qR (m + 27), qR (m + 28), qR (m + 29), qR (m + 30), qR (m + 31), qI (f1 48), qR (m + 32), qR (m + 33), qR (m + 34), qR (m + 35), qR (m + 36), qR (m + 37)]) d_X12_text_142 fp_X12_234 rput_o (fun _ => rfl) (fun _ => rfl) (Nat.le_of_ble_eq_true rfl) rfl k9) ?_
        refine qy (fun _ _ k9 => z_eq rfl rfl (rput_sf (f' := (qup (qup (qup (qup (qup f1 20 l) 3 (((tnX (g 1) N (tnA g) i).1.1 : Nat) : Int)) 4 ((tnX (g 1) N (tnA g) i).1.2.1)) 5 ((tnX (g 1) N (tnA g) i).1.2.2)) 6 ((tnX (g 1) N (tnA g) i).1.2.1))) rfl) k9) ?_
        refine qy (fun _ _ k9 => z_aload_n d_X12_text_145 rfl rfl k9) ?_
        refine qy (fun _ _ k9 => z_aload_n d_X12_text_146 rfl rfl k9) ?_
        refine qy (fun _ _ k9 => z_getf (v := qI ((tnX (g 1) N (tnA g) i).1.2.2)) d_X12_text_147 fl_X12_144 rput_o rfl k9) ?_
        refine qy (fun _ _ k9 => z_putf (fs' := [qI (f1 0), qI (f1 1), qI (f1 2), qI (((tnX (g 1) N (tnA g) i).1.1 : Nat) : Int), qI ((tnX (g 1) N (tnA g) i).1.2.1), qI ((tnX (g 1) N (tnA g) i).1.2.2), qI ((tnX (g 1) N (tnA g) i).1.2.1), qI ((tnX (g 1) N (tnA g) i).1.2.2), qR (m + 1), qR (m + 2), qR (m + 3), qR (m + 4), qR (m + 5), qR (m + 6), qR (m + 7), qR (m + 8), qR (m + 9), qR (m + 10), qI (f1 18), qI (f1 19), qI l, qR (m + 11), qR (m + 12), qR (m + 13), qR (m + 14), qI (f1 25), qR (m + 15), qI (f1 27), qR (m + 16), qR (m + 17), qR (m + 18), qR (m + 19), qR (m + 20), qR (m + 21), qR (m + 22), qR (m + 23), qR (m + 24), qI (f1 37), qI (f1 38), qI (f1 39), qI (f1 40), qR (m + 25), qR (m + 26), qR (m + 27), qR (m + 28), qR (m + 29), qR (m + 30), qR (m + 31), qI (f1 48), qR (m + 32), qR (m + 33), qR (m + 34), qR (m + 35), qR (m + 36), qR (m + 37)]) d_X12_text_150 fp_X12_9 rput_o (fun _ => rfl) (fun _ => rfl) (Nat.le_of_ble_eq_true rfl) rfl k9) ?_
        refine qy (fun _ _ k9 => z_eq rfl rfl (rput_sf (f' := (qup (qup (qup (qup (qup (qup f1 20 l) 3 (((tnX (g 1) N (tnA g) i).1.1 : Nat) : Int)) 4 ((tnX (g 1) N (tnA g) i).1.2.1)) 5 ((tnX (g 1) N (tnA g) i).1.2.2)) 6 ((tnX (g 1) N (tnA g) i).1.2.1)) 7 ((tnX (g 1) N (tnA g) i).1.2.2))) rfl) k9) ?_
        refine qy (fun _ _ k9 => z_aload_n d_X12_text_153 rfl rfl k9) ?_
        refine qy (fun _ _ k9 => z_getf (v := qI ((tnX (g 1) N (tnA g) i).1.2.1)) d_X12_text_154 fl_X12_141 rput_o rfl k9) ?_
        refine qy2 (fun _ _ => z_if_eq 162 d_X12_text_157 (by decide)) (fun hc4 => ?_) (fun hc4 => absurd hc4 (by omega))
        refine qy (fun _ _ k9 => z_iload_n d_X12_text_162 rfl rfl k9) ?_
        refine qy (fun _ _ k9 => z_iconst d_X12_text_163 (by decide) k9) ?_
        refine qy2 (fun _ _ => z_icmp_ge 215 d_X12_text_164 (by decide)) (fun hc5 => ?_) (fun hc5 => absurd hc5 (by omega))
        refine qy (fun _ _ k9 => z_iload_n d_X12_text_215 rfl rfl k9) ?_
        refine qy (fun _ _ k9 => z_iconst d_X12_text_216 (by decide) k9) ?_
        refine qy2 (fun _ _ => z_icmp_ne 242 d_X12_text_217 (by decide)) (fun hc6 => ?_) (fun hc6 => absurd hc6 (by omega))
        refine qy (fun _ _ k9 => z_aload_n d_X12_text_242 rfl rfl k9) ?_
        refine qy (fun _ _ k9 => z_aload_n d_X12_text_243 rfl rfl k9) ?_
        refine qy (fun _ _ k9 => z_getf (v := qI l) d_X12_text_244 fl_X12_222 rput_o rfl k9) ?_
        refine qy (fun _ _ k9 => z_eq rfl (qc (qi hli) rfl) rfl k9) ?_
        refine qy (fun _ _ k9 => z_putf (fs' := [qI (f1 0), qI (f1 1), qI (f1 2), qI (((tnX (g 1) N (tnA g) i).1.1 : Nat) : Int), qI ((tnX (g 1) N (tnA g) i).1.2.1), qI ((tnX (g 1) N (tnA g) i).1.2.2), qI ((tnX (g 1) N (tnA g) i).1.2.1), qI ((tnX (g 1) N (tnA g) i).1.2.2), qR (m + 1), qR (m + 2), qR (m + 3), qR (m + 4), qR (m + 5), qR (m + 6), qR (m + 7), qR (m + 8), qR (m + 9), qR (m + 10), qI (f1 18), qI (i : Int), qI l, qR (m + 11), qR (m + 12), qR (m + 13), qR (m + 14), qI (f1 25), qR (m + 15), qI (f1 27), qR (m + 16), qR (m + 17), qR (m + 18), qR (m + 19), qR (m + 20), qR (m + 21), qR (m + 22), qR (m + 23), qR (m + 24), qI (f1 37), qI (f1 38), qI (f1 39), qI (f1 40), qR (m + 25), qR (m + 26), qR (m + 27), qR (m + 28), qR (m + 29), qR (m + 30), qR (m + 31), qI (f1 48), qR (m + 32), qR (m + 33), qR (m + 34), qR (m + 35), qR (m + 36), qR (m + 37)]) d_X12_text_247 fp_X12_253 rput_o (fun _ => rfl) (fun _ => rfl) (Nat.le_of_ble_eq_true rfl) rfl k9) ?_
        refine qy (fun _ _ k9 => z_eq rfl rfl (rput_sf (f' := (qup (qup (qup (qup (qup (qup (qup f1 20 l) 3 (((tnX (g 1) N (tnA g) i).1.1 : Nat) : Int)) 4 ((tnX (g 1) N (tnA g) i).1.2.1)) 5 ((tnX (g 1) N (tnA g) i).1.2.2)) 6 ((tnX (g 1) N (tnA g) i).1.2.1)) 7 ((tnX (g 1) N (tnA g) i).1.2.2)) 19 (i : Int))) rfl) k9) ?_
        refine qy (fun _ _ k9 => z_aload_n d_X12_text_250 rfl rfl k9) ?_
        refine qy (fun _ _ k9 => z_getf (v := qR (m + 10)) d_X12_text_251 fl_X12_41 rput_o rfl k9) ?_
        refine qy (fun _ _ k9 => z_aload_n d_X12_text_254 rfl rfl k9) ?_
        refine qy (fun _ _ k9 => z_getf (v := qR (m + 9)) d_X12_text_255 fl_X12_38 rput_o rfl k9) ?_
        refine qy (fun _ _ k9 => z_cs0 (M1 := M_X12_copies) d_X12_text_258 ls_X12_249 k_X12_copies [qR (m + 10), qR (m + 9)] rfl rfl (Nat.le_of_ble_eq_true rfl) (by decide) (by decide) (Nat.le_of_ble_eq_true rfl) (c_copies (rput_a2 10 (t := 0) (n := 16) (F := (y 10)) rfl rfl rfl (by decide) (by decide)) (rput_a2 9 (t := 0) (n := 16) (F := (y 9)) rfl rfl rfl (by decide) (by decide)) (by omega) (by omega) (by decide) (by decide)) k9) ?_
        refine qy (fun _ _ k9 => z_eq rfl rfl (rput_sa 9 rfl rfl (by decide) (by decide)) k9) ?_
        refine qy (fun _ _ k9 => z_aload_n d_X12_text_261 rfl rfl k9) ?_
        refine qy (fun _ _ k9 => z_iload_n d_X12_text_262 rfl rfl k9) ?_
        refine qy (fun _ _ k9 => z_iconst d_X12_text_263 (by decide) k9) ?_
        refine qy2 (fun _ _ => z_icmp_ge 271 d_X12_text_264 (by decide)) (fun hc7 => ?_) (fun hc7 => absurd hc7 (by omega))
        refine qy (fun _ _ k9 => z_aload_n d_X12_text_271 rfl rfl k9) ?_
        refine qy (fun _ _ k9 => z_getf (v := qI (f1 25)) d_X12_text_272 fl_X12_256 rput_o rfl k9) ?_
        refine qy (fun _ _ k9 => z_putf (fs' := [qI (f1 0), qI (f1 1), qI (f1 2), qI (((tnX (g 1) N (tnA g) i).1.1 : Nat) : Int), qI ((tnX (g 1) N (tnA g) i).1.2.1), qI ((tnX (g 1) N (tnA g) i).1.2.2), qI ((tnX (g 1) N (tnA g) i).1.2.1), qI ((tnX (g 1) N (tnA g) i).1.2.2), qR (m + 1), qR (m + 2), qR (m + 3), qR (m + 4), qR (m + 5), qR (m + 6), qR (m + 7), qR (m + 8), qR (m + 9), qR (m + 10), qI (f1 18), qI (i : Int), qI l, qR (m + 11), qR (m + 12), qR (m + 13), qR (m + 14), qI (f1 25), qR (m + 15), qI (f1 27), qR (m + 16), qR (m + 17), qR (m + 18), qR (m + 19), qR (m + 20), qR (m + 21), qR (m + 22), qR (m + 23), qR (m + 24), qI (f1 37), qI (f1 38), qI (f1 39), qI (f1 40), qR (m + 25), qR (m + 26), qR (m + 27), qR (m + 28), qR (m + 29), qR (m + 30), qR (m + 31), qI (f1 48), qR (m + 32), qR (m + 33), qR (m + 34), qR (m + 35), qR (m + 36), qR (m + 37)]) d_X12_text_275 fp_X12_256 rput_o (fun _ => rfl) (fun _ => rfl) (Nat.le_of_ble_eq_true rfl) rfl k9) ?_
        refine qy (fun _ _ k9 => z_eq rfl rfl (rput_sf (f' := (qup (qup (qup (qup (qup (qup (qup (qup f1 20 l) 3 (((tnX (g 1) N (tnA g) i).1.1 : Nat) : Int)) 4 ((tnX (g 1) N (tnA g) i).1.2.1)) 5 ((tnX (g 1) N (tnA g) i).1.2.2)) 6 ((tnX (g 1) N (tnA g) i).1.2.1)) 7 ((tnX (g 1) N (tnA g) i).1.2.2)) 19 (i : Int)) 25 (f1 25))) rfl) k9) ?_
        refine qy (fun _ _ k9 => z_aload_n d_X12_text_278 rfl rfl k9) ?_
        refine qy (fun _ _ k9 => z_getf (v := qI l) d_X12_text_279 fl_X12_222 rput_o rfl k9) ?_
        refine qy (fun _ _ k9 => z_eq rfl (qc (qi hli) rfl) rfl k9) ?_
        exact y_ret (hQ (qup (qup (qup (qup (qup (qup (qup (qup f1 20 l) 3 (((tnX (g 1) N (tnA g) i).1.1 : Nat) : Int)) 4 ((tnX (g 1) N (tnA g) i).1.2.1)) 5 ((tnX (g 1) N (tnA g) i).1.2.2)) 6 ((tnX (g 1) N (tnA g) i).1.2.1)) 7 ((tnX (g 1) N (tnA g) i).1.2.2)) 19 (i : Int)) 25 (f1 25)) (gup y 9 (qmx 16 (y 10) (y 9))) (by unfold tnP; rw [hJ]; exact ⟨⟨⟨(fun j hj => by have hj9 := hj; simp only [List.mem_cons, List.not_mem_nil, or_false, not_or] at hj9; rw [qup_ne (by omega), qup_ne (by omega), qup_ne (by omega), qup_ne (by omega), qup_ne (by omega), qup_ne (by omega), qup_ne (by omega), qup_ne (by omega)]; exact hf1x j hj), hf1_1, rfl, rfl⟩, hf1_18, hf1_25⟩, (fun j hj => by simp only [List.mem_cons, List.not_mem_nil, or_false, not_or] at hj; rw [gup_ne (by omega)]; exact (hp3 j (by omega)).trans (gup_ne (by omega))), (fun z => absurd hs0 z), (fun _ => ⟨hp6.2, rfl, fun q hq => by rw [gup_eq, qmx_lt hq, hp5]⟩)⟩)) (z_iret d_X12_text_282 rfl (qsi (by rw [hJ, qif_t hs0])) rfl)
      · refine qy (fun _ _ k9 => z_iload_n d_X12_text_102 rfl rfl k9) ?_
        refine qy (fun _ _ k9 => z_iconst d_X12_text_103 (by decide) k9) ?_
        refine qy2 (fun _ _ => z_icmp_ge 114 d_X12_text_104 (by decide)) (fun hc8 => ?_) (fun hc8 => absurd hc8 (by omega))
        refine qy (fun _ _ k9 => z_iload_n d_X12_text_114 rfl rfl k9) ?_
        refine qy (fun _ _ k9 => z_iconst d_X12_text_115 (by decide) k9) ?_
        refine qy2 (fun _ _ => z_icmp_ne 126 d_X12_text_116 (by decide)) (fun hc9 => ?_) (fun hc9 => absurd hc9 (by omega))
        refine qy (fun _ _ k9 => z_aload_n d_X12_text_126 rfl rfl k9) ?_
        have hgo : gon N (tnX (g 1) N (tnA g) i).1 := ⟨by omega, by omega⟩
        have hp6 := hp4 hgo.1
        have hli : l = (i : Int) := hp6.1
        obtain ⟨l2, y2, ⟨hv1, hv2, hv3⟩, hx⟩ := y_lineOfTree (h := h) (f := f1) (g := y) (N := N) (L := i) (tnX (g 1) N (tnA g) i).1 hm hf1_2 hN4 (tnX_le i) (by rw [hy1]; exact tnX_sk i) hgo.1 (by omega)
        rw [hy1, hp5, ← hli] at hx
        rw [hy1, hp5] at hv2
        rw [hy1, hp5] at hv3
        have hy2 : y2 1 = g 1 := (hv1 1 (by decide)).trans hy1
        refine qy (fun _ _ k9 => z_cv0 (M1 := M_X12_lineOfTree) d_X12_text_127 lv_X12_243 k_X12_lineOfTree [] rfl rfl rput_o ⟨_, _, rfl⟩ (Nat.le_of_ble_eq_true rfl) (by decide) (by decide) (Nat.le_of_ble_eq_true rfl) hx k9) ?_
        refine qy (fun _ _ k9 => z_aload_n d_X12_text_130 rfl rfl k9) ?_
        have hx9 := y_blanks (h := h) (f := qup f1 20 l2) (g := y2) (N := N) (ltS (g 1) N (tnX (g 1) N (tnA g) i).2 i (tnX (g 1) N (tnA g) i).1) hm hf1_2 hN4 (ltS_le (tnX_le i))
        rw [hy2] at hx9
        refine qy (fun _ _ k9 => z_cv0 (M1 := M_X12_blanks) d_X12_text_131 lv_X12_164 k_X12_blanks [] rfl rfl rput_o ⟨_, _, rfl⟩ (Nat.le_of_ble_eq_true rfl) (by decide) (by decide) (Nat.le_of_ble_eq_true rfl) hx9 k9) ?_
        refine qy (fun _ _ k9 => z_goto 84 d_X12_text_134 (by decide) k9) ?_
        exact qy (fun _ _ k9 => z_eq rfl rfl rfl k9) (kk (i + 1) l2 y2 (⟨fun q hq => by rcases Nat.lt_or_ge q i with z | z; exact hp1 q z; exact (show q = i by omega) ▸ hgo, by omega, fun j hj => (hv1 j hj).trans (hp3 j hj), by rw [hv3]; rfl, fun z => ⟨(hv2 z).1, (hv2 z).2⟩⟩) (by omega))
  · refine qy (fun _ _ k9 => z_aload_n d_X12_text_67 rfl rfl k9) ?_
    refine qy (fun _ _ k9 => z_getf (v := qR (m + 10)) d_X12_text_68 fl_X12_41 rput_o rfl k9) ?_
    refine qy (fun _ _ k9 => z_iload_n d_X12_text_71 rfl rfl k9) ?_
    refine qy (fun _ _ k9 => z_iconst d_X12_text_72 (by decide) k9) ?_
    refine qy (fun _ _ k9 => z_ist i d_X12_text_73 (rput_a2 10 (t := 0) (n := 16) (F := (qmx i (fun _ => -1) (g 10))) rfl rfl rfl (by decide) (by decide)) (by omega) rfl (by omega) k9) ?_
    refine qy (fun _ _ k9 => z_eq rfl rfl ((rput_sa 10 rfl rfl (by decide) (by decide)).trans (rput_cg rfl (gup_gup _ _ _))) k9) ?_
    refine qy (fun _ _ k9 => z_iinc (ls' := [qR m, qI 5, qI ((i : Int) + 1)]) d_X12_text_74 rfl (by decide) (by omega) rfl k9) ?_
    refine qy (fun _ _ k9 => z_goto 61 d_X12_text_77 (by decide) k9) ?_
    exact qy (fun _ _ k9 => z_eq (qc rfl (qc rfl (qc (qi (by omega)) rfl))) rfl (rput_cg rfl (gup_cg rfl (qmx_s _ _ _))) k9) (kk (i + 1) (by omega) (by omega))
set_option maxRecDepth 20000 in
set_option maxHeartbeats 4000000 in
theorem c_text_no {h : qH} {m : Nat} {f : Nat → Int} {g : Nat → Nat → Int} (k : Int) (hm : 2 ≤ m) (h0 : f 0 = 0) (hno : ¬ (0 ≤ k ∧ k ≤ 5)) : qEx M_X12_text 0 [qR m, qI k, qU] [] (rput h m f g) (some (qI (-1))) (rput h m (qup (qup (qup (qup (qup (qup (qup (qup f 2 (f 1)) 3 0) 4 0) 5 (-1)) 20 0) 6 0) 7 (-1)) 1 0) g) := by
  refine q_gen (fun r hr er eh => ?_)
  refine z_aload_n d_X12_text_0 rfl rfl ?_
  refine z_iconst d_X12_text_1 (by decide) ?_
  refine z_putf (fs' := [qI 0, qI (f 1), qI (f 2), qI (f 3), qI (f 4), qI (f 5), qI (f 6), qI (f 7), qR (m + 1), qR (m + 2), qR (m + 3), qR (m + 4), qR (m + 5), qR (m + 6), qR (m + 7), qR (m + 8), qR (m + 9), qR (m + 10), qI (f 18), qI (f 19), qI (f 20), qR (m + 11), qR (m + 12), qR (m + 13), qR (m + 14), qI (f 25), qR (m + 15), qI (f 27), qR (m + 16), qR (m + 17), qR (m + 18), qR (m + 19), qR (m + 20), qR (m + 21), qR (m + 22), qR (m + 23), qR (m + 24), qI (f 37), qI (f 38), qI (f 39), qI (f 40), qR (m + 25), qR (m + 26), qR (m + 27), qR (m + 28), qR (m + 29), qR (m + 30), qR (m + 31), qI (f 48), qR (m + 32), qR (m + 33), qR (m + 34), qR (m + 35), qR (m + 36), qR (m + 37)]) d_X12_text_2 fp_X12_127 rput_o (fun _ => rfl) (fun _ => rfl) (Nat.le_of_ble_eq_true rfl) rfl ?_
  refine z_eq rfl rfl ((rput_sf (f' := qup f 0 0) rfl).trans (rput_cg (qup_self h0) rfl)) ?_
  refine z_aload_n d_X12_text_5 rfl rfl ?_
  refine z_aload_n d_X12_text_6 rfl rfl ?_
  refine z_getf (v := qI (f 1)) d_X12_text_7 fl_X12_130 rput_o rfl ?_
  refine z_putf (fs' := [qI (f 0), qI (f 1), qI (f 1), qI (f 3), qI (f 4), qI (f 5), qI (f 6), qI (f 7), qR (m + 1), qR (m + 2), qR (m + 3), qR (m + 4), qR (m + 5), qR (m + 6), qR (m + 7), qR (m + 8), qR (m + 9), qR (m + 10), qI (f 18), qI (f 19), qI (f 20), qR (m + 11), qR (m + 12), qR (m + 13), qR (m + 14), qI (f 25), qR (m + 15), qI (f 27), qR (m + 16), qR (m + 17), qR (m + 18), qR (m + 19), qR (m + 20), qR (m + 21), qR (m + 22), qR (m + 23), qR (m + 24), qI (f 37), qI (f 38), qI (f 39), qI (f 40), qR (m + 25), qR (m + 26), qR (m + 27), qR (m + 28), qR (m + 29), qR (m + 30), qR (m + 31), qI (f 48), qR (m + 32), qR (m + 33), qR (m + 34), qR (m + 35), qR (m + 36), qR (m + 37)]) d_X12_text_10 fp_X12_147 rput_o (fun _ => rfl) (fun _ => rfl) (Nat.le_of_ble_eq_true rfl) rfl ?_
  refine z_eq rfl rfl (rput_sf (f' := (qup f 2 (f 1))) rfl) ?_
  refine z_aload_n d_X12_text_13 rfl rfl ?_
  refine z_iconst d_X12_text_14 (by decide) ?_
  refine z_putf (fs' := [qI (f 0), qI (f 1), qI (f 1), qI 0, qI (f 4), qI (f 5), qI (f 6), qI (f 7), qR (m + 1), qR (m + 2), qR (m + 3), qR (m + 4), qR (m + 5), qR (m + 6), qR (m + 7), qR (m + 8), qR (m + 9), qR (m + 10), qI (f 18), qI (f 19), qI (f 20), qR (m + 11), qR (m + 12), qR (m + 13), qR (m + 14), qI (f 25), qR (m + 15), qI (f 27), qR (m + 16), qR (m + 17), qR (m + 18), qR (m + 19), qR (m + 20), qR (m + 21), qR (m + 22), qR (m + 23), qR (m + 24), qI (f 37), qI (f 38), qI (f 39), qI (f 40), qR (m + 25), qR (m + 26), qR (m + 27), qR (m + 28), qR (m + 29), qR (m + 30), qR (m + 31), qI (f 48), qR (m + 32), qR (m + 33), qR (m + 34), qR (m + 35), qR (m + 36), qR (m + 37)]) d_X12_text_15 fp_X12_150 rput_o (fun _ => rfl) (fun _ => rfl) (Nat.le_of_ble_eq_true rfl) rfl ?_
  refine z_eq rfl rfl (rput_sf (f' := (qup (qup f 2 (f 1)) 3 0)) rfl) ?_
  refine z_aload_n d_X12_text_18 rfl rfl ?_
  refine z_iconst d_X12_text_19 (by decide) ?_
  refine z_putf (fs' := [qI (f 0), qI (f 1), qI (f 1), qI 0, qI 0, qI (f 5), qI (f 6), qI (f 7), qR (m + 1), qR (m + 2), qR (m + 3), qR (m + 4), qR (m + 5), qR (m + 6), qR (m + 7), qR (m + 8), qR (m + 9), qR (m + 10), qI (f 18), qI (f 19), qI (f 20), qR (m + 11), qR (m + 12), qR (m + 13), qR (m + 14), qI (f 25), qR (m + 15), qI (f 27), qR (m + 16), qR (m + 17), qR (m + 18), qR (m + 19), qR (m + 20), qR (m + 21), qR (m + 22), qR (m + 23), qR (m + 24), qI (f 37), qI (f 38), qI (f 39), qI (f 40), qR (m + 25), qR (m + 26), qR (m + 27), qR (m + 28), qR (m + 29), qR (m + 30), qR (m + 31), qI (f 48), qR (m + 32), qR (m + 33), qR (m + 34), qR (m + 35), qR (m + 36), qR (m + 37)]) d_X12_text_20 fp_X12_141 rput_o (fun _ => rfl) (fun _ => rfl) (Nat.le_of_ble_eq_true rfl) rfl ?_
  refine z_eq rfl rfl (rput_sf (f' := (qup (qup (qup f 2 (f 1)) 3 0) 4 0)) rfl) ?_
  refine z_aload_n d_X12_text_23 rfl rfl ?_
  refine z_iconst d_X12_text_24 (by decide) ?_
  refine z_putf (fs' := [qI (f 0), qI (f 1), qI (f 1), qI 0, qI 0, qI (-1), qI (f 6), qI (f 7), qR (m + 1), qR (m + 2), qR (m + 3), qR (m + 4), qR (m + 5), qR (m + 6), qR (m + 7), qR (m + 8), qR (m + 9), qR (m + 10), qI (f 18), qI (f 19), qI (f 20), qR (m + 11), qR (m + 12), qR (m + 13), qR (m + 14), qI (f 25), qR (m + 15), qI (f 27), qR (m + 16), qR (m + 17), qR (m + 18), qR (m + 19), qR (m + 20), qR (m + 21), qR (m + 22), qR (m + 23), qR (m + 24), qI (f 37), qI (f 38), qI (f 39), qI (f 40), qR (m + 25), qR (m + 26), qR (m + 27), qR (m + 28), qR (m + 29), qR (m + 30), qR (m + 31), qI (f 48), qR (m + 32), qR (m + 33), qR (m + 34), qR (m + 35), qR (m + 36), qR (m + 37)]) d_X12_text_25 fp_X12_144 rput_o (fun _ => rfl) (fun _ => rfl) (Nat.le_of_ble_eq_true rfl) rfl ?_
  refine z_eq rfl rfl (rput_sf (f' := (qup (qup (qup (qup f 2 (f 1)) 3 0) 4 0) 5 (-1))) rfl) ?_
  refine z_aload_n d_X12_text_28 rfl rfl ?_
  refine z_iconst d_X12_text_29 (by decide) ?_
  refine z_putf (fs' := [qI (f 0), qI (f 1), qI (f 1), qI 0, qI 0, qI (-1), qI (f 6), qI (f 7), qR (m + 1), qR (m + 2), qR (m + 3), qR (m + 4), qR (m + 5), qR (m + 6), qR (m + 7), qR (m + 8), qR (m + 9), qR (m + 10), qI (f 18), qI (f 19), qI 0, qR (m + 11), qR (m + 12), qR (m + 13), qR (m + 14), qI (f 25), qR (m + 15), qI (f 27), qR (m + 16), qR (m + 17), qR (m + 18), qR (m + 19), qR (m + 20), qR (m + 21), qR (m + 22), qR (m + 23), qR (m + 24), qI (f 37), qI (f 38), qI (f 39), qI (f 40), qR (m + 25), qR (m + 26), qR (m + 27), qR (m + 28), qR (m + 29), qR (m + 30), qR (m + 31), qI (f 48), qR (m + 32), qR (m + 33), qR (m + 34), qR (m + 35), qR (m + 36), qR (m + 37)]) d_X12_text_30 fp_X12_222 rput_o (fun _ => rfl) (fun _ => rfl) (Nat.le_of_ble_eq_true rfl) rfl ?_
  refine z_eq rfl rfl (rput_sf (f' := (qup (qup (qup (qup (qup f 2 (f 1)) 3 0) 4 0) 5 (-1)) 20 0)) rfl) ?_
  refine z_aload_n d_X12_text_33 rfl rfl ?_
  refine z_iconst d_X12_text_34 (by decide) ?_
  refine z_putf (fs' := [qI (f 0), qI (f 1), qI (f 1), qI 0, qI 0, qI (-1), qI 0, qI (f 7), qR (m + 1), qR (m + 2), qR (m + 3), qR (m + 4), qR (m + 5), qR (m + 6), qR (m + 7), qR (m + 8), qR (m + 9), qR (m + 10), qI (f 18), qI (f 19), qI 0, qR (m + 11), qR (m + 12), qR (m + 13), qR (m + 14), qI (f 25), qR (m + 15), qI (f 27), qR (m + 16), qR (m + 17), qR (m + 18), qR (m + 19), qR (m + 20), qR (m + 21), qR (m + 22), qR (m + 23), qR (m + 24), qI (f 37), qI (f 38), qI (f 39), qI (f 40), qR (m + 25), qR (m + 26), qR (m + 27), qR (m + 28), qR (m + 29), qR (m + 30), qR (m + 31), qI (f 48), qR (m + 32), qR (m + 33), qR (m + 34), qR (m + 35), qR (m + 36), qR (m + 37)]) d_X12_text_35 fp_X12_234 rput_o (fun _ => rfl) (fun _ => rfl) (Nat.le_of_ble_eq_true rfl) rfl ?_
  refine z_eq rfl rfl (rput_sf (f' := (qup (qup (qup (qup (qup (qup f 2 (f 1)) 3 0) 4 0) 5 (-1)) 20 0) 6 0)) rfl) ?_
  refine z_aload_n d_X12_text_38 rfl rfl ?_
  refine z_iconst d_X12_text_39 (by decide) ?_
  refine z_putf (fs' := [qI (f 0), qI (f 1), qI (f 1), qI 0, qI 0, qI (-1), qI 0, qI (-1), qR (m + 1), qR (m + 2), qR (m + 3), qR (m + 4), qR (m + 5), qR (m + 6), qR (m + 7), qR (m + 8), qR (m + 9), qR (m + 10), qI (f 18), qI (f 19), qI 0, qR (m + 11), qR (m + 12), qR (m + 13), qR (m + 14), qI (f 25), qR (m + 15), qI (f 27), qR (m + 16), qR (m + 17), qR (m + 18), qR (m + 19), qR (m + 20), qR (m + 21), qR (m + 22), qR (m + 23), qR (m + 24), qI (f 37), qI (f 38), qI (f 39), qI (f 40), qR (m + 25), qR (m + 26), qR (m + 27), qR (m + 28), qR (m + 29), qR (m + 30), qR (m + 31), qI (f 48), qR (m + 32), qR (m + 33), qR (m + 34), qR (m + 35), qR (m + 36), qR (m + 37)]) d_X12_text_40 fp_X12_9 rput_o (fun _ => rfl) (fun _ => rfl) (Nat.le_of_ble_eq_true rfl) rfl ?_
  refine z_eq rfl rfl (rput_sf (f' := (qup (qup (qup (qup (qup (qup (qup f 2 (f 1)) 3 0) 4 0) 5 (-1)) 20 0) 6 0) 7 (-1))) rfl) ?_
  refine z_aload_n d_X12_text_43 rfl rfl ?_
  refine z_iconst d_X12_text_44 (by decide) ?_
  refine z_putf (fs' := [qI (f 0), qI 0, qI (f 1), qI 0, qI 0, qI (-1), qI 0, qI (-1), qR (m + 1), qR (m + 2), qR (m + 3), qR (m + 4), qR (m + 5), qR (m + 6), qR (m + 7), qR (m + 8), qR (m + 9), qR (m + 10), qI (f 18), qI (f 19), qI 0, qR (m + 11), qR (m + 12), qR (m + 13), qR (m + 14), qI (f 25), qR (m + 15), qI (f 27), qR (m + 16), qR (m + 17), qR (m + 18), qR (m + 19), qR (m + 20), qR (m + 21), qR (m + 22), qR (m + 23), qR (m + 24), qI (f 37), qI (f 38), qI (f 39), qI (f 40), qR (m + 25), qR (m + 26), qR (m + 27), qR (m + 28), qR (m + 29), qR (m + 30), qR (m + 31), qI (f 48), qR (m + 32), qR (m + 33), qR (m + 34), qR (m + 35), qR (m + 36), qR (m + 37)]) d_X12_text_45 fp_X12_130 rput_o (fun _ => rfl) (fun _ => rfl) (Nat.le_of_ble_eq_true rfl) rfl ?_
  refine z_eq rfl rfl (rput_sf (f' := (qup (qup (qup (qup (qup (qup (qup (qup f 2 (f 1)) 3 0) 4 0) 5 (-1)) 20 0) 6 0) 7 (-1)) 1 0)) rfl) ?_
  refine z_iload_n d_X12_text_48 rfl rfl ?_
  refine z_iconst d_X12_text_49 (by decide) ?_
  refine z_iconst d_X12_text_50 (by decide) ?_
  refine z_cs (M1 := M_X12_in) d_X12_text_51 ls_X12_137 k_X12_in [qI k, qI 0, qI 5] rfl rfl (Nat.le_of_ble_eq_true rfl) (by decide) (by decide) (Nat.le_of_ble_eq_true rfl) (c_in k 0 5) ?_
  refine z_ifneB 59 d_X12_text_54 (by decide) (fun hc1 => absurd hc1 (by exact fun z => hno z)) (fun hc1 => ?_)
  refine z_iconst d_X12_text_57 (by decide) ?_
  exact z_iret d_X12_text_58 rfl er eh
