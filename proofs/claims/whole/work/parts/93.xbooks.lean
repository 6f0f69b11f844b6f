/-! ===== CONTRACTS: trials of other books ===== -/
theorem pgR_R {F G : Nat → Nat → Int} {p : Nat} {R R' : Nat → Int} {c : Int} (h : pgR F G p R c) (e : ∀ j, j < 96 → R j = R' j) : pgR F G p R' c := by
  obtain ⟨a, b, d, f, g⟩ := h
  refine ⟨a, b, d, fun i hi => ⟨fun s hs => ?_, ?_⟩, g⟩
  · rw [← e (4 * i) (by omega), ← e (4 * i + 1) (by omega), ← e (4 * i + 2) (by omega)]; exact (f i hi).1 s hs
  · rw [← e (4 * i + 3) (by omega)]; exact (f i hi).2
theorem bkF_cg9 {R C R' C' : Nat → Int} {pg pg' wo wo' : Int} {o l r : Nat} (h : ∀ i, i < 96 → (bkP R C pg wo o l r i ↔ bkP R' C' pg' wo' o l r i)) : bkF R C pg wo o l r = bkF R' C' pg' wo' o l r := by
  unfold bkF
  exact qif_cg Iff.rfl rfl (fst_congr h)
theorem wear_T {R C : Nat → Int} {i : Nat} {c : Nat} : bkTc (qup R (4 * i) 0) C 15 (-1) (-1) 0 c = bkTc R C 15 (i : Int) (-1) 0 c := by
  have e : ∀ o l r, bkF (qup R (4 * i) 0) C 15 (-1) o l r = bkF R C 15 (i : Int) o l r := fun o l r => bkF_cg9 (fun q hq => by
    unfold bkP bkA bkFt
    rw [qup_ne (show 4 * q + 1 ≠ 4 * i by omega), qup_ne (show 4 * q + 2 ≠ 4 * i by omega)]
    by_cases z : q = i
    · subst z
      rw [qup_eq, tb_0]
      exact ⟨fun z => absurd z.2.1 (by decide), fun z => absurd rfl z.1.2.2⟩
    · rw [qup_ne (by omega)]
      exact ⟨fun y => ⟨⟨y.1.1, y.1.2.1, by omega⟩, y.2⟩, fun y => ⟨⟨y.1.1, y.1.2.1, by omega⟩, y.2⟩⟩)
  unfold bkTc bkT bkM
  rw [e, qup_ne (show 4 * (bkF R C 15 (i : Int) (c / 81) (c / 9 % 9) (c % 9)).toNat + 3 ≠ 4 * i by omega)]
theorem mend_T {R C : Nat → Int} {i : Nat} {m : Int} {c : Nat} : bkTc (qup R (4 * i + 3) m) C 15 (-1) (-1) 0 c = bkTc R C 15 (-1) (i : Int) m c := by
  have e : ∀ o l r, bkF (qup R (4 * i + 3) m) C 15 (-1) o l r = bkF R C 15 (-1) o l r := fun o l r => bkF_cg9 (fun q hq => by
    unfold bkP bkA bkFt
    rw [qup_ne (show 4 * q ≠ 4 * i + 3 by omega), qup_ne (show 4 * q + 1 ≠ 4 * i + 3 by omega), qup_ne (show 4 * q + 2 ≠ 4 * i + 3 by omega)])
  have hb := bkF_bd R C 15 (-1) (c / 81) (c / 9 % 9) (c % 9)
  have eM : bkM (qup R (4 * i + 3) m) C 15 (-1) (-1) 0 (c / 81) (c / 9 % 9) (c % 9) = bkM R C 15 (-1) (i : Int) m (c / 81) (c / 9 % 9) (c % 9) := by
    unfold bkM
    rw [e]
    generalize bkF R C 15 (-1) (c / 81) (c / 9 % 9) (c % 9) = x at hb
    by_cases z : x = -1
    · rw [qif_f (show ¬ x ≠ -1 from fun y => y z), qif_f (show ¬ x ≠ -1 from fun y => y z)]
    · rw [qif_t (show x ≠ -1 from z), qif_t (show x ≠ -1 from z), qif_t (show x ≠ -1 from z)]
      by_cases y : x = (i : Int)
      · rw [qif_f (show ¬ x ≠ (i : Int) from fun w => w y), y, Int.toNat_natCast, qup_eq]
      · rw [qif_t (show x ≠ (i : Int) from y), qup_ne (by omega)]
  unfold bkTc bkT
  rw [eM]
noncomputable def pgC (C : Nat → Int) (s : Int) (p : Nat) : Int := qif (tb s p = true) (C p) 0
theorem pages_T {R C : Nat → Int} {s : Int} {c : Nat} (hC : ∀ k, k < 4 → 0 ≤ C k) : bkTc R (pgC C s) 15 (-1) (-1) 0 c = bkTc R C s (-1) (-1) 0 c := by
  have e : ∀ o l r, bkF R (pgC C s) 15 (-1) o l r = bkF R C s (-1) o l r := fun o l r => bkF_cg9 (fun q hq => by
    unfold bkP bkA pgC
    by_cases z : tb s (q / 24) = true
    · rw [qif_t z, tb15 (by omega)]
      exact ⟨fun y => ⟨⟨z, y.1.2⟩, y.2⟩, fun y => ⟨⟨rfl, y.1.2⟩, y.2⟩⟩
    · rw [qif_f z]
      exact ⟨fun y => absurd y.1.2.1 (by omega), fun y => absurd y.1.1 z⟩)
  unfold bkTc bkT bkM
  rw [e]
def thi (G : Nat → Nat → Int) : Prop := ∀ c, 567 ≤ c → c < 648 → G 183 c = 7 ∧ G 184 c = -1
theorem bkOk_wear {R C : Nat → Int} {i : Nat} (h : bkOk R C) : bkOk (qup R (4 * i) 0) C := fun q h1 h2 => by rw [qup_ne (by omega)]; exact h q h1 h2
theorem bkOk_mend {R C : Nat → Int} {i : Nat} {m : Int} (h : bkOk R C) (hm : 0 ≤ m ∧ m ≤ 8) : bkOk (qup R (4 * i + 3) m) C := fun q h1 h2 => by
  by_cases e : 4 * q + 3 = 4 * i + 3
  · rw [e, qup_eq]; exact hm
  · rw [qup_ne e]; exact h q h1 h2
theorem bkOk_pg {R C : Nat → Int} {s : Int} (h : bkOk R C) : bkOk R (pgC C s) := fun q h1 h2 => by
  unfold pgC at h2
  by_cases z : tb s (q / 24) = true
  · rw [qif_t z] at h2; exact h q h1 h2
  · rw [qif_f z] at h2; omega
theorem wear_bk {F G G' : Nat → Nat → Int} {R C : Nat → Int} {i : Nat} (h : bkR F G 181 R C) (hv : xfr (185 + 5 * (i / 24)) (185 + 5 * (i / 24) + 4) F G F G') (hw : pgR F G' (185 + 5 * (i / 24)) (qup (fun j => R (96 * (i / 24) + j)) (4 * (i % 24)) 0) (C (i / 24))) (hi : i < 96) : bkR F G' 181 (qup R (4 * i) 0) C := by
  intro k hk
  by_cases e : k = i / 24
  · subst e
    refine pgR_R hw (fun j hj => ?_)
    by_cases z : j = 4 * (i % 24)
    · subst z
      rw [qup_eq, show 96 * (i / 24) + 4 * (i % 24) = 4 * i by omega, qup_eq]
    · rw [qup_ne z, qup_ne (by omega)]
  · refine pgR_R (pgR_cg (h k hk) rfl (fun s _ => by rw [xfr_G hv (by omega)]) (fun s _ => by rw [xfr_G hv (by omega)]) (fun s _ => by rw [xfr_G hv (by omega)]) (fun s _ => by rw [xfr_G hv (by omega)])) (fun j hj => ?_)
    rw [qup_ne (by omega)]
set_option maxRecDepth 20000 in
set_option maxHeartbeats 4000000 in
theorem c_fbWithout {h : qH} {F G : Nat → Nat → Int} {b to : Nat} {R C : Nat → Int} (i : Nat) (hb2 : 2 ≤ b) (hb : xk b = 0) (hbl : b + 23 < 172) (ht : to ≤ 24) (hR : bkR F G b R C) (hO : bkOk R C) (hS7 : ∀ c, 567 ≤ c → c < 648 → G (b + 2) c = 7 ∧ G (b + 3) c = -1) (hi : i < 96) (hi2 : ((i % 24 : Nat) : Int) < C (i / 24)) : ∃ F' G', (xfr 172 205 F G F' G' ∧ thi G') ∧ qEx M_X9_firstBadWithout 0 [qR 172, qR b, qI (i : Int), qI (to : Int)] [] (xput h F G) (some (qI (fbR (bkTc (qup R (4 * i) 0) C 15 (-1) (-1) 0) to))) (xput h F' G') := by
  refine x_in (fun Q hQ => ?_)
  refine qy (fun _ _ k9 => z_aload_n d_X9_firstBadWithout_0 rfl rfl k9) ?_
  refine qy (fun _ _ k9 => z_getf (v := qR 181) d_X9_firstBadWithout_1 fl_X9_24 (xput_ob (c := (F 172)) xi_172 rfl (xsh_9 xo_172)) rfl k9) ?_
  refine qy (fun _ _ k9 => z_aload_n d_X9_firstBadWithout_4 rfl rfl k9) ?_
  obtain ⟨F1, G1, ⟨hv1, hw1, hs1, hd1⟩, hx1⟩ := c_bkCopy (h := h) (F := F) (G := G) (b := 181) (c := b) (R := R) (C := C) (by decide) xo_181 hb2 hb (by omega) hR
  refine qy (fun _ _ k9 => z_cv0 (M1 := M_X0_copyFrom) d_X9_firstBadWithout_5 lv_X9_93 k_X0_copyFrom [qR b] rfl rfl (xput_ob (c := (F 181)) xi_181 rfl (xsh_0 xo_181)) ⟨_, _, rfl⟩ (Nat.le_of_ble_eq_true rfl) (by decide) (by decide) (Nat.le_of_ble_eq_true rfl) hx1 k9) ?_
  refine qy (fun _ _ k9 => z_aload_n d_X9_firstBadWithout_8 rfl rfl k9) ?_
  refine qy (fun _ _ k9 => z_getf (v := qR 181) d_X9_firstBadWithout_9 fl_X9_24 (xput_ob (c := (F1 172)) xi_172 rfl (xsh_9 xo_172)) rfl k9) ?_
  refine qy (fun _ _ k9 => z_getf (v := qR 182) d_X9_firstBadWithout_12 fl_X9_97 (xput_ob (c := (F1 181)) xi_181 rfl (xsh_0 xo_181)) rfl k9) ?_
  refine qy (fun _ _ k9 => z_iload_n d_X9_firstBadWithout_15 rfl rfl k9) ?_
  refine qy (fun _ _ k9 => z_bipush d_X9_firstBadWithout_16 (by decide) k9) ?_
  refine qy (fun _ _ k9 => z_idiv d_X9_firstBadWithout_18 (by omega) k9) ?_
  refine qy (fun _ _ k9 => z_eq rfl (qc (qi (by rw [Int.tdiv_eq_ediv_of_nonneg (by omega)] <;> omega)) rfl) rfl k9) ?_
  refine qy (fun _ _ k9 => z_ald (i / 24) d_X9_firstBadWithout_19 (Or.inl ⟨rfl, rfl, rfl⟩) (xput_ob xi_182 rfl (xsh_20 xo_182)) rfl (by omega) (show (if (i / 24) < 4 then some (182 + 3 + 5 * (i / 24)) else none) = some (185 + 5 * (i / 24)) from (if_pos (by omega)).trans (congrArg some (by omega))) k9) ?_
  refine qy (fun _ _ k9 => z_iload_n d_X9_firstBadWithout_20 rfl rfl k9) ?_
  refine qy (fun _ _ k9 => z_bipush d_X9_firstBadWithout_21 (by decide) k9) ?_
  refine qy (fun _ _ k9 => z_irem d_X9_firstBadWithout_23 (by omega) k9) ?_
  refine qy (fun _ _ k9 => z_eq rfl (qc (qi (by rw [Int.tmod_eq_emod_of_nonneg (by omega)] <;> omega)) rfl) rfl k9) ?_
  obtain ⟨G2, ⟨hv2, hw2⟩, hx2⟩ := c_pgWear (h := h) (F := F1) (G := G1) (p := (185 + 5 * (i / 24))) (R := (fun j => R (96 * (i / 24) + j))) (c := C (i / 24)) (i % 24) (by omega) ((bkp (by decide) xo_181).2.2 (i / 24) (by omega)) (hw1 (i / 24) (by omega)) hi2
  refine qy (fun _ _ k9 => z_cv0 (M1 := M_X2_wearOut) d_X9_firstBadWithout_24 lv_X9_101 k_X2_wearOut [qI (((i % 24) : Nat) : Int)] rfl rfl (xput_ob (c := (F1 (185 + 5 * (i / 24)))) (pgx_in (by omega) ((bkp (by decide) xo_181).2.2 (i / 24) (by omega))) rfl (xsh_2 ((bkp (by decide) xo_181).2.2 (i / 24) (by omega)))) ⟨_, _, rfl⟩ (Nat.le_of_ble_eq_true rfl) (by decide) (by decide) (Nat.le_of_ble_eq_true rfl) hx2 k9) ?_
  refine qy (fun _ _ k9 => z_aload_n d_X9_firstBadWithout_27 rfl rfl k9) ?_
  refine qy (fun _ _ k9 => z_getf (v := qR 181) d_X9_firstBadWithout_28 fl_X9_24 (xput_ob (c := (F1 172)) xi_172 rfl (xsh_9 xo_172)) rfl k9) ?_
  obtain ⟨G3, ⟨hv3, hw3, ht3, hd3⟩, hx3⟩ := c_settle (h := h) (F := F1) (G := G2) (b := 181) (R := (qup R (4 * i) 0)) (C := C) (by decide) xo_181 (wear_bk hw1 hv2 hw2 (by omega)) (fun c h1 h2 => by rw [xfr_G hv2 (by omega), xfr_G hv2 (by omega), hs1 c h2, hd1 c h2]; exact hS7 c h1 h2)
  refine qy (fun _ _ k9 => z_cv0 (M1 := M_X0_settle) d_X9_firstBadWithout_31 lv_X9_107 k_X0_settle [] rfl rfl (xput_ob (c := (F1 181)) xi_181 rfl (xsh_0 xo_181)) ⟨_, _, rfl⟩ (Nat.le_of_ble_eq_true rfl) (by decide) (by decide) (Nat.le_of_ble_eq_true rfl) hx3 k9) ?_
  refine qy (fun _ _ k9 => z_aload_n d_X9_firstBadWithout_34 rfl rfl k9) ?_
  refine qy (fun _ _ k9 => z_aload_n d_X9_firstBadWithout_35 rfl rfl k9) ?_
  refine qy (fun _ _ k9 => z_getf (v := qR 181) d_X9_firstBadWithout_36 fl_X9_24 (xput_ob (c := (F1 172)) xi_172 rfl (xsh_9 xo_172)) rfl k9) ?_
  refine qy (fun _ _ k9 => z_getf (v := qR 183) d_X9_firstBadWithout_39 fl_X9_110 (xput_ob (c := (F1 181)) xi_181 rfl (xsh_0 xo_181)) rfl k9) ?_
  refine qy (fun _ _ k9 => z_iload_n d_X9_firstBadWithout_42 rfl rfl k9) ?_
  obtain ⟨F4, G4, ⟨hv4, -⟩, hx4⟩ := xc_firstBad (h := h) (F := F1) (G := G3) (d := 183) (to := to) (T := (bkTc (qup R (4 * i) 0) C 15 (-1) (-1) 0)) xa_183 (by decide) (by omega) ht3 (bkTc_bd (bkOk_wear hO) (by decide))
  refine qy (fun _ _ k9 => z_cv (M1 := M_X9_firstBad) d_X9_firstBadWithout_43 lv_X9_113 k_X9_firstBad [qR 183, qI (to : Int)] rfl rfl (xput_ob (c := (F1 172)) xi_172 rfl (xsh_9 xo_172)) ⟨_, _, rfl⟩ (Nat.le_of_ble_eq_true rfl) (by decide) (by decide) (Nat.le_of_ble_eq_true rfl) hx4 k9) ?_
  exact y_ret (hQ F4 G4 (⟨(fun a ha => ⟨(xfr_F hv4 (by omega)).trans (xfr_F hv1 (by omega)), ((xfr_G hv4 (by omega)).trans (hv3 a (by omega) (by omega))).trans ((xfr_G hv2 (by omega)).trans (xfr_G hv1 (by omega)))⟩), fun c h1 h2 => by rw [xfr_G hv4 (by omega), xfr_G hv4 (by omega), ht3 c h2, hd3 c h2]; exact ⟨(bk_hi h1 h2).2, (bk_hi h1 h2).1⟩⟩)) (z_iret d_X9_firstBadWithout_46 rfl rfl rfl)
