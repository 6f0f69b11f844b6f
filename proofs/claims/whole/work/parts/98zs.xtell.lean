/-! ===== CONTRACTS: BeaconWall: tellPage, tellPlan, tellTree ===== -/
theorem pgR_R2 {F G : Nat → Nat → Int} {p J : Nat} {R R' : Nat → Int} (h : pgR F G p R (J : Int)) (e : ∀ j, j < 4 * J → R j = R' j) : pgR F G p R' (J : Int) := by
  obtain ⟨h1, h2, h3, h4, h5⟩ := h
  refine ⟨h1, h2, h3, fun i hi => ?_, h5⟩
  rw [← e (4 * i) (by omega), ← e (4 * i + 1) (by omega), ← e (4 * i + 2) (by omega), ← e (4 * i + 3) (by omega)]
  exact h4 i hi
theorem tell_bk {F G F' G' : Nat → Nat → Int} {B : Nat → Int} {N k : Nat} {R C R1 : Nat → Int} (hk : k < 4) (hJ : pgJ B N ≤ 24) (hR : bkR F G 4 R C) (he : ∀ a, a < 8 + 5 * k ∨ 8 + 5 * k + 4 < a → 8 ≤ a → a ≤ 27 → F' a = F a ∧ G' a = G a) (h1 : pgR F' G' (8 + 5 * k) R1 (pgJ B N : Int)) (h2 : ∀ j, j < 4 * pgJ B N → R1 j = lpV B N (pgS B N (j / 4)) (j % 4)) : bkR F' G' 4 (fun j => if 96 * k ≤ j ∧ j < 96 * k + 4 * pgJ B N then lpV B N (pgS B N ((j - 96 * k) / 4)) ((j - 96 * k) % 4) else R j) (qup C k (pgJ B N : Int)) := by
  intro q hq
  by_cases z : q = k
  · subst z
    rw [qup_eq]
    show pgR F' G' (8 + 5 * q) _ _
    refine pgR_R2 h1 (fun j hj => ?_)
    rw [h2 j hj]
    show _ = if 96 * q ≤ 96 * q + j ∧ 96 * q + j < 96 * q + 4 * pgJ B N then _ else _
    rw [if_pos (by omega), show 96 * q + j - 96 * q = j by omega]
  · rw [qup_ne z]
    have h9 := hR q hq
    show pgR F' G' (8 + 5 * q) _ _
    refine pgR_R (pgR_cg (p := 8 + 5 * q) h9 (by rw [(he _ (by omega) (by omega) (by omega)).1]) (fun s _ => by rw [(he _ (by omega) (by omega) (by omega)).2]) (fun s _ => by rw [(he _ (by omega) (by omega) (by omega)).2]) (fun s _ => by rw [(he _ (by omega) (by omega) (by omega)).2]) (fun s _ => by rw [(he _ (by omega) (by omega) (by omega)).2])) (fun j hj => ?_)
    show R (96 * q + j) = if 96 * k ≤ 96 * q + j ∧ 96 * q + j < 96 * k + 4 * pgJ B N then _ else R (96 * q + j)
    rw [if_neg (by omega)]
set_option maxRecDepth 20000 in
set_option maxHeartbeats 4000000 in
theorem c_tellPage {h : qH} {F G : Nat → Nat → Int} {B : Nat → Int} {N k : Nat} {R0 R C : Nat → Int} (hP : rdP F G B N (sk B N 0)) (hN : N ≤ 400) (hR0 : pgR F G 165 R0 0) (hZ0 : pgZ G 165 0) (hk : k < 4) (hR : bkR F G 4 R C) (hS7 : ∀ c, 567 ≤ c → c < 648 → G 6 c = 7 ∧ G 7 c = -1) : ∃ F' G', ((∀ k9, k9 < 5 ∨ 8 < k9 → F' 160 k9 = F 160 k9) ∧ (∀ a, a ≠ 160 → a ≠ 127 → (a < 4 ∨ 27 < a) → (a < 165 ∨ 169 < a) → F' a = F a) ∧ (∀ a, (a < 4 ∨ 27 < a) → (a < 165 ∨ 169 < a) → G' a = G a) ∧ ((pgS B N (pgJ B N)).2.1 ≠ 0 → rdE F' (pgS B N (pgJ B N)).2.1 (pgS B N (pgJ B N)).2.2 ∧ F' 127 = F 127 ∧ ∀ a, 4 ≤ a → a ≤ 27 → F' a = F a ∧ G' a = G a) ∧ ((pgS B N (pgJ B N)).2.1 = 0 → rdK F F' ∧ (pgJ B N) ≤ 24 ∧ F' 127 = qup (F 127) 3 0 ∧ bkR F' G' 4 (fun j => if 96 * k ≤ j ∧ j < 96 * k + 4 * pgJ B N then lpV B N (pgS B N ((j - 96 * k) / 4)) ((j - 96 * k) % 4) else R j) (qup C k (pgJ B N : Int)) ∧ (∀ c, c < 648 → G' 6 c = bkTc (fun j => if 96 * k ≤ j ∧ j < 96 * k + 4 * pgJ B N then lpV B N (pgS B N ((j - 96 * k) / 4)) ((j - 96 * k) % 4) else R j) (qup C k (pgJ B N : Int)) 15 (-1) (-1) 0 c) ∧ ∀ c, c < 648 → G' 7 c = bkFc (fun j => if 96 * k ≤ j ∧ j < 96 * k + 4 * pgJ B N then lpV B N (pgS B N ((j - 96 * k) / 4)) ((j - 96 * k) % 4) else R j) (qup C k (pgJ B N : Int)) 15 (-1) c)) ∧ qEx M_X11_tellPage 0 [qR 2, qI (k : Int)] [] (xput h F G) (some (qI (qif ((pgS B N (pgJ B N)).2.1 = 0) ((pgJ B N) : Int) (-1)))) (xput h F' G') := by
  refine x_in (fun Q hQ => ?_)
  refine qy (fun _ _ k9 => z_aload_n d_X11_tellPage_0 rfl rfl k9) ?_
  refine qy (fun _ _ k9 => z_getf (v := qR 160) d_X11_tellPage_1 fl_X11_33 (xput_ob (c := (F 2)) xi_2 rfl (xsh_11 xo_2)) rfl k9) ?_
  obtain ⟨F1, G1, ⟨ha1, hb1, hc1, hy1, hn1⟩, hx1⟩ := c_readPage (h := h) (F := F) (G := G) (B := B) (N := N) (R0 := R0) hP hN hR0 hZ0
  refine qy (fun _ _ k9 => z_cv (M1 := M_X4_readPage) d_X11_tellPage_4 lv_X11_207 k_X4_readPage [] rfl rfl (xput_ob (c := (F 160)) xi_160 rfl (xsh_4 xo_160)) ⟨_, _, rfl⟩ (Nat.le_of_ble_eq_true rfl) (by decide) (by decide) (Nat.le_of_ble_eq_true rfl) hx1 k9) ?_
  refine qy2 (fun _ _ => z_ifneB 12 d_X11_tellPage_7 (by decide)) (fun q7 => ?_) (fun q7 => ?_)
  · have hJ : pgJ B N ≤ 24 := (hy1 q7).2.1
    obtain ⟨R1, hR1, hRw⟩ := (hy1 q7).2.2
    refine qy (fun _ _ k9 => z_aload_n d_X11_tellPage_12 rfl rfl k9) ?_
    refine qy (fun _ _ k9 => z_getf (v := qR 3) d_X11_tellPage_13 fl_X11_12 (xput_ob (c := (F1 2)) xi_2 rfl (xsh_11 xo_2)) rfl k9) ?_
    refine qy (fun _ _ k9 => z_getf (v := qR 4) d_X11_tellPage_16 fl_X11_144 (xput_ob (c := (F1 3)) xi_3 rfl (xsh_8 xo_3)) rfl k9) ?_
    refine qy (fun _ _ k9 => z_getf (v := qR 5) d_X11_tellPage_19 fl_X11_148 (xput_ob (c := (F1 4)) xi_4 rfl (xsh_0 xo_4)) rfl k9) ?_
    refine qy (fun _ _ k9 => z_iload_n d_X11_tellPage_22 rfl rfl k9) ?_
    refine qy (fun _ _ k9 => z_ald k d_X11_tellPage_23 (Or.inl ⟨rfl, rfl, rfl⟩) (xput_ob xi_5 rfl (xsh_20 xo_5)) rfl (by omega) (show (if k < 4 then some (5 + 3 + 5 * k) else none) = some (8 + 5 * k) from (if_pos (by omega)).trans (congrArg some (by omega))) k9) ?_
    refine qy (fun _ _ k9 => z_aload_n d_X11_tellPage_24 rfl rfl k9) ?_
    refine qy (fun _ _ k9 => z_getf (v := qR 160) d_X11_tellPage_25 fl_X11_33 (xput_ob (c := (F1 2)) xi_2 rfl (xsh_11 xo_2)) rfl k9) ?_
    refine qy (fun _ _ k9 => z_getf (v := qR 165) d_X11_tellPage_28 fl_X11_211 (xput_ob (c := (F1 160)) xi_160 rfl (xsh_4 xo_160)) rfl k9) ?_
    obtain ⟨F2, G2, ⟨hv2, hw2⟩, hx2⟩ := c_pgCopy (h := h) (F := F1) (G := G1) (p := 8 + 5 * k) (q := 165) (R := R1) (c := (pgJ B N : Int)) (by omega) ((bkp (a := 4) (by decide) xo_4).2.2 k hk) (by decide) xo_165 (by omega) hR1
    refine qy (fun _ _ k9 => z_cv0 (M1 := M_X2_copyFrom) d_X11_tellPage_31 lv_X11_215 k_X2_copyFrom [qR 165] rfl rfl (xput_ob (c := (F1 (8 + 5 * k))) (pgx_in (by omega) ((bkp (by decide) xo_4).2.2 k (by omega))) rfl (xsh_2 ((bkp (by decide) xo_4).2.2 k (by omega)))) ⟨_, _, rfl⟩ (Nat.le_of_ble_eq_true rfl) (by decide) (by decide) (Nat.le_of_ble_eq_true rfl) hx2 k9) ?_
    refine qy (fun _ _ k9 => z_aload_n d_X11_tellPage_34 rfl rfl k9) ?_
    refine qy (fun _ _ k9 => z_getf (v := qR 3) d_X11_tellPage_35 fl_X11_12 (xput_ob (c := (F2 2)) xi_2 rfl (xsh_11 xo_2)) rfl k9) ?_
    refine qy (fun _ _ k9 => z_getf (v := qR 4) d_X11_tellPage_38 fl_X11_144 (xput_ob (c := (F2 3)) xi_3 rfl (xsh_8 xo_3)) rfl k9) ?_
    obtain ⟨G3, ⟨hs3, hk3, ht3, hd3⟩, hx3⟩ := c_settle (h := h) (F := F2) (G := G2) (b := 4) (R := (fun j => if 96 * k ≤ j ∧ j < 96 * k + 4 * pgJ B N then lpV B N (pgS B N ((j - 96 * k) / 4)) ((j - 96 * k) % 4) else R j)) (C := (qup C k (pgJ B N : Int))) (by decide) xo_4 (tell_bk hk hJ hR (fun a h1 h2 h3 => ⟨(xfr_F hv2 h1).trans (ha1 a (by omega) (by omega)), (xfr_G hv2 h1).trans (hc1 a (by omega))⟩) hw2 hRw) (fun c h1 h2 => (by show G2 6 c = 7 ∧ G2 7 c = -1; rw [xfr_G hv2 (by omega), xfr_G hv2 (by omega), hc1 6 (by decide), hc1 7 (by decide)]; exact hS7 c h1 h2))
    refine qy (fun _ _ k9 => z_cv0 (M1 := M_X0_settle) d_X11_tellPage_41 lv_X11_218 k_X0_settle [] rfl rfl (xput_ob (c := (F2 4)) xi_4 rfl (xsh_0 xo_4)) ⟨_, _, rfl⟩ (Nat.le_of_ble_eq_true rfl) (by decide) (by decide) (Nat.le_of_ble_eq_true rfl) hx3 k9) ?_
    refine qy (fun _ _ k9 => z_aload_n d_X11_tellPage_44 rfl rfl k9) ?_
    refine qy (fun _ _ k9 => z_getf (v := qR 127) d_X11_tellPage_45 fl_X11_26 (xput_ob (c := (F2 2)) xi_2 rfl (xsh_11 xo_2)) rfl k9) ?_
    refine qy (fun _ _ k9 => z_cv0 (M1 := M_X3_forget) d_X11_tellPage_48 lv_X11_76 k_X3_forget [] rfl rfl (xput_ob (c := (F2 127)) xi_127 rfl (xsh_3 xo_127)) ⟨_, _, rfl⟩ (Nat.le_of_ble_eq_true rfl) (by decide) (by decide) (Nat.le_of_ble_eq_true rfl) c_forget k9) ?_
    refine qy (fun _ _ k9 => z_aload_n d_X11_tellPage_51 rfl rfl k9) ?_
    refine qy (fun _ _ k9 => z_getf (v := qR 160) d_X11_tellPage_52 fl_X11_33 (xput_ob (c := (F2 2)) xi_2 rfl (xsh_11 xo_2)) rfl k9) ?_
    refine qy (fun _ _ k9 => z_getf (v := qR 165) d_X11_tellPage_55 fl_X11_211 (xput_ob (c := (F2 160)) xi_160 rfl (xsh_4 xo_160)) rfl k9) ?_
    refine qy (fun _ _ k9 => z_getf (v := qI ((F2 165) 4)) d_X11_tellPage_58 fl_X11_154 (xput_ob (c := (F2 165)) xi_165 rfl (xsh_2 xo_165)) rfl k9) ?_
    have hcnt : F2 165 4 = (pgJ B N : Int) := (congrFun (xfr_F hv2 (by omega)) 4).trans hR1.1
    exact y_ret (hQ (gup F2 127 (qup (F2 127) 3 0)) G3 (⟨fun k9 h9 => (by rw [gup_ne (by decide), xfr_F hv2 (by omega)]; exact hb1 k9 h9), fun a h1 h2 h3 h4 => (by rw [gup_ne h2, xfr_F hv2 (by omega)]; exact ha1 a h1 h4), fun a h3 h4 => (by rw [hs3 a (by omega) (by omega), xfr_G hv2 (by omega)]; exact hc1 a h4), fun z => absurd q7 z, fun _ => ⟨⟨(by rw [gup_ne (by decide), xfr_F hv2 (by omega)]; exact (hy1 q7).1.1), (by rw [gup_ne (by decide), xfr_F hv2 (by omega)]; exact (hy1 q7).1.2)⟩, hJ, (by rw [gup_eq, xfr_F hv2 (by omega), ha1 127 (by decide) (by decide)]), bkR_cg hk3 (fun a h1 h2 => ⟨gup_ne (by omega), rfl⟩), ht3, hd3⟩⟩)) (z_iret d_X11_tellPage_61 rfl (qsi ((qif_t q7).trans hcnt.symm)) rfl)
  · refine qy (fun _ _ k9 => z_iconst d_X11_tellPage_10 (by decide) k9) ?_
    exact y_ret (hQ F1 G1 (⟨hb1, fun a h1 _ _ h4 => ha1 a h1 h4, fun a _ h4 => hc1 a h4, fun _ => ⟨hn1 q7, ha1 127 (by decide) (by decide), fun a h1 h2 => ⟨ha1 a (by omega) (by omega), hc1 a (by omega)⟩⟩, fun z => absurd z q7⟩)) (z_iret d_X11_tellPage_11 rfl (qsi (qif_f q7)) rfl)
set_option maxRecDepth 20000 in
set_option maxHeartbeats 4000000 in
theorem c_tellPlan {h : qH} {F G : Nat → Nat → Int} {B : Nat → Int} {N : Nat} (hP : rdP F G B N (sk B N 0)) (hN : N ≤ 400) (hL0 : F 170 2 = 0) : ∃ F' G', ((∀ k9, k9 < 5 ∨ 8 < k9 → F' 160 k9 = F 160 k9) ∧ (∀ a, a ≠ 160 → a ≠ 127 → a ≠ 52 → a ≠ 170 → F' a = F a) ∧ (∀ a, a ≠ 53 → a ≠ 171 → G' a = G a) ∧ ((pnS B N (pnJ B N)).2.1 ≠ 0 → rdE F' (pnS B N (pnJ B N)).2.1 (pnS B N (pnJ B N)).2.2 ∧ F' 127 = F 127 ∧ F' 52 = F 52 ∧ G' 53 = G 53) ∧ (∃ L : Nat, L ≤ 16 ∧ F' 170 2 = (L : Int)) ∧ ((pnS B N (pnJ B N)).2.1 = 0 → rdK F F' ∧ (pnJ B N) ≤ 16 ∧ F' 127 = qup (F 127) 3 0 ∧ (F' 52 2 = ((pnJ B N) : Int) ∧ ∀ j, j < 4 * pnJ B N → G' 53 j = lqV B N (pnS B N (j / 4)) (j % 4)))) ∧ qEx M_X11_tellPlan 0 [qR 2] [] (xput h F G) (some (qI (qif ((pnS B N (pnJ B N)).2.1 = 0) ((pnJ B N) : Int) (-1)))) (xput h F' G') := by
  refine x_in (fun Q hQ => ?_)
  refine qy (fun _ _ k9 => z_aload_n d_X11_tellPlan_0 rfl rfl k9) ?_
  refine qy (fun _ _ k9 => z_getf (v := qR 160) d_X11_tellPlan_1 fl_X11_33 (xput_ob (c := (F 2)) xi_2 rfl (xsh_11 xo_2)) rfl k9) ?_
  obtain ⟨F1, G1, ⟨ha1, hb1, hc1, hy1, hn1⟩, hx1⟩ := c_readPlan (h := h) (F := F) (G := G) (B := B) (N := N) hP hN hL0
  refine qy (fun _ _ k9 => z_cv (M1 := M_X4_readPlan) d_X11_tellPlan_4 lv_X11_221 k_X4_readPlan [] rfl rfl (xput_ob (c := (F 160)) xi_160 rfl (xsh_4 xo_160)) ⟨_, _, rfl⟩ (Nat.le_of_ble_eq_true rfl) (by decide) (by decide) (Nat.le_of_ble_eq_true rfl) hx1 k9) ?_
  refine qy2 (fun _ _ => z_ifneB 12 d_X11_tellPlan_7 (by decide)) (fun q7 => ?_) (fun q7 => ?_)
  · refine qy (fun _ _ k9 => z_aload_n d_X11_tellPlan_12 rfl rfl k9) ?_
    refine qy (fun _ _ k9 => z_getf (v := qR 3) d_X11_tellPlan_13 fl_X11_12 (xput_ob (c := (F1 2)) xi_2 rfl (xsh_11 xo_2)) rfl k9) ?_
    refine qy (fun _ _ k9 => z_getf (v := qR 52) d_X11_tellPlan_16 fl_X11_175 (xput_ob (c := (F1 3)) xi_3 rfl (xsh_8 xo_3)) rfl k9) ?_
    refine qy (fun _ _ k9 => z_aload_n d_X11_tellPlan_19 rfl rfl k9) ?_
    refine qy (fun _ _ k9 => z_getf (v := qR 160) d_X11_tellPlan_20 fl_X11_33 (xput_ob (c := (F1 2)) xi_2 rfl (xsh_11 xo_2)) rfl k9) ?_
    refine qy (fun _ _ k9 => z_getf (v := qR 170) d_X11_tellPlan_23 fl_X11_224 (xput_ob (c := (F1 160)) xi_160 rfl (xsh_4 xo_160)) rfl k9) ?_
    refine qy (fun _ _ k9 => z_cv0 (M1 := M_X6_copyFrom) d_X11_tellPlan_26 lv_X11_227 k_X6_copyFrom [qR 170] rfl rfl (xput_ob (c := (F1 52)) xi_52 rfl (xsh_6 xo_52)) ⟨_, _, rfl⟩ (Nat.le_of_ble_eq_true rfl) (by decide) (by decide) (Nat.le_of_ble_eq_true rfl) (c_rwCopy (h := h) (F := F1) (G := G1) (q := 52) (p := 170) (L := (pnJ B N)) (by decide) xo_52 (by decide) xo_170 (by decide) (hy1 q7).2.2.1 (by rw [show xM 52 = 16 by decide]; exact (hy1 q7).2.1) (by decide)) k9) ?_
    refine qy (fun _ _ k9 => z_aload_n d_X11_tellPlan_29 rfl rfl k9) ?_
    refine qy (fun _ _ k9 => z_getf (v := qR 127) d_X11_tellPlan_30 fl_X11_26 (xput_ob (c := (F1 2)) xi_2 rfl (xsh_11 xo_2)) rfl k9) ?_
    refine qy (fun _ _ k9 => z_cv0 (M1 := M_X3_forget) d_X11_tellPlan_33 lv_X11_76 k_X3_forget [] rfl rfl (xput_ob (c := (F1 127)) xi_127 rfl (xsh_3 xo_127)) ⟨_, _, rfl⟩ (Nat.le_of_ble_eq_true rfl) (by decide) (by decide) (Nat.le_of_ble_eq_true rfl) c_forget k9) ?_
    refine qy (fun _ _ k9 => z_aload_n d_X11_tellPlan_36 rfl rfl k9) ?_
    refine qy (fun _ _ k9 => z_getf (v := qR 160) d_X11_tellPlan_37 fl_X11_33 (xput_ob (c := (F1 2)) xi_2 rfl (xsh_11 xo_2)) rfl k9) ?_
    refine qy (fun _ _ k9 => z_getf (v := qR 170) d_X11_tellPlan_40 fl_X11_224 (xput_ob (c := (F1 160)) xi_160 rfl (xsh_4 xo_160)) rfl k9) ?_
    refine qy (fun _ _ k9 => z_getf (v := qI ((F1 170) 2)) d_X11_tellPlan_43 fl_X11_174 (xput_ob (c := (F1 170)) xi_170 rfl (xsh_6 xo_170)) rfl k9) ?_
    have hcnt : F1 170 2 = ((pnJ B N) : Int) := (hy1 q7).2.2.1
    exact y_ret (hQ (gup (gup F1 52 (qup (F1 52) 2 ((pnJ B N) : Int))) 127 (qup (F1 127) 3 0)) (gup G1 53 (qcpy (G1 171) (G1 53) (Int.toNat 0) (Int.toNat 0) (Int.toNat (((pnJ B N) : Int) * 4)))) (⟨fun k9 h9 => (by rw [gup_ne (by decide), gup_ne (by decide)]; exact hb1 k9 h9), fun a h1 h2 h3 h4 => (by rw [gup_ne h2, gup_ne h3]; exact ha1 a h1 h4), fun a h3 h4 => (by rw [gup_ne h3]; exact hc1 a h4), fun z => absurd q7 z, ⟨_, (hy1 q7).2.1, (by rw [gup_ne (by decide), gup_ne (by decide)]; exact hcnt)⟩, fun _ => ⟨⟨(by rw [gup_ne (by decide), gup_ne (by decide)]; exact (hy1 q7).1.1), (by rw [gup_ne (by decide), gup_ne (by decide)]; exact (hy1 q7).1.2)⟩, (hy1 q7).2.1, (by rw [gup_eq, ha1 127 (by decide) (by decide)]), (by rw [gup_ne (by decide), gup_eq, qup_eq]), (fun j hj => by rw [gup_eq, qcpy0 (by omega)]; exact (hy1 q7).2.2.2 j hj)⟩⟩)) (z_iret d_X11_tellPlan_46 rfl (qsi ((qif_t q7).trans hcnt.symm)) rfl)
  · refine qy (fun _ _ k9 => z_iconst d_X11_tellPlan_10 (by decide) k9) ?_
    exact y_ret (hQ F1 G1 (⟨hb1, fun a h1 _ _ h4 => ha1 a h1 h4, fun a _ h4 => hc1 a h4, fun _ => ⟨(hn1 q7).1, ha1 127 (by decide) (by decide), ha1 52 (by decide) (by decide), hc1 53 (by decide)⟩, (hn1 q7).2, fun z => absurd z q7⟩)) (z_iret d_X11_tellPlan_11 rfl (qsi (qif_f q7)) rfl)
set_option maxRecDepth 20000 in
set_option maxHeartbeats 4000000 in
theorem c_tellTree {h : qH} {F G : Nat → Nat → Int} {B : Nat → Int} {N : Nat} {A0 : Nat → Int} (hP : rdP F G B N (sk B N 0)) (hN : N ≤ 400) (hL0 : F 170 2 = 0) (hA0 : ∀ k, k < 16 → A0 k = -1) : ∃ F' G', ((∀ k9, k9 < 5 ∨ 8 < k9 → F' 160 k9 = F 160 k9) ∧ (∀ a, a ≠ 160 → a ≠ 127 → a ≠ 54 → a ≠ 170 → F' a = F a) ∧ (∀ a, a ≠ 55 → a ≠ 171 → G' a = G a) ∧ ((tnX B N A0 (tnJ B N A0)).1.2.1 ≠ 0 → rdE F' (tnX B N A0 (tnJ B N A0)).1.2.1 (tnX B N A0 (tnJ B N A0)).1.2.2 ∧ F' 127 = F 127 ∧ F' 54 = F 54 ∧ G' 55 = G 55) ∧ (∃ L : Nat, L ≤ 16 ∧ F' 170 2 = (L : Int)) ∧ ((tnX B N A0 (tnJ B N A0)).1.2.1 = 0 → rdK F F' ∧ (tnJ B N A0) ≤ 16 ∧ F' 127 = F 127 ∧ (F' 54 2 = ((tnJ B N A0) : Int) ∧ trC (G' 55) (tnJ B N A0) ∧ ∀ k, k < 16 → (tnX B N A0 (tnJ B N A0)).2 k = trF (G' 55) (fun _ => -1) (tnJ B N A0) k))) ∧ qEx M_X11_tellTree 0 [qR 2] [] (xput h F G) (some (qI (qif ((tnX B N A0 (tnJ B N A0)).1.2.1 = 0) ((tnJ B N A0) : Int) (-1)))) (xput h F' G') := by
  refine x_in (fun Q hQ => ?_)
  refine qy (fun _ _ k9 => z_aload_n d_X11_tellTree_0 rfl rfl k9) ?_
  refine qy (fun _ _ k9 => z_getf (v := qR 160) d_X11_tellTree_1 fl_X11_33 (xput_ob (c := (F 2)) xi_2 rfl (xsh_11 xo_2)) rfl k9) ?_
  obtain ⟨F1, G1, ⟨ha1, hb1, hc1, hy1, hn1⟩, hx1⟩ := c_readTree (h := h) (F := F) (G := G) (B := B) (N := N) (A0 := A0) hP hN hL0 hA0
  refine qy (fun _ _ k9 => z_cv (M1 := M_X4_readTree) d_X11_tellTree_4 lv_X11_230 k_X4_readTree [] rfl rfl (xput_ob (c := (F 160)) xi_160 rfl (xsh_4 xo_160)) ⟨_, _, rfl⟩ (Nat.le_of_ble_eq_true rfl) (by decide) (by decide) (Nat.le_of_ble_eq_true rfl) hx1 k9) ?_
  refine qy2 (fun _ _ => z_ifneB 12 d_X11_tellTree_7 (by decide)) (fun q7 => ?_) (fun q7 => ?_)
  · refine qy (fun _ _ k9 => z_aload_n d_X11_tellTree_12 rfl rfl k9) ?_
    refine qy (fun _ _ k9 => z_getf (v := qR 3) d_X11_tellTree_13 fl_X11_12 (xput_ob (c := (F1 2)) xi_2 rfl (xsh_11 xo_2)) rfl k9) ?_
    refine qy (fun _ _ k9 => z_getf (v := qR 54) d_X11_tellTree_16 fl_X11_178 (xput_ob (c := (F1 3)) xi_3 rfl (xsh_8 xo_3)) rfl k9) ?_
    refine qy (fun _ _ k9 => z_aload_n d_X11_tellTree_19 rfl rfl k9) ?_
    refine qy (fun _ _ k9 => z_getf (v := qR 160) d_X11_tellTree_20 fl_X11_33 (xput_ob (c := (F1 2)) xi_2 rfl (xsh_11 xo_2)) rfl k9) ?_
    refine qy (fun _ _ k9 => z_getf (v := qR 170) d_X11_tellTree_23 fl_X11_224 (xput_ob (c := (F1 160)) xi_160 rfl (xsh_4 xo_160)) rfl k9) ?_
    refine qy (fun _ _ k9 => z_cv0 (M1 := M_X6_copyFrom) d_X11_tellTree_26 lv_X11_227 k_X6_copyFrom [qR 170] rfl rfl (xput_ob (c := (F1 54)) xi_54 rfl (xsh_6 xo_54)) ⟨_, _, rfl⟩ (Nat.le_of_ble_eq_true rfl) (by decide) (by decide) (Nat.le_of_ble_eq_true rfl) (c_rwCopy (h := h) (F := F1) (G := G1) (q := 54) (p := 170) (L := (tnJ B N A0)) (by decide) xo_54 (by decide) xo_170 (by decide) (hy1 q7).2.2.1 (by rw [show xM 54 = 16 by decide]; exact (hy1 q7).2.1) (by decide)) k9) ?_
    refine qy (fun _ _ k9 => z_aload_n d_X11_tellTree_29 rfl rfl k9) ?_
    refine qy (fun _ _ k9 => z_getf (v := qR 160) d_X11_tellTree_30 fl_X11_33 (xput_ob (c := (F1 2)) xi_2 rfl (xsh_11 xo_2)) rfl k9) ?_
    refine qy (fun _ _ k9 => z_getf (v := qR 170) d_X11_tellTree_33 fl_X11_224 (xput_ob (c := (F1 160)) xi_160 rfl (xsh_4 xo_160)) rfl k9) ?_
    refine qy (fun _ _ k9 => z_getf (v := qI ((F1 170) 2)) d_X11_tellTree_36 fl_X11_174 (xput_ob (c := (F1 170)) xi_170 rfl (xsh_6 xo_170)) rfl k9) ?_
    have hcnt : F1 170 2 = ((tnJ B N A0) : Int) := (hy1 q7).2.2.1
    exact y_ret (hQ (gup F1 54 (qup (F1 54) 2 ((tnJ B N A0) : Int))) (gup G1 55 (qcpy (G1 171) (G1 55) (Int.toNat 0) (Int.toNat 0) (Int.toNat (((tnJ B N A0) : Int) * 4)))) (⟨fun k9 h9 => (by rw [gup_ne (by decide)]; exact hb1 k9 h9), fun a h1 h2 h3 h4 => (by rw [gup_ne h3]; exact ha1 a h1 h4), fun a h3 h4 => (by rw [gup_ne h3]; exact hc1 a h4), fun z => absurd q7 z, ⟨_, (hy1 q7).2.1, (by rw [gup_ne (by decide)]; exact hcnt)⟩, fun _ => ⟨⟨(by rw [gup_ne (by decide)]; exact (hy1 q7).1.1), (by rw [gup_ne (by decide)]; exact (hy1 q7).1.2)⟩, (hy1 q7).2.1, (by rw [gup_ne (by decide), ha1 127 (by decide) (by decide)]), (by rw [gup_eq, qup_eq]), (by have ec : ∀ j, j < 4 * (tnJ B N A0) → G1 171 j = (qcpy (G1 171) (G1 55) (Int.toNat 0) (Int.toNat 0) (Int.toNat (((tnJ B N A0) : Int) * 4))) j := (fun j hj => by rw [qcpy0 (by omega)]); exact ⟨fun i hi => (by rw [gup_eq, ← ec _ (by omega), ← ec _ (by omega)]; exact (hy1 q7).2.2.2.1 i hi), fun k hk => (by rw [gup_eq, ← trF_rows _ ec]; exact (hy1 q7).2.2.2.2 k hk)⟩)⟩⟩)) (z_iret d_X11_tellTree_39 rfl (qsi ((qif_t q7).trans hcnt.symm)) rfl)
  · refine qy (fun _ _ k9 => z_iconst d_X11_tellTree_10 (by decide) k9) ?_
    exact y_ret (hQ F1 G1 (⟨hb1, fun a h1 _ _ h4 => ha1 a h1 h4, fun a _ h4 => hc1 a h4, fun _ => ⟨(hn1 q7).1, ha1 127 (by decide) (by decide), ha1 54 (by decide) (by decide), hc1 55 (by decide)⟩, (hn1 q7).2, fun z => absurd z q7⟩)) (z_iret d_X11_tellTree_11 rfl (qsi (qif_f q7)) rfl)
