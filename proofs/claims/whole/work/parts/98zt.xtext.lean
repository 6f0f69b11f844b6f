/-! ===== CONTRACTS: BeaconWall: text ===== -/
theorem pg_emp {F G : Nat → Nat → Int} {R : Nat → Int} (h : F 165 4 = 0 ∧ ∀ s, s < 9 → G 166 s = 0 ∧ G 167 s = 0 ∧ G 168 s = 0) : pgR F G 165 R 0 ∧ pgZ G 165 0 := by
  refine ⟨⟨h.1, by decide, by decide, fun i hi => absurd hi (by omega), fun i s _ _ hs => ?_⟩, fun i s _ _ hs => ⟨?_, ?_⟩⟩
  · show tb (G 166 s) i = false
    rw [(h.2 s hs).1, tb_0]
  · show tb (G 167 s) i = false
    rw [(h.2 s hs).2.1, tb_0]
  · show tb (G 168 s) i = false
    rw [(h.2 s hs).2.2, tb_0]
section PnFault
variable {B : Nat → Int} {N : Nat} {A : Nat → Int} {s : pS}
theorem fOk_pl (h : fOk s) : fOk (plS B N s) := by
  have h1 : fOk (pl1 B N s) := fOk_nu (fOk_tk h)
  have h2 : fOk (acS B N (pl1 B N s)) := fOk_2 h1 ac_2
  have h3 : fOk (pl3 B N s) := by unfold pl3; exact qif_or fOk (fOk_wr (by decide) h2) h2
  have h4 : fOk (pl4 B N s) := fOk_nu h3
  unfold plS pl5
  exact fOk_gn (qif_or fOk (fOk_nu h4) (qif_or fOk (fOk_nu h4) h4))
theorem fOk_pn : ∀ i, fOk (pnS B N i)
  | 0 => fOk_sk (fun _ => rfl)
  | i + 1 => by
    refine fOk_sk ?_
    unfold lqS
    by_cases z : ckP B N 10 i (pnS B N i).1 = 0
    · rw [qif_f (fun y => y z)]; exact fOk_pl (fOk_pn i)
    · rw [qif_t z]; exact fOk_n z
theorem fOk_tr (h : fOk s) : fOk (trS B N A s) := by
  have h2 : fOk (tr2 B N s) := fOk_nu (fOk_sk (fOk_tk h))
  have h3 : fOk (tr3 B N A s) := by unfold tr3; exact qif_or fOk (fOk_wr (by decide) h2) h2
  have h4 : fOk (tr4 B N A s) := by unfold tr4; exact qif_or fOk (fOk_tk h3) (fOk_wr (by decide) (fOk_tk h3))
  have h6 : fOk (tr6 B N A s) := fOk_nu (fOk_sk h4)
  have h7 : fOk (tr7 B N A s) := by unfold tr7; exact qif_or fOk (fOk_wr (by decide) h6) h6
  exact fOk_gn h7
theorem fOk_tn {A0 : Nat → Int} : ∀ i, fOk (tnX B N A0 i).1
  | 0 => fOk_sk (fun _ => rfl)
  | i + 1 => by
    refine fOk_sk ?_
    unfold ltS
    by_cases z : ckP B N 17 i (tnX B N A0 i).1.1 = 0
    · rw [qif_f (fun y => y z)]; exact fOk_tr (fOk_tn i)
    · rw [qif_t z]; exact fOk_n z
end PnFault
set_option maxRecDepth 20000 in
set_option maxHeartbeats 4000000 in
theorem xc_text_pg {h : qH} {F G : Nat → Nat → Int} {B : Nat → Int} {N L k : Nat} {R C : Nat → Int} (hZ : rdB F G B N) (hN : N ≤ 400) (hL : F 170 2 = (L : Int)) (hL2 : L ≤ 16) (hk : k < 4) (hR : bkR F G 4 R C) (hS7 : ∀ c, 567 ≤ c → c < 648 → G 6 c = 7 ∧ G 7 c = -1) : ∃ F' G', ((∀ a, a ≠ 160 → a ≠ 127 → (a < 4 ∨ 27 < a) → (a < 165 ∨ 170 < a) → F' a = F a) ∧ (∀ a, (a < 4 ∨ 27 < a) → (a < 162 ∨ 169 < a) → G' a = G a) ∧ (F' 160 1 = 0 ∧ F' 160 7 = (pgS B N (pgJ B N)).2.1 ∧ F' 160 8 = (pgS B N (pgJ B N)).2.2) ∧ (∃ L : Nat, L ≤ 16 ∧ F' 170 2 = (L : Int)) ∧ ((pgS B N (pgJ B N)).2.1 ≠ 0 → F' 127 = F 127 ∧ ∀ a, 4 ≤ a → a ≤ 27 → F' a = F a ∧ G' a = G a) ∧ ((pgS B N (pgJ B N)).2.1 = 0 → (pgJ B N) ≤ 24 ∧ F' 127 = qup (F 127) 3 0 ∧ bkR F' G' 4 (fun j => if 96 * k ≤ j ∧ j < 96 * k + 4 * pgJ B N then lpV B N (pgS B N ((j - 96 * k) / 4)) ((j - 96 * k) % 4) else R j) (qup C k (pgJ B N : Int)) ∧ (∀ c, c < 648 → G' 6 c = bkTc (fun j => if 96 * k ≤ j ∧ j < 96 * k + 4 * pgJ B N then lpV B N (pgS B N ((j - 96 * k) / 4)) ((j - 96 * k) % 4) else R j) (qup C k (pgJ B N : Int)) 15 (-1) (-1) 0 c) ∧ ∀ c, c < 648 → G' 7 c = bkFc (fun j => if 96 * k ≤ j ∧ j < 96 * k + 4 * pgJ B N then lpV B N (pgS B N ((j - 96 * k) / 4)) ((j - 96 * k) % 4) else R j) (qup C k (pgJ B N : Int)) 15 (-1) c)) ∧ qEx M_X11_text 0 [qR 2, qI (k : Int), qU] [] (xput h F G) (some (qI (qif ((pgS B N (pgJ B N)).2.1 = 0) ((pgJ B N) : Int) (-1)))) (xput h F' G') := by
  refine x_in (fun Q hQ => ?_)
  refine qy (fun _ _ k9 => z_iconst d_X11_text_0 (by decide) k9) ?_
  refine qy (fun _ _ k9 => z_istore_n (ls' := [qR 2, qI (k : Int), qI (-1)]) d_X11_text_1 rfl (by decide) rfl k9) ?_
  refine qy (fun _ _ k9 => z_aload_n d_X11_text_2 rfl rfl k9) ?_
  refine qy (fun _ _ k9 => z_getf (v := qR 160) d_X11_text_3 fl_X11_33 (xput_ob (c := (F 2)) xi_2 rfl (xsh_11 xo_2)) rfl k9) ?_
  obtain ⟨F1, G1, ⟨oa1, ob1, oc1, oe1, op1, oz1, ol1⟩, hx1⟩ := c_open (h := h) (F := F) (G := G) (B := B) (N := N) (L := L) hZ hN hL hL2
  refine qy (fun _ _ k9 => z_cv0 (M1 := M_X4_open) d_X11_text_6 lv_X11_195 k_X4_open [] rfl rfl (xput_ob (c := (F 160)) xi_160 rfl (xsh_4 xo_160)) ⟨_, _, rfl⟩ (Nat.le_of_ble_eq_true rfl) (by decide) (by decide) (Nat.le_of_ble_eq_true rfl) hx1 k9) ?_
  refine qy (fun _ _ k9 => z_iload_n d_X11_text_9 rfl rfl k9) ?_
  refine qy (fun _ _ k9 => z_iconst d_X11_text_10 (by decide) k9) ?_
  refine qy (fun _ _ k9 => z_iconst d_X11_text_11 (by decide) k9) ?_
  refine qy (fun _ _ k9 => z_cs (M1 := M_X11_isWithin) d_X11_text_12 ls_X11_62 k_X11_isWithin [qI (k : Int), qI 0, qI 3] rfl rfl (Nat.le_of_ble_eq_true rfl) (by decide) (by decide) (Nat.le_of_ble_eq_true rfl) (c_isWithin (k : Int) 0 3) k9) ?_
  refine qy2n (fun _ _ => z_ifeqB 27 d_X11_text_15 (by decide)) (fun hc1 => absurd hc1 (by omega)) (fun hc1 => ?_)
  refine qy (fun _ _ k9 => z_aload_n d_X11_text_18 rfl rfl k9) ?_
  refine qy (fun _ _ k9 => z_iload_n d_X11_text_19 rfl rfl k9) ?_
  obtain ⟨F2, G2, ⟨tz2, ta2, tc2, tn2, ty2⟩, hx2⟩ := c_tellPage (h := h) (F := F1) (G := G1) (B := B) (N := N) (k := k) (R0 := fun _ => 0) (R := R) (C := C) op1 hN (pg_emp oz1).1 (pg_emp (R := fun _ => 0) oz1).2 hk (bkR_cg hR (fun a h1 h2 => ⟨oa1 a (by omega) (by omega) (by omega), oc1 a (by omega)⟩)) (fun c h1 h2 => (by rw [oc1 6 (by decide), oc1 7 (by decide)]; exact hS7 c h1 h2))
  refine qy (fun _ _ k9 => z_cv (M1 := M_X11_tellPage) d_X11_text_20 lv_X11_198 k_X11_tellPage [qI (k : Int)] rfl rfl (xput_ob (c := (F1 2)) xi_2 rfl (xsh_11 xo_2)) ⟨_, _, rfl⟩ (Nat.le_of_ble_eq_true rfl) (by decide) (by decide) (Nat.le_of_ble_eq_true rfl) hx2 k9) ?_
  refine qy (fun _ _ k9 => z_istore_n (ls' := [qR 2, qI (k : Int), qI (qif ((pgS B N (pgJ B N)).2.1 = 0) ((pgJ B N) : Int) (-1))]) d_X11_text_23 rfl (by decide) rfl k9) ?_
  refine qy (fun _ _ k9 => z_goto 50 d_X11_text_24 (by decide) k9) ?_
  refine qy (fun _ _ k9 => z_aload_n d_X11_text_50 rfl rfl k9) ?_
  refine qy (fun _ _ k9 => z_getf (v := qR 160) d_X11_text_51 fl_X11_33 (xput_ob (c := (F2 2)) xi_2 rfl (xsh_11 xo_2)) rfl k9) ?_
  refine qy (fun _ _ k9 => z_iconst d_X11_text_54 (by decide) k9) ?_
  refine qy (fun _ _ k9 => z_cv (M1 := M_X4_cutTo) d_X11_text_55 lv_X11_192 k_X4_cutTo [qI 0] rfl rfl (xput_ob (c := (F2 160)) xi_160 rfl (xsh_4 xo_160)) ⟨_, _, rfl⟩ (Nat.le_of_ble_eq_true rfl) (by decide) (by decide) (Nat.le_of_ble_eq_true rfl) (c_cut0 (h := h) (F := F2) (G := G2) (B := B) (t := N) 0 ⟨(by rw [tz2 1 (by decide), ob1 1 (by decide)]; exact hZ.1), fun j hj => (by rw [tc2 161 (by decide) (by decide), oc1 161 (by decide)]; exact hZ.2 j hj)⟩ (by omega)) k9) ?_
  refine qy (fun _ _ k9 => z_pop d_X11_text_58 rfl k9) ?_
  refine qy (fun _ _ k9 => z_iload_n d_X11_text_59 rfl rfl k9) ?_
  exact y_ret (hQ (gup F2 160 (qup (F2 160) 1 0)) G2 (⟨fun a h1 h2 h3 h4 => (by rw [gup_ne h1, ta2 a h1 h2 h3 (by omega)]; exact oa1 a h1 (by omega) (by omega)), fun a h3 h4 => (by rw [tc2 a h3 (by omega)]; exact oc1 a (by omega)), (by by_cases z : (pgS B N (pgJ B N)).2.1 = 0; (have e1 := (ty2 z).1; refine ⟨by rw [gup_eq, qup_eq], ?_, ?_⟩; (rw [gup_eq, qup_ne (by decide), e1.1, oe1.1, z]); (rw [gup_eq, qup_ne (by decide), e1.2, oe1.2, fOk_pg _ z])); (have e1 := (tn2 z).1; exact ⟨by rw [gup_eq, qup_eq], by rw [gup_eq, qup_ne (by decide)]; exact e1.1, by rw [gup_eq, qup_ne (by decide)]; exact e1.2⟩)), ⟨0, by decide, by rw [gup_ne (by decide), ta2 170 (by decide) (by decide) (by decide) (by decide)]; exact ol1⟩, fun z => ⟨(by rw [gup_ne (by decide), (tn2 z).2.1]; exact oa1 127 (by decide) (by decide) (by decide)), fun a h1 h2 => ⟨(by rw [gup_ne (by omega), ((tn2 z).2.2 a h1 h2).1]; exact oa1 a (by omega) (by omega) (by omega)), (by rw [((tn2 z).2.2 a h1 h2).2]; exact oc1 a (by omega))⟩⟩, fun z => (by obtain ⟨_, y1, y2, y3, y4, y5⟩ := ty2 z; exact ⟨y1, (by rw [gup_ne (by decide), y2, oa1 127 (by decide) (by decide) (by decide)]), bkR_cg y3 (fun a h1 h2 => ⟨gup_ne (by omega), rfl⟩), y4, y5⟩)⟩)) (z_iret d_X11_text_60 rfl rfl rfl)
set_option maxRecDepth 20000 in
set_option maxHeartbeats 4000000 in
theorem xc_text_pn {h : qH} {F G : Nat → Nat → Int} {B : Nat → Int} {N L : Nat} (hZ : rdB F G B N) (hN : N ≤ 400) (hL : F 170 2 = (L : Int)) (hL2 : L ≤ 16) : ∃ F' G', ((∀ a, a ≠ 160 → a ≠ 127 → a ≠ 52 → (a < 165 ∨ 170 < a) → F' a = F a) ∧ (∀ a, a ≠ 53 → (a < 162 ∨ 171 < a) → G' a = G a) ∧ (F' 160 1 = 0 ∧ F' 160 7 = (pnS B N (pnJ B N)).2.1 ∧ F' 160 8 = (pnS B N (pnJ B N)).2.2) ∧ (∃ L : Nat, L ≤ 16 ∧ F' 170 2 = (L : Int)) ∧ ((pnS B N (pnJ B N)).2.1 ≠ 0 → F' 127 = F 127 ∧ F' 52 = F 52 ∧ G' 53 = G 53) ∧ ((pnS B N (pnJ B N)).2.1 = 0 → (pnJ B N) ≤ 16 ∧ F' 127 = qup (F 127) 3 0 ∧ F' 52 2 = ((pnJ B N) : Int) ∧ ∀ j, j < 4 * pnJ B N → G' 53 j = lqV B N (pnS B N (j / 4)) (j % 4))) ∧ qEx M_X11_text 0 [qR 2, qI 4, qU] [] (xput h F G) (some (qI (qif ((pnS B N (pnJ B N)).2.1 = 0) ((pnJ B N) : Int) (-1)))) (xput h F' G') := by
  refine x_in (fun Q hQ => ?_)
  refine qy (fun _ _ k9 => z_iconst d_X11_text_0 (by decide) k9) ?_
  refine qy (fun _ _ k9 => z_istore_n (ls' := [qR 2, qI 4, qI (-1)]) d_X11_text_1 rfl (by decide) rfl k9) ?_
  refine qy (fun _ _ k9 => z_aload_n d_X11_text_2 rfl rfl k9) ?_
  refine qy (fun _ _ k9 => z_getf (v := qR 160) d_X11_text_3 fl_X11_33 (xput_ob (c := (F 2)) xi_2 rfl (xsh_11 xo_2)) rfl k9) ?_
  obtain ⟨F1, G1, ⟨oa1, ob1, oc1, oe1, op1, oz1, ol1⟩, hx1⟩ := c_open (h := h) (F := F) (G := G) (B := B) (N := N) (L := L) hZ hN hL hL2
  refine qy (fun _ _ k9 => z_cv0 (M1 := M_X4_open) d_X11_text_6 lv_X11_195 k_X4_open [] rfl rfl (xput_ob (c := (F 160)) xi_160 rfl (xsh_4 xo_160)) ⟨_, _, rfl⟩ (Nat.le_of_ble_eq_true rfl) (by decide) (by decide) (Nat.le_of_ble_eq_true rfl) hx1 k9) ?_
  refine qy (fun _ _ k9 => z_iload_n d_X11_text_9 rfl rfl k9) ?_
  refine qy (fun _ _ k9 => z_iconst d_X11_text_10 (by decide) k9) ?_
  refine qy (fun _ _ k9 => z_iconst d_X11_text_11 (by decide) k9) ?_
  refine qy (fun _ _ k9 => z_cs (M1 := M_X11_isWithin) d_X11_text_12 ls_X11_62 k_X11_isWithin [qI 4, qI 0, qI 3] rfl rfl (Nat.le_of_ble_eq_true rfl) (by decide) (by decide) (Nat.le_of_ble_eq_true rfl) (c_isWithin 4 0 3) k9) ?_
  refine qy2n (fun _ _ => z_ifeqB 27 d_X11_text_15 (by decide)) (fun hc1 => ?_) (fun hc1 => absurd hc1 (by omega))
  refine qy (fun _ _ k9 => z_iload_n d_X11_text_27 rfl rfl k9) ?_
  refine qy (fun _ _ k9 => z_iconst d_X11_text_28 (by decide) k9) ?_
  refine qy2 (fun _ _ => z_icmp_ne 40 d_X11_text_29 (by decide)) (fun hc2 => absurd hc2 (by decide)) (fun hc2 => ?_)
  refine qy (fun _ _ k9 => z_aload_n d_X11_text_32 rfl rfl k9) ?_
  obtain ⟨F2, G2, ⟨tz2, ta2, tc2, tn2, tl2, ty2⟩, hx2⟩ := c_tellPlan (h := h) (F := F1) (G := G1) (B := B) (N := N) op1 hN ol1
  refine qy (fun _ _ k9 => z_cv (M1 := M_X11_tellPlan) d_X11_text_33 lv_X11_201 k_X11_tellPlan [] rfl rfl (xput_ob (c := (F1 2)) xi_2 rfl (xsh_11 xo_2)) ⟨_, _, rfl⟩ (Nat.le_of_ble_eq_true rfl) (by decide) (by decide) (Nat.le_of_ble_eq_true rfl) hx2 k9) ?_
  refine qy (fun _ _ k9 => z_istore_n (ls' := [qR 2, qI 4, qI (qif ((pnS B N (pnJ B N)).2.1 = 0) ((pnJ B N) : Int) (-1))]) d_X11_text_36 rfl (by decide) rfl k9) ?_
  refine qy (fun _ _ k9 => z_goto 50 d_X11_text_37 (by decide) k9) ?_
  refine qy (fun _ _ k9 => z_aload_n d_X11_text_50 rfl rfl k9) ?_
  refine qy (fun _ _ k9 => z_getf (v := qR 160) d_X11_text_51 fl_X11_33 (xput_ob (c := (F2 2)) xi_2 rfl (xsh_11 xo_2)) rfl k9) ?_
  refine qy (fun _ _ k9 => z_iconst d_X11_text_54 (by decide) k9) ?_
  refine qy (fun _ _ k9 => z_cv (M1 := M_X4_cutTo) d_X11_text_55 lv_X11_192 k_X4_cutTo [qI 0] rfl rfl (xput_ob (c := (F2 160)) xi_160 rfl (xsh_4 xo_160)) ⟨_, _, rfl⟩ (Nat.le_of_ble_eq_true rfl) (by decide) (by decide) (Nat.le_of_ble_eq_true rfl) (c_cut0 (h := h) (F := F2) (G := G2) (B := B) (t := N) 0 ⟨(by rw [tz2 1 (by decide), ob1 1 (by decide)]; exact hZ.1), fun j hj => (by rw [tc2 161 (by decide) (by decide), oc1 161 (by decide)]; exact hZ.2 j hj)⟩ (by omega)) k9) ?_
  refine qy (fun _ _ k9 => z_pop d_X11_text_58 rfl k9) ?_
  refine qy (fun _ _ k9 => z_iload_n d_X11_text_59 rfl rfl k9) ?_
  exact y_ret (hQ (gup F2 160 (qup (F2 160) 1 0)) G2 (⟨fun a h1 h2 h3 h4 => (by rw [gup_ne h1, ta2 a h1 h2 h3 (by omega)]; exact oa1 a h1 (by omega) (by omega)), fun a h3 h4 => (by rw [tc2 a h3 (by omega)]; exact oc1 a (by omega)), (by by_cases z : (pnS B N (pnJ B N)).2.1 = 0; (have e1 := (ty2 z).1; refine ⟨by rw [gup_eq, qup_eq], ?_, ?_⟩; (rw [gup_eq, qup_ne (by decide), e1.1, oe1.1, z]); (rw [gup_eq, qup_ne (by decide), e1.2, oe1.2, fOk_pn _ z])); (have e1 := (tn2 z).1; exact ⟨by rw [gup_eq, qup_eq], by rw [gup_eq, qup_ne (by decide)]; exact e1.1, by rw [gup_eq, qup_ne (by decide)]; exact e1.2⟩)), (by obtain ⟨L9, l1, l2⟩ := tl2; exact ⟨L9, l1, (by rw [gup_ne (by decide)]; exact l2)⟩), fun z => ⟨(by rw [gup_ne (by decide), (tn2 z).2.1]; exact oa1 127 (by decide) (by decide) (by decide)), (by rw [gup_ne (by decide), (tn2 z).2.2.1]; exact oa1 52 (by decide) (by decide) (by decide)), (by rw [(tn2 z).2.2.2]; exact oc1 53 (by decide))⟩, fun z => (by obtain ⟨_, y1, y2, y3, y4⟩ := ty2 z; exact ⟨y1, (by rw [gup_ne (by decide), y2, oa1 127 (by decide) (by decide) (by decide)]), (by rw [gup_ne (by decide)]; exact y3), y4⟩)⟩)) (z_iret d_X11_text_60 rfl rfl rfl)
set_option maxRecDepth 20000 in
set_option maxHeartbeats 4000000 in
theorem xc_text_tn {h : qH} {F G : Nat → Nat → Int} {B : Nat → Int} {N L : Nat} {A0 : Nat → Int} (hZ : rdB F G B N) (hN : N ≤ 400) (hL : F 170 2 = (L : Int)) (hL2 : L ≤ 16) (hA0 : ∀ k, k < 16 → A0 k = -1) : ∃ F' G', ((∀ a, a ≠ 160 → a ≠ 127 → a ≠ 54 → (a < 165 ∨ 170 < a) → F' a = F a) ∧ (∀ a, a ≠ 55 → (a < 162 ∨ 171 < a) → G' a = G a) ∧ (F' 160 1 = 0 ∧ F' 160 7 = (tnX B N A0 (tnJ B N A0)).1.2.1 ∧ F' 160 8 = (tnX B N A0 (tnJ B N A0)).1.2.2) ∧ (∃ L : Nat, L ≤ 16 ∧ F' 170 2 = (L : Int)) ∧ ((tnX B N A0 (tnJ B N A0)).1.2.1 ≠ 0 → F' 127 = F 127 ∧ F' 54 = F 54 ∧ G' 55 = G 55) ∧ ((tnX B N A0 (tnJ B N A0)).1.2.1 = 0 → (tnJ B N A0) ≤ 16 ∧ F' 127 = F 127 ∧ F' 54 2 = ((tnJ B N A0) : Int) ∧ trC (G' 55) (tnJ B N A0) ∧ ∀ k, k < 16 → (tnX B N A0 (tnJ B N A0)).2 k = trF (G' 55) (fun _ => -1) (tnJ B N A0) k)) ∧ qEx M_X11_text 0 [qR 2, qI 5, qU] [] (xput h F G) (some (qI (qif ((tnX B N A0 (tnJ B N A0)).1.2.1 = 0) ((tnJ B N A0) : Int) (-1)))) (xput h F' G') := by
  refine x_in (fun Q hQ => ?_)
  refine qy (fun _ _ k9 => z_iconst d_X11_text_0 (by decide) k9) ?_
  refine qy (fun _ _ k9 => z_istore_n (ls' := [qR 2, qI 5, qI (-1)]) d_X11_text_1 rfl (by decide) rfl k9) ?_
  refine qy (fun _ _ k9 => z_aload_n d_X11_text_2 rfl rfl k9) ?_
  refine qy (fun _ _ k9 => z_getf (v := qR 160) d_X11_text_3 fl_X11_33 (xput_ob (c := (F 2)) xi_2 rfl (xsh_11 xo_2)) rfl k9) ?_
  obtain ⟨F1, G1, ⟨oa1, ob1, oc1, oe1, op1, oz1, ol1⟩, hx1⟩ := c_open (h := h) (F := F) (G := G) (B := B) (N := N) (L := L) hZ hN hL hL2
  refine qy (fun _ _ k9 => z_cv0 (M1 := M_X4_open) d_X11_text_6 lv_X11_195 k_X4_open [] rfl rfl (xput_ob (c := (F 160)) xi_160 rfl (xsh_4 xo_160)) ⟨_, _, rfl⟩ (Nat.le_of_ble_eq_true rfl) (by decide) (by decide) (Nat.le_of_ble_eq_true rfl) hx1 k9) ?_
  refine qy (fun _ _ k9 => z_iload_n d_X11_text_9 rfl rfl k9) ?_
  refine qy (fun _ _ k9 => z_iconst d_X11_text_10 (by decide) k9) ?_
  refine qy (fun _ _ k9 => z_iconst d_X11_text_11 (by decide) k9) ?_
  refine qy (fun _ _ k9 => z_cs (M1 := M_X11_isWithin) d_X11_text_12 ls_X11_62 k_X11_isWithin [qI 5, qI 0, qI 3] rfl rfl (Nat.le_of_ble_eq_true rfl) (by decide) (by decide) (Nat.le_of_ble_eq_true rfl) (c_isWithin 5 0 3) k9) ?_
  refine qy2n (fun _ _ => z_ifeqB 27 d_X11_text_15 (by decide)) (fun hc1 => ?_) (fun hc1 => absurd hc1 (by omega))
  refine qy (fun _ _ k9 => z_iload_n d_X11_text_27 rfl rfl k9) ?_
  refine qy (fun _ _ k9 => z_iconst d_X11_text_28 (by decide) k9) ?_
  refine qy2 (fun _ _ => z_icmp_ne 40 d_X11_text_29 (by decide)) (fun hc2 => ?_) (fun hc2 => absurd (by decide) hc2)
  refine qy (fun _ _ k9 => z_iload_n d_X11_text_40 rfl rfl k9) ?_
  refine qy (fun _ _ k9 => z_iconst d_X11_text_41 (by decide) k9) ?_
  refine qy2 (fun _ _ => z_icmp_ne 50 d_X11_text_42 (by decide)) (fun hc3 => absurd hc3 (by decide)) (fun hc3 => ?_)
  refine qy (fun _ _ k9 => z_aload_n d_X11_text_45 rfl rfl k9) ?_
  obtain ⟨F2, G2, ⟨tz2, ta2, tc2, tn2, tl2, ty2⟩, hx2⟩ := c_tellTree (h := h) (F := F1) (G := G1) (B := B) (N := N) (A0 := A0) op1 hN ol1 hA0
  refine qy (fun _ _ k9 => z_cv (M1 := M_X11_tellTree) d_X11_text_46 lv_X11_204 k_X11_tellTree [] rfl rfl (xput_ob (c := (F1 2)) xi_2 rfl (xsh_11 xo_2)) ⟨_, _, rfl⟩ (Nat.le_of_ble_eq_true rfl) (by decide) (by decide) (Nat.le_of_ble_eq_true rfl) hx2 k9) ?_
  refine qy (fun _ _ k9 => z_istore_n (ls' := [qR 2, qI 5, qI (qif ((tnX B N A0 (tnJ B N A0)).1.2.1 = 0) ((tnJ B N A0) : Int) (-1))]) d_X11_text_49 rfl (by decide) rfl k9) ?_
  refine qy (fun _ _ k9 => z_aload_n d_X11_text_50 rfl rfl k9) ?_
  refine qy (fun _ _ k9 => z_getf (v := qR 160) d_X11_text_51 fl_X11_33 (xput_ob (c := (F2 2)) xi_2 rfl (xsh_11 xo_2)) rfl k9) ?_
  refine qy (fun _ _ k9 => z_iconst d_X11_text_54 (by decide) k9) ?_
  refine qy (fun _ _ k9 => z_cv (M1 := M_X4_cutTo) d_X11_text_55 lv_X11_192 k_X4_cutTo [qI 0] rfl rfl (xput_ob (c := (F2 160)) xi_160 rfl (xsh_4 xo_160)) ⟨_, _, rfl⟩ (Nat.le_of_ble_eq_true rfl) (by decide) (by decide) (Nat.le_of_ble_eq_true rfl) (c_cut0 (h := h) (F := F2) (G := G2) (B := B) (t := N) 0 ⟨(by rw [tz2 1 (by decide), ob1 1 (by decide)]; exact hZ.1), fun j hj => (by rw [tc2 161 (by decide) (by decide), oc1 161 (by decide)]; exact hZ.2 j hj)⟩ (by omega)) k9) ?_
  refine qy (fun _ _ k9 => z_pop d_X11_text_58 rfl k9) ?_
  refine qy (fun _ _ k9 => z_iload_n d_X11_text_59 rfl rfl k9) ?_
  exact y_ret (hQ (gup F2 160 (qup (F2 160) 1 0)) G2 (⟨fun a h1 h2 h3 h4 => (by rw [gup_ne h1, ta2 a h1 h2 h3 (by omega)]; exact oa1 a h1 (by omega) (by omega)), fun a h3 h4 => (by rw [tc2 a h3 (by omega)]; exact oc1 a (by omega)), (by by_cases z : (tnX B N A0 (tnJ B N A0)).1.2.1 = 0; (have e1 := (ty2 z).1; refine ⟨by rw [gup_eq, qup_eq], ?_, ?_⟩; (rw [gup_eq, qup_ne (by decide), e1.1, oe1.1, z]); (rw [gup_eq, qup_ne (by decide), e1.2, oe1.2, fOk_tn _ z])); (have e1 := (tn2 z).1; exact ⟨by rw [gup_eq, qup_eq], by rw [gup_eq, qup_ne (by decide)]; exact e1.1, by rw [gup_eq, qup_ne (by decide)]; exact e1.2⟩)), (by obtain ⟨L9, l1, l2⟩ := tl2; exact ⟨L9, l1, (by rw [gup_ne (by decide)]; exact l2)⟩), fun z => ⟨(by rw [gup_ne (by decide), (tn2 z).2.1]; exact oa1 127 (by decide) (by decide) (by decide)), (by rw [gup_ne (by decide), (tn2 z).2.2.1]; exact oa1 54 (by decide) (by decide) (by decide)), (by rw [(tn2 z).2.2.2]; exact oc1 55 (by decide))⟩, fun z => (by obtain ⟨_, y1, y2, y3, y4⟩ := ty2 z; exact ⟨y1, (by rw [gup_ne (by decide), y2, oa1 127 (by decide) (by decide) (by decide)]), (by rw [gup_ne (by decide)]; exact y3), y4⟩)⟩)) (z_iret d_X11_text_60 rfl rfl rfl)
set_option maxRecDepth 20000 in
set_option maxHeartbeats 4000000 in
theorem xc_text_no {h : qH} {F G : Nat → Nat → Int} {B : Nat → Int} {N L : Nat} (k : Int) (hZ : rdB F G B N) (hN : N ≤ 400) (hL : F 170 2 = (L : Int)) (hL2 : L ≤ 16) (hno : ¬ (0 ≤ k ∧ k ≤ 5)) : ∃ F' G', ((∀ a, a ≠ 160 → (a < 165 ∨ 170 < a) → F' a = F a) ∧ (∀ a, (a < 162 ∨ 168 < a) → G' a = G a) ∧ (F' 160 1 = 0 ∧ F' 160 7 = 0 ∧ F' 160 8 = -1) ∧ F' 170 2 = 0) ∧ qEx M_X11_text 0 [qR 2, qI k, qU] [] (xput h F G) (some (qI (-1))) (xput h F' G') := by
  refine x_in (fun Q hQ => ?_)
  refine qy (fun _ _ k9 => z_iconst d_X11_text_0 (by decide) k9) ?_
  refine qy (fun _ _ k9 => z_istore_n (ls' := [qR 2, qI k, qI (-1)]) d_X11_text_1 rfl (by decide) rfl k9) ?_
  refine qy (fun _ _ k9 => z_aload_n d_X11_text_2 rfl rfl k9) ?_
  refine qy (fun _ _ k9 => z_getf (v := qR 160) d_X11_text_3 fl_X11_33 (xput_ob (c := (F 2)) xi_2 rfl (xsh_11 xo_2)) rfl k9) ?_
  obtain ⟨F1, G1, ⟨oa1, ob1, oc1, oe1, op1, oz1, ol1⟩, hx1⟩ := c_open (h := h) (F := F) (G := G) (B := B) (N := N) (L := L) hZ hN hL hL2
  refine qy (fun _ _ k9 => z_cv0 (M1 := M_X4_open) d_X11_text_6 lv_X11_195 k_X4_open [] rfl rfl (xput_ob (c := (F 160)) xi_160 rfl (xsh_4 xo_160)) ⟨_, _, rfl⟩ (Nat.le_of_ble_eq_true rfl) (by decide) (by decide) (Nat.le_of_ble_eq_true rfl) hx1 k9) ?_
  refine qy (fun _ _ k9 => z_iload_n d_X11_text_9 rfl rfl k9) ?_
  refine qy (fun _ _ k9 => z_iconst d_X11_text_10 (by decide) k9) ?_
  refine qy (fun _ _ k9 => z_iconst d_X11_text_11 (by decide) k9) ?_
  refine qy (fun _ _ k9 => z_cs (M1 := M_X11_isWithin) d_X11_text_12 ls_X11_62 k_X11_isWithin [qI k, qI 0, qI 3] rfl rfl (Nat.le_of_ble_eq_true rfl) (by decide) (by decide) (Nat.le_of_ble_eq_true rfl) (c_isWithin k 0 3) k9) ?_
  refine qy2n (fun _ _ => z_ifeqB 27 d_X11_text_15 (by decide)) (fun hc1 => ?_) (fun hc1 => absurd hc1 (by omega))
  refine qy (fun _ _ k9 => z_iload_n d_X11_text_27 rfl rfl k9) ?_
  refine qy (fun _ _ k9 => z_iconst d_X11_text_28 (by decide) k9) ?_
  refine qy2 (fun _ _ => z_icmp_ne 40 d_X11_text_29 (by decide)) (fun hc2 => ?_) (fun hc2 => absurd hc2 (by omega))
  refine qy (fun _ _ k9 => z_iload_n d_X11_text_40 rfl rfl k9) ?_
  refine qy (fun _ _ k9 => z_iconst d_X11_text_41 (by decide) k9) ?_
  refine qy2 (fun _ _ => z_icmp_ne 50 d_X11_text_42 (by decide)) (fun hc3 => ?_) (fun hc3 => absurd hc3 (by omega))
  refine qy (fun _ _ k9 => z_aload_n d_X11_text_50 rfl rfl k9) ?_
  refine qy (fun _ _ k9 => z_getf (v := qR 160) d_X11_text_51 fl_X11_33 (xput_ob (c := (F1 2)) xi_2 rfl (xsh_11 xo_2)) rfl k9) ?_
  refine qy (fun _ _ k9 => z_iconst d_X11_text_54 (by decide) k9) ?_
  refine qy (fun _ _ k9 => z_cv (M1 := M_X4_cutTo) d_X11_text_55 lv_X11_192 k_X4_cutTo [qI 0] rfl rfl (xput_ob (c := (F1 160)) xi_160 rfl (xsh_4 xo_160)) ⟨_, _, rfl⟩ (Nat.le_of_ble_eq_true rfl) (by decide) (by decide) (Nat.le_of_ble_eq_true rfl) (c_cut0 (h := h) (F := F1) (G := G1) (B := B) (t := N) 0 ⟨(by rw [ob1 1 (by decide)]; exact hZ.1), fun j hj => (by rw [oc1 161 (by decide)]; exact hZ.2 j hj)⟩ (by omega)) k9) ?_
  refine qy (fun _ _ k9 => z_pop d_X11_text_58 rfl k9) ?_
  refine qy (fun _ _ k9 => z_iload_n d_X11_text_59 rfl rfl k9) ?_
  exact y_ret (hQ (gup F1 160 (qup (F1 160) 1 0)) G1 (⟨fun a h1 h4 => (by rw [gup_ne h1]; exact oa1 a h1 (by omega) (by omega)), fun a h4 => oc1 a h4, ⟨by rw [gup_eq, qup_eq], by rw [gup_eq, qup_ne (by decide)]; exact oe1.1, by rw [gup_eq, qup_ne (by decide)]; exact oe1.2⟩, by rw [gup_ne (by decide)]; exact ol1⟩)) (z_iret d_X11_text_60 rfl rfl rfl)
