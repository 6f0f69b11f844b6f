/-! ===== CONTRACTS: the past: keep, goBack, forget ===== -/
theorem pwx (j : Nat) (hj : j < 6) : xk (130 + 5 * j) = 10 := by
  obtain rfl | rfl | rfl | rfl | rfl | rfl : j = 0 ∨ j = 1 ∨ j = 2 ∨ j = 3 ∨ j = 4 ∨ j = 5 := by omega
  all_goals rfl
/-- a row of what is kept back -/
def bkN (g : Nat → Nat → Int) (t : Nat) : Nat → Int := fun k => g 14 (167 * t + k)
/-- the past is the reference's: b rows, the latest at l -/
def psR (F G g : Nat → Nat → Int) (b : Nat) : Prop := ∃ l : Nat, (l < 6 ∧ F 127 2 = (l : Int) ∧ F 127 3 = (b : Int) ∧ b ≤ 6) ∧ ∀ t, t < b → wlR F G (130 + 5 * ((l + 7 + t - b) % 6)) (bkN g t) ∧ G 129 ((l + 7 + t - b) % 6) = bkN g t 166
theorem kb_old {f : Nat → Int} {g : Nat → Nat → Int} {b t k : Nat} (hf : f 25 = (b : Int)) (hb : b < 6) (ht : t < b) (hk : k < 167) : bkN (kbG f g) t k = bkN g t k := by
  unfold bkN kbG
  rw [gup_eq, if_neg (by omega), hf, Int.toNat_natCast]
  unfold qcpy
  rw [if_neg (by omega)]
theorem kb_new {f : Nat → Int} {g : Nat → Nat → Int} {b k : Nat} (hf : f 25 = (b : Int)) (hb : b < 6) (hk : k < 167) : bkN (kbG f g) b k = g 11 k := by
  unfold bkN kbG
  rw [gup_eq, if_neg (by omega), hf, Int.toNat_natCast]
  unfold qcpy
  rw [if_pos (by omega)]
  exact congrArg (g 11) (by omega)
theorem kb_old6 {f : Nat → Int} {g : Nat → Nat → Int} {t k : Nat} (hf : f 25 = 6) (ht : t < 5) (hk : k < 167) : bkN (kbG f g) t k = bkN g (t + 1) k := by
  unfold bkN kbG
  rw [gup_eq, if_pos hf]
  unfold qcpy
  rw [if_neg (by omega), qmx_lt (by omega)]
  exact congrArg (g 14) (by omega)
theorem kb_new6 {f : Nat → Int} {g : Nat → Nat → Int} {k : Nat} (hf : f 25 = 6) (hk : k < 167) : bkN (kbG f g) 5 k = g 11 k := by
  unfold bkN kbG
  rw [gup_eq, if_pos hf]
  unfold qcpy
  rw [if_pos (by omega)]
  exact congrArg (g 11) (by omega)
theorem ps_keep {F G F' G' g : Nat → Nat → Int} {f : Nat → Int} {b l q : Nat} (hf : f 25 = (b : Int)) (hl : l < 6) (hq : q = (l + 1) % 6) (hb : b ≤ 6) (hp : ∀ t, t < b → wlR F G (130 + 5 * ((l + 7 + t - b) % 6)) (bkN g t) ∧ G 129 ((l + 7 + t - b) % 6) = bkN g t 166) (h2 : F' 127 2 = (q : Int)) (h3 : F' 127 3 = if (6 : Int) < (b : Int) + 1 then 6 else (b : Int) + 1) (hw : wlR F' G' (130 + 5 * q) (g 11)) (ho : ∀ s, s < 6 → s ≠ q → F' (130 + 5 * s) = F (130 + 5 * s) ∧ G' (130 + 5 * s + 1) = G (130 + 5 * s + 1) ∧ G' (130 + 5 * s + 2) = G (130 + 5 * s + 2) ∧ G' (130 + 5 * s + 3) = G (130 + 5 * s + 3)) (h9 : G' 129 = qup (G 129) q (g 11 166)) : psR F' G' (kbG f g) (if b = 6 then 6 else b + 1) := by
  by_cases e : b = 6
  · subst e
    rw [if_pos rfl]
    refine ⟨q, ⟨by omega, h2, by rw [h3, if_pos (by omega)]; rfl, by omega⟩, fun t ht => ?_⟩
    by_cases e5 : t = 5
    · subst e5
      rw [show (q + 7 + 5 - 6) % 6 = q by omega, h9, qup_eq]
      exact ⟨wlR_N hw (fun j hj => (kb_new6 hf (by omega)).symm), (kb_new6 hf (by decide)).symm⟩
    · obtain ⟨h4, h5⟩ := hp (t + 1) (by omega)
      have es : (l + 7 + (t + 1) - 6) % 6 = (q + 7 + t - 6) % 6 := by omega
      rw [es] at h4 h5
      obtain ⟨o1, o2, o3, o4⟩ := ho ((q + 7 + t - 6) % 6) (by omega) (by omega)
      rw [h9, qup_ne (by omega), h5]
      exact ⟨wlR_N (wlR_cg h4 o1 o2 o3 o4) (fun j hj => (kb_old6 hf (by omega) (by omega)).symm), (kb_old6 hf (by omega) (by decide)).symm⟩
  · rw [if_neg e]
    refine ⟨q, ⟨by omega, h2, by rw [h3, if_neg (by omega)]; omega, by omega⟩, fun t ht => ?_⟩
    by_cases e5 : t = b
    · subst e5
      rw [show (q + 7 + t - (t + 1)) % 6 = q by omega, h9, qup_eq]
      exact ⟨wlR_N hw (fun j hj => (kb_new hf (by omega) (by omega)).symm), (kb_new hf (by omega) (by decide)).symm⟩
    · obtain ⟨h4, h5⟩ := hp t (by omega)
      have es : (l + 7 + t - b) % 6 = (q + 7 + t - (b + 1)) % 6 := by omega
      rw [es] at h4 h5
      obtain ⟨o1, o2, o3, o4⟩ := ho ((q + 7 + t - (b + 1)) % 6) (by omega) (by omega)
      rw [h9, qup_ne (by omega), h5]
      exact ⟨wlR_N (wlR_cg h4 o1 o2 o3 o4) (fun j hj => (kb_old hf (by omega) (by omega) (by omega)).symm), (kb_old hf (by omega) (by omega) (by decide)).symm⟩
set_option maxRecDepth 20000 in
set_option maxHeartbeats 4000000 in
theorem c_keep {h : qH} {F G : Nat → Nat → Int} {g : Nat → Nat → Int} {f : Nat → Int} {b : Nat} (hW : wgR F G g) (hP : psR F G g b) (hf : f 25 = (b : Int)) (h01 : g 11 161 = 0 ∨ g 11 161 = 1) : ∃ F' G', (xfr 127 159 F G F' G' ∧ psR F' G' (kbG f g) (if b = 6 then 6 else b + 1)) ∧ qEx M_X3_keep 0 [qR 127, qR 3] [] (xput h F G) none (xput h F' G') := by
  refine x_in (fun Q hQ => ?_)
  obtain ⟨l, ⟨hl6, hl, hb, hb6⟩, hp⟩ := hP
  obtain ⟨q, hq⟩ : ∃ q : Nat, q = (l + 1) % 6 := ⟨_, rfl⟩
  refine qy (fun _ _ k9 => z_aload_n d_X3_keep_0 rfl rfl k9) ?_
  refine qy (fun _ _ k9 => z_aload_n d_X3_keep_1 rfl rfl k9) ?_
  refine qy (fun _ _ k9 => z_getf (v := qI ((F 127) 2)) d_X3_keep_2 fl_X3_19 (xput_ob (c := (F 127)) xi_127 rfl (xsh_3 xo_127)) rfl k9) ?_
  refine qy (fun _ _ k9 => z_eq rfl (qc (qi hl) rfl) rfl k9) ?_
  refine qy (fun _ _ k9 => z_iconst d_X3_keep_5 (by decide) k9) ?_
  refine qy (fun _ _ k9 => z_iadd d_X3_keep_6 (by omega) k9) ?_
  refine qy (fun _ _ k9 => z_bipush d_X3_keep_7 (by decide) k9) ?_
  refine qy (fun _ _ k9 => z_irem d_X3_keep_9 (by omega) k9) ?_
  refine qy (fun _ _ k9 => z_eq rfl (qc (qi (by rw [Int.tmod_eq_emod_of_nonneg (by omega)] <;> omega)) rfl) rfl k9) ?_
  refine qy (fun _ _ k9 => z_eq rfl (qc (qi (show ((((l + 1) % 6) : Nat) : Int) = (q : Int) from by omega)) rfl) rfl k9) ?_
  refine qy (fun _ _ k9 => z_putf (fs' := [qR 128, qR 129, qI (q : Int), qI ((F 127) 3)]) d_X3_keep_10 fp_X3_19 (xput_ob (c := (F 127)) xi_127 rfl (xsh_3 xo_127)) (fun _ => rfl) (fun _ => rfl) (Nat.le_of_ble_eq_true rfl) rfl k9) ?_
  refine qy (fun _ _ k9 => z_eq rfl rfl (xput_sf (c := (qup (F 127) 2 (q : Int))) xi_127 (xsh_3 xo_127)) k9) ?_
  refine qy (fun _ _ k9 => z_aload_n d_X3_keep_13 rfl rfl k9) ?_
  refine qy (fun _ _ k9 => z_getf (v := qR 128) d_X3_keep_14 fl_X3_11 (xput_ob (c := (qup (F 127) 2 (q : Int))) xi_127 rfl (xsh_3 xo_127)) rfl k9) ?_
  refine qy (fun _ _ k9 => z_aload_n d_X3_keep_17 rfl rfl k9) ?_
  refine qy (fun _ _ k9 => z_getf (v := qI (q : Int)) d_X3_keep_18 fl_X3_19 (xput_ob (c := (qup (F 127) 2 (q : Int))) xi_127 rfl (xsh_3 xo_127)) rfl k9) ?_
  refine qy (fun _ _ k9 => z_ald q d_X3_keep_21 (Or.inr ⟨rfl, rfl, rfl⟩) (xput_ob xi_128 rfl (xsh_21 xo_128)) rfl (by omega) (show (if q < 6 then some (128 + 2 + 5 * q) else none) = some (130 + 5 * q) from (if_pos (by omega)).trans (congrArg some (by omega))) k9) ?_
  refine qy (fun _ _ k9 => z_aload_n d_X3_keep_22 rfl rfl k9) ?_
  refine qy (fun _ _ k9 => z_getf (v := qR 56) d_X3_keep_23 fl_X3_27 (xput_ob (c := (F 3)) xi_3 rfl (xsh_8 xo_3)) rfl k9) ?_
  obtain ⟨F1, G1, ⟨hv1, hw1⟩, hx1⟩ := c_wlCopy (h := h) (F := (gup F 127 (qup (F 127) 2 (q : Int)))) (G := G) (wl := 130 + 5 * q) (vl := 56) (N := g 11) (by omega) (pwx q (by omega)) (by decide) xo_56 (by omega) h01 (wlR_cg hW.1 rfl rfl rfl rfl)
  refine qy (fun _ _ k9 => z_cv0 (M1 := M_X10_copyFrom) d_X3_keep_26 lv_X3_33 k_X10_copyFrom [qR 56] rfl rfl (xput_ob (c := (F (130 + 5 * q))) (wlx_in (by omega) (pwx q (by omega))) (gup_ne (by omega)) (xsh_10 (pwx q (by omega)))) ⟨_, _, rfl⟩ (Nat.le_of_ble_eq_true rfl) (by decide) (by decide) (Nat.le_of_ble_eq_true rfl) hx1 k9) ?_
  refine qy (fun _ _ k9 => z_aload_n d_X3_keep_29 rfl rfl k9) ?_
  refine qy (fun _ _ k9 => z_getf (v := qR 129) d_X3_keep_30 fl_X3_15 (xput_ob (c := (F1 127)) xi_127 rfl (xsh_3 xo_127)) rfl k9) ?_
  refine qy (fun _ _ k9 => z_aload_n d_X3_keep_33 rfl rfl k9) ?_
  refine qy (fun _ _ k9 => z_getf (v := qI ((F1 127) 2)) d_X3_keep_34 fl_X3_19 (xput_ob (c := (F1 127)) xi_127 rfl (xsh_3 xo_127)) rfl k9) ?_
  refine qy (fun _ _ k9 => z_eq rfl (qc (qi (show F1 127 2 = (q : Int) from (by rw [xfr_F hv1 (by omega), gup_eq]; rfl))) rfl) rfl k9) ?_
  refine qy (fun _ _ k9 => z_aload_n d_X3_keep_37 rfl rfl k9) ?_
  refine qy (fun _ _ k9 => z_getf (v := qR 61) d_X3_keep_38 fl_X3_37 (xput_ob (c := (F1 3)) xi_3 rfl (xsh_8 xo_3)) rfl k9) ?_
  refine qy (fun _ _ k9 => z_getf (v := qI ((F1 61) 2)) d_X3_keep_41 fl_X3_41 (xput_ob (c := (F1 61)) xi_61 rfl (xsh_6 xo_61)) rfl k9) ?_
  refine qy (fun _ _ k9 => z_eq rfl (qc (qi (show F1 61 2 = g 11 166 from (by rw [xfr_F hv1 (by omega), gup_ne (by decide)]; exact hW.2.1))) rfl) rfl k9) ?_
  refine qy (fun _ _ k9 => z_ist q d_X3_keep_44 (xput_ar (g := (G1 129)) xa_129 rfl) (by omega) rfl (by omega) k9) ?_
  refine qy (fun _ _ k9 => z_eq rfl rfl (xput_sa xa_129) k9) ?_
  refine qy (fun _ _ k9 => z_aload_n d_X3_keep_45 rfl rfl k9) ?_
  refine qy (fun _ _ k9 => z_aload_n d_X3_keep_46 rfl rfl k9) ?_
  refine qy (fun _ _ k9 => z_getf (v := qI ((F1 127) 3)) d_X3_keep_47 fl_X3_23 (xput_ob (c := (F1 127)) xi_127 rfl (xsh_3 xo_127)) rfl k9) ?_
  refine qy (fun _ _ k9 => z_eq rfl (qc (qi (show F1 127 3 = (b : Int) from (by rw [xfr_F hv1 (by omega), gup_eq]; exact hb))) rfl) rfl k9) ?_
  refine qy (fun _ _ k9 => z_iconst d_X3_keep_50 (by decide) k9) ?_
  refine qy (fun _ _ k9 => z_iadd d_X3_keep_51 (by omega) k9) ?_
  refine qy (fun _ _ k9 => z_bipush d_X3_keep_52 (by decide) k9) ?_
  refine qy (fun _ _ k9 => z_min d_X3_keep_54 lb_X3_44 (by decide) (Nat.le_of_ble_eq_true rfl) k9) ?_
  refine qy (fun _ _ k9 => z_putf (fs' := [qR 128, qR 129, qI ((F1 127) 2), qI (if 6 < ((b : Int) + 1) then 6 else ((b : Int) + 1))]) d_X3_keep_57 fp_X3_23 (xput_ob (c := (F1 127)) xi_127 rfl (xsh_3 xo_127)) (fun _ => rfl) (fun _ => rfl) (Nat.le_of_ble_eq_true rfl) rfl k9) ?_
  refine qy (fun _ _ k9 => z_eq rfl rfl (xput_sf (c := (qup (F1 127) 3 (if 6 < ((b : Int) + 1) then 6 else ((b : Int) + 1)))) xi_127 (xsh_3 xo_127)) k9) ?_
  exact y_ret (hQ (gup F1 127 (qup (F1 127) 3 (if 6 < ((b : Int) + 1) then 6 else ((b : Int) + 1)))) (gup G1 129 (qup (G1 129) q (g 11 166))) (⟨fun a ha => ⟨(gup_ne (by omega)).trans ((xfr_F hv1 (by omega)).trans (gup_ne (by omega))), (gup_ne (by omega)).trans (xfr_G hv1 (by omega))⟩, ps_keep hf hl6 hq hb6 hp (by rw [gup_eq]; exact (show F1 127 2 = (q : Int) from (by rw [xfr_F hv1 (by omega), gup_eq]; rfl))) (by rw [gup_eq]; rfl) (wlR_cg hw1 (gup_ne (by omega)) (gup_ne (by omega)) (gup_ne (by omega)) (gup_ne (by omega))) (fun s hs hsq => ⟨(gup_ne (by omega)).trans ((xfr_F hv1 (by omega)).trans (gup_ne (by omega))), (gup_ne (by omega)).trans (xfr_G hv1 (by omega)), (gup_ne (by omega)).trans (xfr_G hv1 (by omega)), (gup_ne (by omega)).trans (xfr_G hv1 (by omega))⟩) (by rw [gup_eq, xfr_G hv1 (by omega)])⟩)) (z_vret d_X3_keep_60 rfl rfl rfl)
set_option maxRecDepth 20000 in
set_option maxHeartbeats 4000000 in
theorem c_goBack {h : qH} {F G : Nat → Nat → Int} {g : Nat → Nat → Int} {b : Nat} (hW : wgR F G g) (hP : psR F G g b) (hb0 : 0 < b) (hk : rwOk (bkN g (b - 1))) (hmon : bkN g (b - 1) 166 ≤ g 11 166) (hL : 0 ≤ g 11 166 ∧ g 11 166 ≤ 150) : ∃ F' G', ((∀ a, (a < 56 ∨ 62 < a) → a ≠ 127 → F' a = F a ∧ G' a = G a) ∧ wgR F' G' (gup g 11 (qmx 167 (fun k => g 14 (167 * (b - 1) + k)) (g 11))) ∧ psR F' G' (gup g 11 (qmx 167 (fun k => g 14 (167 * (b - 1) + k)) (g 11))) (b - 1)) ∧ qEx M_X3_goBack 0 [qR 127, qR 3] [] (xput h F G) (some (qI 1)) (xput h F' G') := by
  refine x_in (fun Q hQ => ?_)
  obtain ⟨l, ⟨hl6, hl, hb, hb6⟩, hp⟩ := hP
  obtain ⟨q, hq⟩ : ∃ q : Nat, q = (l + 5) % 6 := ⟨_, rfl⟩
  obtain ⟨L, hLL⟩ : ∃ L : Nat, g 11 166 = (L : Int) := ⟨(g 11 166).toNat, by omega⟩
  have hx61 : xM 61 = 150 := by decide
  have hpl : wlR F G (130 + 5 * l) (bkN g (b - 1)) ∧ G 129 l = bkN g (b - 1) 166 := by
    have e := hp (b - 1) (by omega)
    rw [show (l + 7 + (b - 1) - b) % 6 = l by omega] at e
    exact e
  have hB0 := rw_at (a := 0) (b := 150) hk (j := 166) (by decide) rfl rfl
  refine qy (fun _ _ k9 => z_aload_n d_X3_goBack_0 rfl rfl k9) ?_
  refine qy (fun _ _ k9 => z_getf (v := qI ((F 127) 3)) d_X3_goBack_1 fl_X3_23 (xput_ob (c := (F 127)) xi_127 rfl (xsh_3 xo_127)) rfl k9) ?_
  refine qy (fun _ _ k9 => z_eq rfl (qc (qi hb) rfl) rfl k9) ?_
  refine qy2 (fun _ _ => z_if_ne 9 d_X3_goBack_4 (by decide)) (fun hc1 => ?_) (fun hc1 => absurd hc1 (by omega))
  refine qy (fun _ _ k9 => z_aload_n d_X3_goBack_9 rfl rfl k9) ?_
  refine qy (fun _ _ k9 => z_getf (v := qR 56) d_X3_goBack_10 fl_X3_27 (xput_ob (c := (F 3)) xi_3 rfl (xsh_8 xo_3)) rfl k9) ?_
  refine qy (fun _ _ k9 => z_aload_n d_X3_goBack_13 rfl rfl k9) ?_
  refine qy (fun _ _ k9 => z_getf (v := qR 128) d_X3_goBack_14 fl_X3_11 (xput_ob (c := (F 127)) xi_127 rfl (xsh_3 xo_127)) rfl k9) ?_
  refine qy (fun _ _ k9 => z_aload_n d_X3_goBack_17 rfl rfl k9) ?_
  refine qy (fun _ _ k9 => z_getf (v := qI ((F 127) 2)) d_X3_goBack_18 fl_X3_19 (xput_ob (c := (F 127)) xi_127 rfl (xsh_3 xo_127)) rfl k9) ?_
  refine qy (fun _ _ k9 => z_eq rfl (qc (qi hl) rfl) rfl k9) ?_
  refine qy (fun _ _ k9 => z_ald l d_X3_goBack_21 (Or.inr ⟨rfl, rfl, rfl⟩) (xput_ob xi_128 rfl (xsh_21 xo_128)) rfl (by omega) (show (if l < 6 then some (128 + 2 + 5 * l) else none) = some (130 + 5 * l) from (if_pos (by omega)).trans (congrArg some (by omega))) k9) ?_
  obtain ⟨F1, G1, ⟨hv1, hw1⟩, hx1⟩ := c_wlCopy (h := h) (F := F) (G := G) (wl := 56) (vl := 130 + 5 * l) (N := bkN g (b - 1)) (by decide) xo_56 (by omega) (pwx l hl6) (by omega) (by have := rw_at (a := 0) (b := 1) hk (j := 161) (by decide) rfl rfl; omega) hpl.1
  refine qy (fun _ _ k9 => z_cv0 (M1 := M_X10_copyFrom) d_X3_goBack_22 lv_X3_33 k_X10_copyFrom [qR (130 + 5 * l)] rfl rfl (xput_ob (c := (F 56)) xi_56 rfl (xsh_10 xo_56)) ⟨_, _, rfl⟩ (Nat.le_of_ble_eq_true rfl) (by decide) (by decide) (Nat.le_of_ble_eq_true rfl) hx1 k9) ?_
  refine qy (fun _ _ k9 => z_aload_n d_X3_goBack_25 rfl rfl k9) ?_
  refine qy (fun _ _ k9 => z_getf (v := qR 61) d_X3_goBack_26 fl_X3_37 (xput_ob (c := (F1 3)) xi_3 rfl (xsh_8 xo_3)) rfl k9) ?_
  refine qy (fun _ _ k9 => z_aload_n d_X3_goBack_29 rfl rfl k9) ?_
  refine qy (fun _ _ k9 => z_getf (v := qR 129) d_X3_goBack_30 fl_X3_15 (xput_ob (c := (F1 127)) xi_127 rfl (xsh_3 xo_127)) rfl k9) ?_
  refine qy (fun _ _ k9 => z_aload_n d_X3_goBack_33 rfl rfl k9) ?_
  refine qy (fun _ _ k9 => z_getf (v := qI ((F1 127) 2)) d_X3_goBack_34 fl_X3_19 (xput_ob (c := (F1 127)) xi_127 rfl (xsh_3 xo_127)) rfl k9) ?_
  refine qy (fun _ _ k9 => z_eq rfl (qc (qi (show F1 127 2 = (l : Int) from (by rw [xfr_F hv1 (by decide)]; exact hl))) rfl) rfl k9) ?_
  refine qy (fun _ _ k9 => z_ild l d_X3_goBack_37 (xput_ar (g := (G1 129)) xa_129 rfl) rfl (by omega) k9) ?_
  refine qy (fun _ _ k9 => z_eq rfl (qc (qi (show ((G1 129) l) = (bkN g (b - 1) 166) from by rw [xfr_G hv1 (by decide)]; exact hpl.2)) rfl) rfl k9) ?_
  refine qy (fun _ _ k9 => z_cv0 (M1 := M_X6_cutTo) d_X3_goBack_38 lv_X3_50 k_X6_cutTo [qI (bkN g (b - 1) 166)] rfl rfl (xput_ob (c := (F1 61)) xi_61 rfl (xsh_6 xo_61)) ⟨_, _, rfl⟩ (Nat.le_of_ble_eq_true rfl) (by decide) (by decide) (Nat.le_of_ble_eq_true rfl) (c_rwCut (h := h) (F := F1) (G := G1) (q := 61) (L := L) (bkN g (b - 1) 166) (by decide) xo_61 (show F1 61 2 = (L : Int) from (by rw [xfr_F hv1 (by decide)]; exact hW.2.1.trans hLL)) (by rw [hx61]; omega) (by omega)) k9) ?_
  refine qy (fun _ _ k9 => z_aload_n d_X3_goBack_41 rfl rfl k9) ?_
  refine qy (fun _ _ k9 => z_aload_n d_X3_goBack_42 rfl rfl k9) ?_
  refine qy (fun _ _ k9 => z_getf (v := qI ((F1 127) 2)) d_X3_goBack_43 fl_X3_19 (xput_ob (c := (F1 127)) xi_127 rfl (xsh_3 xo_127)) rfl k9) ?_
  refine qy (fun _ _ k9 => z_eq rfl (qc (qi (show F1 127 2 = (l : Int) from (by rw [xfr_F hv1 (by decide)]; exact hl))) rfl) rfl k9) ?_
  refine qy (fun _ _ k9 => z_bipush d_X3_goBack_46 (by decide) k9) ?_
  refine qy (fun _ _ k9 => z_iadd d_X3_goBack_48 (by omega) k9) ?_
  refine qy (fun _ _ k9 => z_iconst d_X3_goBack_49 (by decide) k9) ?_
  refine qy (fun _ _ k9 => z_isub d_X3_goBack_50 (by omega) k9) ?_
  refine qy (fun _ _ k9 => z_bipush d_X3_goBack_51 (by decide) k9) ?_
  refine qy (fun _ _ k9 => z_irem d_X3_goBack_53 (by omega) k9) ?_
  refine qy (fun _ _ k9 => z_eq rfl (qc (qi (show (Int.tmod (((l : Int) + 6) - 1) 6) = (q : Int) from by first | omega | (rw [Int.tmod_eq_emod_of_nonneg (by omega)]; omega))) rfl) rfl k9) ?_
  refine qy (fun _ _ k9 => z_putf (fs' := [qR 128, qR 129, qI (q : Int), qI ((F1 127) 3)]) d_X3_goBack_54 fp_X3_19 (xput_ob (c := (F1 127)) xi_127 rfl (xsh_3 xo_127)) (fun _ => rfl) (fun _ => rfl) (Nat.le_of_ble_eq_true rfl) rfl k9) ?_
  refine qy (fun _ _ k9 => z_eq rfl rfl (xput_sf (c := (qup (F1 127) 2 (q : Int))) xi_127 (xsh_3 xo_127)) k9) ?_
  refine qy (fun _ _ k9 => z_aload_n d_X3_goBack_57 rfl rfl k9) ?_
  refine qy (fun _ _ k9 => z_dup d_X3_goBack_58 rfl k9) ?_
  refine qy (fun _ _ k9 => z_getf (v := qI ((F1 127) 3)) d_X3_goBack_59 fl_X3_23 (xput_ob (c := (qup (F1 127) 2 (q : Int))) xi_127 rfl (xsh_3 xo_127)) rfl k9) ?_
  refine qy (fun _ _ k9 => z_eq rfl (qc (qi (show F1 127 3 = (b : Int) from (by rw [xfr_F hv1 (by decide)]; exact hb))) rfl) rfl k9) ?_
  refine qy (fun _ _ k9 => z_iconst d_X3_goBack_62 (by decide) k9) ?_
  refine qy (fun _ _ k9 => z_isub d_X3_goBack_63 (by omega) k9) ?_
  refine qy (fun _ _ k9 => z_putf (fs' := [qR 128, qR 129, qI (q : Int), qI ((b : Int) - 1)]) d_X3_goBack_64 fp_X3_23 (xput_ob (c := (qup (F1 127) 2 (q : Int))) xi_127 rfl (xsh_3 xo_127)) (fun _ => rfl) (fun _ => rfl) (Nat.le_of_ble_eq_true rfl) rfl k9) ?_
  refine qy (fun _ _ k9 => z_eq rfl rfl ((xput_sf (c := (qup (qup (F1 127) 2 (q : Int)) 3 ((b : Int) - 1))) xi_127 (xsh_3 xo_127)).trans (xput_cg (gup_gup _ _ _) rfl)) k9) ?_
  refine qy (fun _ _ k9 => z_iconst d_X3_goBack_67 (by decide) k9) ?_
  exact y_ret (hQ (gup (gup F1 61 (qup (F1 61) 2 (bkN g (b - 1) 166))) 127 (qup (qup (F1 127) 2 (q : Int)) 3 ((b : Int) - 1))) G1 (⟨fun a ha h7 => ⟨(gup_ne h7).trans ((gup_ne (by omega)).trans (xfr_F hv1 (by omega))), xfr_G hv1 (by omega)⟩, ⟨(by rw [gup_eq]; exact wlR_N (wlR_cg hw1 ((gup_ne (by decide)).trans (gup_ne (by decide))) rfl rfl rfl) (fun j hj => (by rw [qmx_lt (by omega)]; rfl))), (by rw [gup_ne (by decide), gup_eq, gup_eq, qmx_lt (by decide)]; rfl), fun j hj => (by rw [gup_eq, qmx_lt (by decide)] at hj; rw [xfr_G hv1 (by decide), gup_ne (by decide)]; exact hW.2.2 j (Int.lt_of_lt_of_le hj (by have := hmon; unfold bkN at this; omega)))⟩, ⟨q, ⟨by omega, (by rw [gup_eq]; rfl), (by rw [gup_eq]; exact (show (b : Int) - 1 = ((b - 1 : Nat) : Int) by omega)), by omega⟩, fun t ht => (by obtain ⟨h4, h5⟩ := hp t (by omega); rw [show (l + 7 + t - b) % 6 = (q + 7 + t - (b - 1)) % 6 by omega] at h4 h5; exact ⟨wlR_cg h4 ((gup_ne (by omega)).trans ((gup_ne (by omega)).trans (xfr_F hv1 (by omega)))) (xfr_G hv1 (by omega)) (xfr_G hv1 (by omega)) (xfr_G hv1 (by omega)), (by rw [xfr_G hv1 (by decide)]; exact h5)⟩)⟩⟩)) (z_zret d_X3_goBack_68 rfl (by first | exact qb_01 _ | decide | omega) rfl rfl)
set_option maxRecDepth 20000 in
set_option maxHeartbeats 4000000 in
theorem c_goBackNo {h : qH} {F G : Nat → Nat → Int} {g : Nat → Nat → Int} (hP : psR F G g 0) : qEx M_X3_goBack 0 [qR 127, qR 3] [] (xput h F G) (some (qI 0)) (xput h F G) := by
  refine q_gen (fun r hr er eh => ?_)
  obtain ⟨l, ⟨hl6, hl, hb, hb6⟩, hp⟩ := hP
  refine z_aload_n d_X3_goBack_0 rfl rfl ?_
  refine z_getf (v := qI ((F 127) 3)) d_X3_goBack_1 fl_X3_23 (xput_ob (c := (F 127)) xi_127 rfl (xsh_3 xo_127)) rfl ?_
  refine z_eq rfl (qc (qi hb) rfl) rfl ?_
  refine z_if_ne 9 d_X3_goBack_4 (by decide) (fun hc1 => absurd hc1 (by decide)) (fun hc1 => ?_)
  refine z_iconst d_X3_goBack_7 (by decide) ?_
  exact z_zret d_X3_goBack_8 rfl (by first | exact qb_01 _ | decide | omega) er eh
set_option maxRecDepth 20000 in
set_option maxHeartbeats 4000000 in
theorem c_forget {h : qH} {F G : Nat → Nat → Int}   : qEx M_X3_forget 0 [qR 127] [] (xput h F G) none (xput h (gup F 127 (qup (F 127) 3 0)) G) := by
  refine q_gen (fun r hr er eh => ?_)
  refine z_aload_n d_X3_forget_0 rfl rfl ?_
  refine z_iconst d_X3_forget_1 (by decide) ?_
  refine z_putf (fs' := [qR 128, qR 129, qI ((F 127) 2), qI 0]) d_X3_forget_2 fp_X3_23 (xput_ob (c := (F 127)) xi_127 rfl (xsh_3 xo_127)) (fun _ => rfl) (fun _ => rfl) (Nat.le_of_ble_eq_true rfl) rfl ?_
  refine z_eq rfl rfl (xput_sf (c := (qup (F 127) 3 0)) xi_127 (xsh_3 xo_127)) ?_
  exact z_vret d_X3_forget_5 rfl er eh
