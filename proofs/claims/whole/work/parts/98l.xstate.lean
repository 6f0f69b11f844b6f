/-! ===== CONTRACTS: the state: perform, noteFirstFire, performPlan, breathe ===== -/
/-- the wall and the log of the state are the reference's -/
def wgR (F G g : Nat → Nat → Int) : Prop := wlR F G 56 (g 11) ∧ F 61 2 = g 11 166 ∧ ∀ j : Nat, (j : Int) < 4 * g 11 166 → G 62 j = g 13 j
theorem wgR_cg {F G F' G' g : Nat → Nat → Int} {lo hi : Nat} (h : wgR F G g) (e : xfr lo hi F G F' G') (hd : hi < 56 ∨ 62 < lo) : wgR F' G' g := by
  obtain ⟨h1, h2, h3⟩ := h
  refine ⟨wlR_cg h1 (xfr_F e (by omega)) (xfr_G e (by omega)) (xfr_G e (by omega)) (xfr_G e (by omega)), ?_, fun j hj => ?_⟩
  · rw [xfr_F e (by omega)]; exact h2
  · rw [xfr_G e (by omega)]; exact h3 j hj
theorem wgR_w {F G F' G' g : Nat → Nat → Int} {N : Nat → Int} (h : wgR F G g) (e : xfr 56 60 F G F' G') (hw : wlR F' G' 56 N) (h6 : N 166 = g 11 166) : wgR F' G' (gup g 11 N) := by
  refine ⟨by rw [gup_eq]; exact hw, ?_, fun j hj => ?_⟩
  · rw [xfr_F e (by decide), gup_eq, h6]; exact h.2.1
  · rw [gup_eq, h6] at hj
    rw [xfr_G e (by decide), gup_ne (by decide)]; exact h.2.2 j hj
theorem row4_lt {f : Nat → Int} {a b c d : Int} {t j : Nat} (h : j < t) : row4 f t a b c d j = f j := by
  unfold row4
  rw [qup_ne (by omega), qup_ne (by omega), qup_ne (by omega), qup_ne (by omega)]
theorem row4_cg {f f' : Nat → Int} {a b c d : Int} {t j : Nat} (h : ∀ k, k < t → f k = f' k) (hj : j < t + 4) : row4 f t a b c d j = row4 f' t a b c d j := by
  unfold row4
  by_cases e3 : j = t + 3
  · rw [e3, qup_eq, qup_eq]
  · by_cases e2 : j = t + 2
    · rw [e2, qup_ne (by omega), qup_eq, qup_ne (by omega), qup_eq]
    · by_cases e1 : j = t + 1
      · rw [e1, qup_ne (by omega), qup_ne (by omega), qup_eq, qup_ne (by omega), qup_ne (by omega), qup_eq]
      · by_cases e0 : j = t
        · rw [e0, qup_ne (by omega), qup_ne (by omega), qup_ne (by omega), qup_eq, qup_ne (by omega), qup_ne (by omega), qup_ne (by omega), qup_eq]
        · rw [qup_ne e3, qup_ne e2, qup_ne e1, qup_ne e0, qup_ne e3, qup_ne e2, qup_ne e1, qup_ne e0]
          exact h j (by omega)
theorem c_logAdd {h : qH} {F G g : Nat → Nat → Int} (a b c : Int) (hW : wgR F G g) (hL : 0 ≤ g 11 166 ∧ g 11 166 ≤ 150) : ∃ F' G', (xfr 61 62 F G F' G' ∧ wgR F' G' (logG g a b c)) ∧ qEx M_X6_add 0 [qR 61, qI (g 11 162), qI a, qI b, qI c, qU] [] (xput h F G) (some (qI (qif (g 11 166 = 150) 0 1))) (xput h F' G') := by
  obtain ⟨L, hLL⟩ : ∃ L : Nat, g 11 166 = (L : Int) := ⟨(g 11 166).toNat, by omega⟩
  have hM : xM 61 = 150 := by decide
  by_cases e : g 11 166 = 150
  · refine ⟨F, G, ⟨xfr_rf _ _ _ _, by unfold logG; rw [if_pos e]; exact hW⟩, ?_⟩
    rw [qif_t e]
    exact c_rwAddNo (L := L) _ _ _ _ (by decide) xo_61 (hW.2.1.trans hLL) (by omega) (by omega)
  · have hx := c_rwAdd (h := h) (F := F) (G := G) (q := 61) (L := L) (g 11 162) a b c (by decide) xo_61 (hW.2.1.trans hLL) (by omega) (by omega)
    rw [qif_f e]
    refine ⟨_, _, ⟨xfr_f (xfr_g (xfr_rf _ _ _ _) (by decide) (by decide)) (by decide) (by decide), ?_⟩, hx⟩
    unfold logG
    rw [if_neg e]
    refine ⟨?_, ?_, fun j hj => ?_⟩
    · rw [gup_eq]
      exact wlR_N (wlR_cg hW.1 rfl rfl rfl rfl) (fun j hj => (qup_ne (by omega)).symm)
    · rw [gup_eq, gup_eq, qup_eq, qup_eq, hLL]
    · rw [gup_eq, qup_eq] at hj
      rw [gup_eq, gup_ne (show (13 : Nat) ≠ 11 by decide), gup_eq, hLL, Int.toNat_natCast]
      exact row4_cg (fun k hk => hW.2.2 k (by omega)) (by omega)
set_option maxRecDepth 20000 in
set_option maxHeartbeats 4000000 in
theorem c_perform {h : qH} {F G : Nat → Nat → Int} {g : Nat → Nat → Int} (what : Int) (who : Nat) (v : Int) (hW : wgR F G g) (hw : who < 32) (hL : 0 ≤ g 11 166 ∧ g 11 166 ≤ 150) (hk : 0 ≤ what ∧ what ≤ 5) (hv : becV what v = v) : ∃ F' G', (xfr 56 62 F G F' G' ∧ wgR F' G' (becG g what who v)) ∧ qEx M_X8_perform 0 [qR 3, qI what, qI (who : Int), qI v] [] (xput h F G) none (xput h F' G') := by
  refine x_in (fun Q hQ => ?_)
  refine qy (fun _ _ k9 => z_aload_n d_X8_perform_0 rfl rfl k9) ?_
  refine qy (fun _ _ k9 => z_getf (v := qR 56) d_X8_perform_1 fl_X8_36 (xput_ob (c := (F 3)) xi_3 rfl (xsh_8 xo_3)) rfl k9) ?_
  refine qy (fun _ _ k9 => z_iload_n d_X8_perform_4 rfl rfl k9) ?_
  refine qy (fun _ _ k9 => z_iload_n d_X8_perform_5 rfl rfl k9) ?_
  refine qy (fun _ _ k9 => z_iload_n d_X8_perform_6 rfl rfl k9) ?_
  obtain ⟨F1, G1, ⟨hv1, hw1⟩, hx1⟩ := c_wlCh (h := h) (F := F) (G := G) (wl := 56) (N := g 11) what who v (by decide) xo_56 hw hk hW.1
  refine qy (fun _ _ k9 => z_cv0 (M1 := M_X10_change) d_X8_perform_7 lv_X8_56 k_X10_change [qI what, qI (who : Int), qI v] rfl rfl (xput_ob (c := (F 56)) xi_56 rfl (xsh_10 xo_56)) ⟨_, _, rfl⟩ (Nat.le_of_ble_eq_true rfl) (by decide) (by decide) (Nat.le_of_ble_eq_true rfl) hx1 k9) ?_
  refine qy (fun _ _ k9 => z_aload_n d_X8_perform_10 rfl rfl k9) ?_
  refine qy (fun _ _ k9 => z_getf (v := qR 61) d_X8_perform_11 fl_X8_40 (xput_ob (c := (F1 3)) xi_3 rfl (xsh_8 xo_3)) rfl k9) ?_
  refine qy (fun _ _ k9 => z_aload_n d_X8_perform_14 rfl rfl k9) ?_
  refine qy (fun _ _ k9 => z_getf (v := qR 56) d_X8_perform_15 fl_X8_36 (xput_ob (c := (F1 3)) xi_3 rfl (xsh_8 xo_3)) rfl k9) ?_
  refine qy (fun _ _ k9 => z_getf (v := qI ((F1 56) 8)) d_X8_perform_18 fl_X8_60 (xput_ob (c := (F1 56)) xi_56 rfl (xsh_10 xo_56)) rfl k9) ?_
  refine qy (fun _ _ k9 => z_eq rfl (qc (qi (show ((F1 56) 8) = (gup g 11 (becA what who v (g 11)) 11 162) from by rw [gup_eq]; exact hw1.1.2.2.1)) rfl) rfl k9) ?_
  refine qy (fun _ _ k9 => z_iload_n d_X8_perform_21 rfl rfl k9) ?_
  refine qy (fun _ _ k9 => z_iload_n d_X8_perform_22 rfl rfl k9) ?_
  refine qy (fun _ _ k9 => z_iload_n d_X8_perform_23 rfl rfl k9) ?_
  obtain ⟨F2, G2, ⟨hv2, hw2⟩, hx2⟩ := c_logAdd (h := h) (F := F1) (G := G1) (g := gup g 11 (becA what who v (g 11))) what (who : Int) v (wgR_w hW hv1 hw1 (becA_hi hw (by decide))) (by rw [gup_eq, becA_hi hw (by decide)]; exact hL)
  refine qy (fun _ _ k9 => z_cv (M1 := M_X6_add) d_X8_perform_24 lv_X8_64 k_X6_add [qI (gup g 11 (becA what who v (g 11)) 11 162), qI what, qI (who : Int), qI v] rfl rfl (xput_ob (c := (F1 61)) xi_61 rfl (xsh_6 xo_61)) ⟨_, _, rfl⟩ (Nat.le_of_ble_eq_true rfl) (by decide) (by decide) (Nat.le_of_ble_eq_true rfl) hx2 k9) ?_
  refine qy (fun _ _ k9 => z_pop d_X8_perform_27 rfl k9) ?_
  exact y_ret (hQ F2 G2 (⟨xfr_tr (xfr_wd hv1 (by decide) (by decide)) (xfr_wd hv2 (by decide) (by decide)), (by unfold becG; rw [hv]; exact hw2)⟩)) (z_vret d_X8_perform_28 rfl rfl rfl)
theorem wlR_ft {F G : Nat → Nat → Int} {N : Nat → Int} {a b : Int} (h : wlR F G 56 N) : wlR (gup F 56 (qup (qup (F 56) 10 a) 11 b)) G 56 (qup (qup N 164 a) 165 b) := by
  obtain ⟨⟨h1, h2, h3, h4, _, _⟩, h5, h6⟩ := h
  have e : ∀ j, j < 164 → qup (qup N 164 a) 165 b j = N j := fun j hj => by rw [qup_ne (by omega), qup_ne (by omega)]
  refine ⟨?_, fun k hk => ?_, fun k hk => ?_⟩
  · rw [gup_eq]
    exact ⟨h1, h2, h3, h4, rfl, rfl⟩
  · rw [e k (by omega), e (32 + k) (by omega), e (128 + k) (by omega)]; exact h5 k hk
  · rw [gup_eq, e (64 + k) (by omega), e (96 + k) (by omega)]; exact h6 k hk
theorem wOk_N {N N' : Nat → Int} (h : wOk N) (e : ∀ j, j < 164 → N' j = N j) : wOk N' := ⟨fun j hj => by rw [e j (by omega)]; exact h.1 j hj, by rw [e 163 (by decide)]; exact h.2⟩
set_option maxRecDepth 20000 in
set_option maxHeartbeats 4000000 in
theorem c_noteFire {h : qH} {F G : Nat → Nat → Int} {n : Nat} {g : Nat → Nat → Int} (hW : wgR F G g) (hO : wOk (g 11)) (hN : g 11 160 = (n : Int)) (hn : n ≤ 32) (hL : 0 ≤ g 11 166 ∧ g 11 166 ≤ 150) : ∃ F' G', (xfr 56 62 F G F' G' ∧ wgR F' G' (ffG n g)) ∧ qEx M_X8_noteFirstFire 0 [qR 3, qU] [] (xput h F G) none (xput h F' G') := by
  refine x_in (fun Q hQ => ?_)
  have hc := cnt_bd (fun k => g 11 k = 7) n
  refine qy (fun _ _ k9 => z_aload_n d_X8_noteFirstFire_0 rfl rfl k9) ?_
  refine qy (fun _ _ k9 => z_getf (v := qR 56) d_X8_noteFirstFire_1 fl_X8_36 (xput_ob (c := (F 3)) xi_3 rfl (xsh_8 xo_3)) rfl k9) ?_
  refine qy (fun _ _ k9 => z_cv (M1 := M_X10_litCount) d_X8_noteFirstFire_4 lv_X8_91 k_X10_litCount [] rfl rfl (xput_ob (c := (F 56)) xi_56 rfl (xsh_10 xo_56)) ⟨_, _, rfl⟩ (Nat.le_of_ble_eq_true rfl) (by decide) (by decide) (Nat.le_of_ble_eq_true rfl) (c_wlLit (wl := 56) (n := n) (by decide) xo_56 hW.1 hO hN) k9) ?_
  refine qy (fun _ _ k9 => z_istore_n (ls' := [qR 3, qI (cnt (fun k => g 11 k = 7) n)]) d_X8_noteFirstFire_7 rfl (by decide) rfl k9) ?_
  refine qy (fun _ _ k9 => z_aload_n d_X8_noteFirstFire_8 rfl rfl k9) ?_
  refine qy (fun _ _ k9 => z_getf (v := qR 56) d_X8_noteFirstFire_9 fl_X8_36 (xput_ob (c := (F 3)) xi_3 rfl (xsh_8 xo_3)) rfl k9) ?_
  refine qy (fun _ _ k9 => z_getf (v := qI ((F 56) 10)) d_X8_noteFirstFire_12 fl_X8_95 (xput_ob (c := (F 56)) xi_56 rfl (xsh_10 xo_56)) rfl k9) ?_
  refine qy (fun _ _ k9 => z_eq rfl (qc (qi hW.1.1.2.2.2.2.1) rfl) rfl k9) ?_
  refine qy (fun _ _ k9 => z_iconst d_X8_noteFirstFire_15 (by decide) k9) ?_
  refine qy2 (fun _ _ => z_icmp_ne 23 d_X8_noteFirstFire_16 (by decide)) (fun q16 => ?_) (fun q16 => ?_)
  · exact y_ret (hQ F G (⟨xfr_rf _ _ _ _, (by unfold ffG; rw [qif_f (by omega)]; exact hW)⟩)) (z_vret d_X8_noteFirstFire_23 rfl rfl rfl)
  · refine qy (fun _ _ k9 => z_iload_n d_X8_noteFirstFire_19 rfl rfl k9) ?_
    refine qy2 (fun _ _ => z_if_ne 24 d_X8_noteFirstFire_20 (by decide)) (fun q20 => ?_) (fun q20 => ?_)
    · refine qy (fun _ _ k9 => z_aload_n d_X8_noteFirstFire_24 rfl rfl k9) ?_
      refine qy (fun _ _ k9 => z_getf (v := qR 56) d_X8_noteFirstFire_25 fl_X8_36 (xput_ob (c := (F 3)) xi_3 rfl (xsh_8 xo_3)) rfl k9) ?_
      refine qy (fun _ _ k9 => z_aload_n d_X8_noteFirstFire_28 rfl rfl k9) ?_
      refine qy (fun _ _ k9 => z_getf (v := qR 56) d_X8_noteFirstFire_29 fl_X8_36 (xput_ob (c := (F 3)) xi_3 rfl (xsh_8 xo_3)) rfl k9) ?_
      refine qy (fun _ _ k9 => z_getf (v := qI ((F 56) 8)) d_X8_noteFirstFire_32 fl_X8_60 (xput_ob (c := (F 56)) xi_56 rfl (xsh_10 xo_56)) rfl k9) ?_
      refine qy (fun _ _ k9 => z_eq rfl (qc (qi hW.1.1.2.2.1) rfl) rfl k9) ?_
      refine qy (fun _ _ k9 => z_putf (fs' := [qI ((F 56) 0), qI ((F 56) 1), qR 57, qR 58, qR 59, qR 60, qI ((F 56) 6), qI ((F 56) 7), qI ((F 56) 8), qI ((F 56) 9), qI (g 11 162), qI ((F 56) 11)]) d_X8_noteFirstFire_35 fp_X8_95 (xput_ob (c := (F 56)) xi_56 rfl (xsh_10 xo_56)) (fun _ => rfl) (fun _ => rfl) (Nat.le_of_ble_eq_true rfl) rfl k9) ?_
      refine qy (fun _ _ k9 => z_eq rfl rfl (xput_sf (c := (qup (F 56) 10 (g 11 162))) xi_56 (xsh_10 xo_56)) k9) ?_
      refine qy (fun _ _ k9 => z_aload_n d_X8_noteFirstFire_38 rfl rfl k9) ?_
      refine qy (fun _ _ k9 => z_getf (v := qR 56) d_X8_noteFirstFire_39 fl_X8_36 (xput_ob (c := (F 3)) xi_3 rfl (xsh_8 xo_3)) rfl k9) ?_
      refine qy (fun _ _ k9 => z_iload_n d_X8_noteFirstFire_42 rfl rfl k9) ?_
      refine qy (fun _ _ k9 => z_putf (fs' := [qI ((F 56) 0), qI ((F 56) 1), qR 57, qR 58, qR 59, qR 60, qI ((F 56) 6), qI ((F 56) 7), qI ((F 56) 8), qI ((F 56) 9), qI (g 11 162), qI (cnt (fun k => g 11 k = 7) n)]) d_X8_noteFirstFire_43 fp_X8_98 (xput_ob (c := (qup (F 56) 10 (g 11 162))) xi_56 rfl (xsh_10 xo_56)) (fun _ => rfl) (fun _ => rfl) (Nat.le_of_ble_eq_true rfl) rfl k9) ?_
      refine qy (fun _ _ k9 => z_eq rfl rfl ((xput_sf (c := (qup (qup (F 56) 10 (g 11 162)) 11 (cnt (fun k => g 11 k = 7) n))) xi_56 (xsh_10 xo_56)).trans (xput_cg (gup_gup _ _ _) rfl)) k9) ?_
      have hq9 : ∀ j, j < 164 → qup (qup (g 11) 164 (g 11 162)) 165 (cnt (fun k => g 11 k = 7) n) j = g 11 j := fun j hj => by rw [qup_ne (by omega), qup_ne (by omega)]
      have hW2 : wgR (gup F 56 (qup (qup (F 56) 10 (g 11 162)) 11 (cnt (fun k => g 11 k = 7) n))) G (gup g 11 (qup (qup (g 11) 164 (g 11 162)) 165 (cnt (fun k => g 11 k = 7) n))) := wgR_w hW (xfr_f (xfr_rf _ _ _ _) (by decide) (by decide)) (wlR_ft hW.1) (by rw [qup_ne (by decide), qup_ne (by decide)])
      have hO2 : wOk ((gup g 11 (qup (qup (g 11) 164 (g 11 162)) 165 (cnt (fun k => g 11 k = 7) n))) 11) := by rw [gup_eq]; exact wOk_N hO hq9
      have hN2 : (gup g 11 (qup (qup (g 11) 164 (g 11 162)) 165 (cnt (fun k => g 11 k = 7) n))) 11 160 = (n : Int) := by rw [gup_eq, hq9 160 (by decide)]; exact hN
      refine qy (fun _ _ k9 => z_aload_n d_X8_noteFirstFire_46 rfl rfl k9) ?_
      refine qy (fun _ _ k9 => z_getf (v := qR 61) d_X8_noteFirstFire_47 fl_X8_40 (xput_ob (c := (F 3)) xi_3 rfl (xsh_8 xo_3)) rfl k9) ?_
      refine qy (fun _ _ k9 => z_aload_n d_X8_noteFirstFire_50 rfl rfl k9) ?_
      refine qy (fun _ _ k9 => z_getf (v := qR 56) d_X8_noteFirstFire_51 fl_X8_36 (xput_ob (c := (F 3)) xi_3 rfl (xsh_8 xo_3)) rfl k9) ?_
      refine qy (fun _ _ k9 => z_getf (v := qI ((F 56) 8)) d_X8_noteFirstFire_54 fl_X8_60 (xput_ob (c := (qup (qup (F 56) 10 (g 11 162)) 11 (cnt (fun k => g 11 k = 7) n))) xi_56 rfl (xsh_10 xo_56)) rfl k9) ?_
      refine qy (fun _ _ k9 => z_eq rfl (qc (qi hW.1.1.2.2.1) rfl) rfl k9) ?_
      refine qy (fun _ _ k9 => z_eq rfl (qc (qi (show (g 11 162) = ((gup g 11 (qup (qup (g 11) 164 (g 11 162)) 165 (cnt (fun k => g 11 k = 7) n))) 11 162) from by rw [gup_eq, hq9 162 (by decide)])) rfl) rfl k9) ?_
      refine qy (fun _ _ k9 => z_bipush d_X8_noteFirstFire_57 (by decide) k9) ?_
      refine qy (fun _ _ k9 => z_aload_n d_X8_noteFirstFire_59 rfl rfl k9) ?_
      refine qy (fun _ _ k9 => z_getf (v := qR 56) d_X8_noteFirstFire_60 fl_X8_36 (xput_ob (c := (F 3)) xi_3 rfl (xsh_8 xo_3)) rfl k9) ?_
      refine qy (fun _ _ k9 => z_cv (M1 := M_X10_leastLit) d_X8_noteFirstFire_63 lv_X8_101 k_X10_leastLit [] rfl rfl (xput_ob (c := (qup (qup (F 56) 10 (g 11 162)) 11 (cnt (fun k => g 11 k = 7) n))) xi_56 rfl (xsh_10 xo_56)) ⟨_, _, rfl⟩ (Nat.le_of_ble_eq_true rfl) (by decide) (by decide) (Nat.le_of_ble_eq_true rfl) (by have e9 := c_wlLeast (h := h) (wl := 56) (n := n) (by decide) xo_56 hW2.1 hO2 hN2; rw [show fst (fun k => (gup g 11 (qup (qup (g 11) 164 (g 11 162)) 165 (cnt (fun k => g 11 k = 7) n))) 11 k = 7) n = fst (fun k => g 11 k = 7) n from fst_congr (fun k hk => by rw [gup_eq, hq9 k (by omega)])] at e9; exact e9) k9) ?_
      refine qy (fun _ _ k9 => z_iload_n d_X8_noteFirstFire_66 rfl rfl k9) ?_
      obtain ⟨F1, G1, ⟨hv1, hw1⟩, hx1⟩ := c_logAdd (h := h) (F := (gup F 56 (qup (qup (F 56) 10 (g 11 162)) 11 (cnt (fun k => g 11 k = 7) n)))) (G := G) (g := (gup g 11 (qup (qup (g 11) 164 (g 11 162)) 165 (cnt (fun k => g 11 k = 7) n)))) 6 (fst (fun k => g 11 k = 7) n) (cnt (fun k => g 11 k = 7) n) hW2 (by rw [gup_eq, qup_ne (by decide), qup_ne (by decide)]; exact hL)
      refine qy (fun _ _ k9 => z_cv (M1 := M_X6_add) d_X8_noteFirstFire_67 lv_X8_64 k_X6_add [qI ((gup g 11 (qup (qup (g 11) 164 (g 11 162)) 165 (cnt (fun k => g 11 k = 7) n))) 11 162), qI 6, qI (fst (fun k => g 11 k = 7) n), qI (cnt (fun k => g 11 k = 7) n)] rfl rfl (xput_ob (c := (F 61)) xi_61 rfl (xsh_6 xo_61)) ⟨_, _, rfl⟩ (Nat.le_of_ble_eq_true rfl) (by decide) (by decide) (Nat.le_of_ble_eq_true rfl) hx1 k9) ?_
      refine qy (fun _ _ k9 => z_pop d_X8_noteFirstFire_70 rfl k9) ?_
      exact y_ret (hQ F1 G1 (⟨xfr_tr (xfr_f (xfr_rf _ _ _ _) (by decide) (by decide)) (xfr_wd hv1 (by decide) (by decide)), (by unfold ffG; rw [qif_t (by omega)]; exact hw1)⟩)) (z_vret d_X8_noteFirstFire_71 rfl rfl rfl)
    · exact y_ret (hQ F G (⟨xfr_rf _ _ _ _, (by unfold ffG; rw [qif_f (by omega)]; exact hW)⟩)) (z_vret d_X8_noteFirstFire_23 rfl rfl rfl)
