/-! ===== CONTRACTS: BeaconWall: ring, log, wall, says, goes ===== -/
set_option maxRecDepth 20000 in
set_option maxHeartbeats 4000000 in
theorem xc_ring0 {h : qH} {F G : Nat → Nat → Int} {n b : Nat} {T : Nat → Int} (hn : 1 ≤ n ∧ n ≤ 32) (hbn : b < n) (hT : ∀ c, c < 648 → G 6 c = T c) (hB : ∀ c, c < 648 → 0 ≤ T c ∧ T c ≤ 7) : ∃ F' G', (xfr 173 176 F G F' G') ∧ qEx M_X11_ring 0 [qR 2, qI (n : Int), qI (b : Int), qI 0] [] (xput h F G) (some (qI (rnT T n 1 (b : Int)))) (xput h F' G') := by
  refine x_in (fun Q hQ => ?_)
  refine qy (fun _ _ k9 => z_iload_n d_X11_ring_0 rfl rfl k9) ?_
  refine qy (fun _ _ k9 => z_iload_n d_X11_ring_1 rfl rfl k9) ?_
  refine qy (fun _ _ k9 => z_cs (M1 := M_X11_isRun) d_X11_ring_2 ls_X11_280 k_X11_isRun [qI (n : Int), qI (b : Int)] rfl rfl (Nat.le_of_ble_eq_true rfl) (by decide) (by decide) (Nat.le_of_ble_eq_true rfl) (c_isRun (n : Int) (b : Int) (by omega)) k9) ?_
  refine qy2n (fun _ _ => z_ifeqB 22 d_X11_ring_5 (by decide)) (fun hc1 => absurd hc1 (by omega)) (fun hc1 => ?_)
  refine qy (fun _ _ k9 => z_aload_n d_X11_ring_8 rfl rfl k9) ?_
  refine qy (fun _ _ k9 => z_iload_n d_X11_ring_9 rfl rfl k9) ?_
  refine qy (fun _ _ k9 => z_iload_n d_X11_ring_10 rfl rfl k9) ?_
  refine qy (fun _ _ k9 => z_iconst d_X11_ring_11 (by decide) k9) ?_
  obtain ⟨F1, G1, ⟨hv1, tt1, ch1, hw1, he1⟩, hx1⟩ := c_firesOf (h := h) (F := F) (G := G) (n := n) (b := b) (rg := 1) (T := T) hn (by omega) (by decide) hT hB
  refine qy (fun _ _ k9 => z_cv (M1 := M_X11_firesOf) d_X11_ring_12 lv_X11_284 k_X11_firesOf [qI (n : Int), qI (b : Int), qI 1] rfl rfl (xput_ob (c := (F 2)) xi_2 rfl (xsh_11 xo_2)) ⟨_, _, rfl⟩ (Nat.le_of_ble_eq_true rfl) (by decide) (by decide) (Nat.le_of_ble_eq_true rfl) hx1 k9) ?_
  refine qy (fun _ _ k9 => z_iload_n d_X11_ring_15 rfl rfl k9) ?_
  refine qy (fun _ _ k9 => z_cv (M1 := M_X7_outcome) d_X11_ring_16 lv_X11_288 k_X7_outcome [qI 0] rfl rfl (xput_ob (c := (F1 173)) xi_173 rfl (xsh_7 xo_173)) ⟨_, _, rfl⟩ (Nat.le_of_ble_eq_true rfl) (by decide) (by decide) (Nat.le_of_ble_eq_true rfl) (c_rnOut0 (by decide) xo_173 (by omega) hw1) k9) ?_
  refine qy (fun _ _ k9 => z_goto 23 d_X11_ring_19 (by decide) k9) ?_
  exact y_ret (hQ F1 G1 hv1) (z_iret d_X11_ring_23 rfl (qsi (by by_cases z : cnt (fun k => (rnE T n 1 (b : Int)) k = 7) n = 0; (rw [qif_f (fun y => y z)]; exact he1.2.2.mpr z); (rw [qif_t z]; exact he1.2.1 (fun y => z (he1.2.2.mp y))))) rfl)
set_option maxRecDepth 20000 in
set_option maxHeartbeats 4000000 in
theorem xc_ring1 {h : qH} {F G : Nat → Nat → Int} {n b : Nat} {T : Nat → Int} (hn : 1 ≤ n ∧ n ≤ 32) (hbn : b < n) (hT : ∀ c, c < 648 → G 6 c = T c) (hB : ∀ c, c < 648 → 0 ≤ T c ∧ T c ≤ 7) : ∃ F' G', (xfr 173 176 F G F' G') ∧ qEx M_X11_ring 0 [qR 2, qI (n : Int), qI (b : Int), qI 1] [] (xput h F G) (some (qI (cnt (fun k => (rnE T n 1 (b : Int)) k = 7) n))) (xput h F' G') := by
  refine x_in (fun Q hQ => ?_)
  refine qy (fun _ _ k9 => z_iload_n d_X11_ring_0 rfl rfl k9) ?_
  refine qy (fun _ _ k9 => z_iload_n d_X11_ring_1 rfl rfl k9) ?_
  refine qy (fun _ _ k9 => z_cs (M1 := M_X11_isRun) d_X11_ring_2 ls_X11_280 k_X11_isRun [qI (n : Int), qI (b : Int)] rfl rfl (Nat.le_of_ble_eq_true rfl) (by decide) (by decide) (Nat.le_of_ble_eq_true rfl) (c_isRun (n : Int) (b : Int) (by omega)) k9) ?_
  refine qy2n (fun _ _ => z_ifeqB 22 d_X11_ring_5 (by decide)) (fun hc1 => absurd hc1 (by omega)) (fun hc1 => ?_)
  refine qy (fun _ _ k9 => z_aload_n d_X11_ring_8 rfl rfl k9) ?_
  refine qy (fun _ _ k9 => z_iload_n d_X11_ring_9 rfl rfl k9) ?_
  refine qy (fun _ _ k9 => z_iload_n d_X11_ring_10 rfl rfl k9) ?_
  refine qy (fun _ _ k9 => z_iconst d_X11_ring_11 (by decide) k9) ?_
  obtain ⟨F1, G1, ⟨hv1, tt1, ch1, hw1, he1⟩, hx1⟩ := c_firesOf (h := h) (F := F) (G := G) (n := n) (b := b) (rg := 1) (T := T) hn (by omega) (by decide) hT hB
  refine qy (fun _ _ k9 => z_cv (M1 := M_X11_firesOf) d_X11_ring_12 lv_X11_284 k_X11_firesOf [qI (n : Int), qI (b : Int), qI 1] rfl rfl (xput_ob (c := (F 2)) xi_2 rfl (xsh_11 xo_2)) ⟨_, _, rfl⟩ (Nat.le_of_ble_eq_true rfl) (by decide) (by decide) (Nat.le_of_ble_eq_true rfl) hx1 k9) ?_
  refine qy (fun _ _ k9 => z_iload_n d_X11_ring_15 rfl rfl k9) ?_
  refine qy (fun _ _ k9 => z_cv (M1 := M_X7_outcome) d_X11_ring_16 lv_X11_288 k_X7_outcome [qI 1] rfl rfl (xput_ob (c := (F1 173)) xi_173 rfl (xsh_7 xo_173)) ⟨_, _, rfl⟩ (Nat.le_of_ble_eq_true rfl) (by decide) (by decide) (Nat.le_of_ble_eq_true rfl) (c_rnOut1 (by decide) xo_173 (by omega) hw1) k9) ?_
  refine qy (fun _ _ k9 => z_goto 23 d_X11_ring_19 (by decide) k9) ?_
  exact y_ret (hQ F1 G1 hv1) (z_iret d_X11_ring_23 rfl rfl rfl)
set_option maxRecDepth 20000 in
set_option maxHeartbeats 4000000 in
theorem xc_ring2 {h : qH} {F G : Nat → Nat → Int} {n b : Nat} {T : Nat → Int} (hn : 1 ≤ n ∧ n ≤ 32) (hbn : b < n) (hT : ∀ c, c < 648 → G 6 c = T c) (hB : ∀ c, c < 648 → 0 ≤ T c ∧ T c ≤ 7) : ∃ F' G', (xfr 173 176 F G F' G') ∧ qEx M_X11_ring 0 [qR 2, qI (n : Int), qI (b : Int), qI 2] [] (xput h F G) (some (qI (fst (fun k => ¬ (rnE T n 1 (b : Int)) k = 7) n))) (xput h F' G') := by
  refine x_in (fun Q hQ => ?_)
  refine qy (fun _ _ k9 => z_iload_n d_X11_ring_0 rfl rfl k9) ?_
  refine qy (fun _ _ k9 => z_iload_n d_X11_ring_1 rfl rfl k9) ?_
  refine qy (fun _ _ k9 => z_cs (M1 := M_X11_isRun) d_X11_ring_2 ls_X11_280 k_X11_isRun [qI (n : Int), qI (b : Int)] rfl rfl (Nat.le_of_ble_eq_true rfl) (by decide) (by decide) (Nat.le_of_ble_eq_true rfl) (c_isRun (n : Int) (b : Int) (by omega)) k9) ?_
  refine qy2n (fun _ _ => z_ifeqB 22 d_X11_ring_5 (by decide)) (fun hc1 => absurd hc1 (by omega)) (fun hc1 => ?_)
  refine qy (fun _ _ k9 => z_aload_n d_X11_ring_8 rfl rfl k9) ?_
  refine qy (fun _ _ k9 => z_iload_n d_X11_ring_9 rfl rfl k9) ?_
  refine qy (fun _ _ k9 => z_iload_n d_X11_ring_10 rfl rfl k9) ?_
  refine qy (fun _ _ k9 => z_iconst d_X11_ring_11 (by decide) k9) ?_
  obtain ⟨F1, G1, ⟨hv1, tt1, ch1, hw1, he1⟩, hx1⟩ := c_firesOf (h := h) (F := F) (G := G) (n := n) (b := b) (rg := 1) (T := T) hn (by omega) (by decide) hT hB
  refine qy (fun _ _ k9 => z_cv (M1 := M_X11_firesOf) d_X11_ring_12 lv_X11_284 k_X11_firesOf [qI (n : Int), qI (b : Int), qI 1] rfl rfl (xput_ob (c := (F 2)) xi_2 rfl (xsh_11 xo_2)) ⟨_, _, rfl⟩ (Nat.le_of_ble_eq_true rfl) (by decide) (by decide) (Nat.le_of_ble_eq_true rfl) hx1 k9) ?_
  refine qy (fun _ _ k9 => z_iload_n d_X11_ring_15 rfl rfl k9) ?_
  refine qy (fun _ _ k9 => z_cv (M1 := M_X7_outcome) d_X11_ring_16 lv_X11_288 k_X7_outcome [qI 2] rfl rfl (xput_ob (c := (F1 173)) xi_173 rfl (xsh_7 xo_173)) ⟨_, _, rfl⟩ (Nat.le_of_ble_eq_true rfl) (by decide) (by decide) (Nat.le_of_ble_eq_true rfl) (c_rnOut2 (by decide) xo_173 (by omega) hw1) k9) ?_
  refine qy (fun _ _ k9 => z_goto 23 d_X11_ring_19 (by decide) k9) ?_
  exact y_ret (hQ F1 G1 hv1) (z_iret d_X11_ring_23 rfl rfl rfl)
set_option maxRecDepth 20000 in
set_option maxHeartbeats 4000000 in
theorem xc_log {h : qH} {F G : Nat → Nat → Int} {g : Nat → Nat → Int} {L : Nat} (i k : Int) (hW : wgR F G g) (hL : g 11 166 = (L : Int)) (hL2 : L ≤ 150) : qEx M_X11_log 0 [qR 2, qI i, qI k] [] (xput h F G) (some (qI (qif (0 ≤ i ∧ i < (L : Int) ∧ 0 ≤ k ∧ k ≤ 3) (g 13 (4 * i + k).toNat) (-1)))) (xput h F G) := by
  refine q_gen (fun r hr er eh => ?_)
  refine z_aload_n d_X11_log_0 rfl rfl ?_
  refine z_getf (v := qR 3) d_X11_log_1 fl_X11_12 (xput_ob (c := (F 2)) xi_2 rfl (xsh_11 xo_2)) rfl ?_
  refine z_getf (v := qR 61) d_X11_log_4 fl_X11_128 (xput_ob (c := (F 3)) xi_3 rfl (xsh_8 xo_3)) rfl ?_
  refine z_iload_n d_X11_log_7 rfl rfl ?_
  refine z_iload_n d_X11_log_8 rfl rfl ?_
  refine z_cv (M1 := M_X6_cell) d_X11_log_9 lv_X11_132 k_X6_cell [qI i, qI k] rfl rfl (xput_ob (c := (F 61)) xi_61 rfl (xsh_6 xo_61)) ⟨_, _, rfl⟩ (Nat.le_of_ble_eq_true rfl) (by decide) (by decide) (Nat.le_of_ble_eq_true rfl) (c_rwCell (q := 61) (L := L) i k (by decide) xo_61 (hW.2.1.trans hL) (by rw [show xM 61 = 150 by decide]; exact hL2)) ?_
  exact z_iret d_X11_log_12 rfl (qer er (by by_cases z : 0 ≤ i ∧ i < (L : Int) ∧ 0 ≤ k ∧ k ≤ 3; (rw [qif_t z, qif_t z]; exact (hW.2.2 _ (by rw [hL]; omega)).symm); (rw [qif_f z, qif_f z]))) eh
set_option maxRecDepth 20000 in
set_option maxHeartbeats 4000000 in
theorem xc_wall_no {h : qH} {F G : Nat → Nat → Int} (n : Int) (rd : Prop) (hno : ¬ (0 ≤ n ∧ n ≤ 32)) : qEx M_X11_wall 0 [qR 2, qI n, qI (qb rd)] [] (xput h F G) (some (qI 0)) (xput h F G) := by
  refine q_gen (fun r hr er eh => ?_)
  refine z_iload_n d_X11_wall_0 rfl rfl ?_
  refine z_iconst d_X11_wall_1 (by decide) ?_
  refine z_bipush d_X11_wall_2 (by decide) ?_
  refine z_cs (M1 := M_X11_isWithin) d_X11_wall_4 ls_X11_62 k_X11_isWithin [qI n, qI 0, qI 32] rfl rfl (Nat.le_of_ble_eq_true rfl) (by decide) (by decide) (Nat.le_of_ble_eq_true rfl) (c_isWithin n 0 32) ?_
  refine z_ifneB 12 d_X11_wall_7 (by decide) (fun hc1 => absurd hc1 (by exact hno)) (fun hc1 => ?_)
  refine z_iconst d_X11_wall_10 (by decide) ?_
  exact z_zret d_X11_wall_11 rfl (by first | exact qb_01 _ | decide | omega) er eh
set_option maxRecDepth 20000 in
set_option maxHeartbeats 4000000 in
theorem xc_wall {h : qH} {F G : Nat → Nat → Int} {g : Nat → Nat → Int} {b : Nat} (n : Int) (rd : Prop) (hW : wgR F G g) (hP : psR F G g b) (hok : 0 ≤ n ∧ n ≤ 32) : ∃ F' G', ((∀ a, (a < 56 ∨ 60 < a) → a ≠ 127 → F' a = F a ∧ G' a = G a) ∧ wgR F' G' (gup g 11 (qup (qup (qup (qup (qmx 167 (fun _ => 0) (g 11)) 160 n) 161 (qb rd)) 164 (-1)) 166 (g 11 166))) ∧ psR F' G' (gup g 11 (qup (qup (qup (qup (qmx 167 (fun _ => 0) (g 11)) 160 n) 161 (qb rd)) 164 (-1)) 166 (g 11 166))) 0) ∧ qEx M_X11_wall 0 [qR 2, qI n, qI (qb rd)] [] (xput h F G) (some (qI 1)) (xput h F' G') := by
  refine x_in (fun Q hQ => ?_)
  refine qy (fun _ _ k9 => z_iload_n d_X11_wall_0 rfl rfl k9) ?_
  refine qy (fun _ _ k9 => z_iconst d_X11_wall_1 (by decide) k9) ?_
  refine qy (fun _ _ k9 => z_bipush d_X11_wall_2 (by decide) k9) ?_
  refine qy (fun _ _ k9 => z_cs (M1 := M_X11_isWithin) d_X11_wall_4 ls_X11_62 k_X11_isWithin [qI n, qI 0, qI 32] rfl rfl (Nat.le_of_ble_eq_true rfl) (by decide) (by decide) (Nat.le_of_ble_eq_true rfl) (c_isWithin n 0 32) k9) ?_
  refine qy2 (fun _ _ => z_ifneB 12 d_X11_wall_7 (by decide)) (fun hc1 => ?_) (fun hc1 => absurd hc1 (by exact not_not_intro hok))
  refine qy (fun _ _ k9 => z_aload_n d_X11_wall_12 rfl rfl k9) ?_
  refine qy (fun _ _ k9 => z_getf (v := qR 3) d_X11_wall_13 fl_X11_12 (xput_ob (c := (F 2)) xi_2 rfl (xsh_11 xo_2)) rfl k9) ?_
  refine qy (fun _ _ k9 => z_getf (v := qR 56) d_X11_wall_16 fl_X11_66 (xput_ob (c := (F 3)) xi_3 rfl (xsh_8 xo_3)) rfl k9) ?_
  refine qy (fun _ _ k9 => z_iload_n d_X11_wall_19 rfl rfl k9) ?_
  refine qy (fun _ _ k9 => z_iload_n d_X11_wall_20 rfl rfl k9) ?_
  obtain ⟨F1, G1, ⟨hv1, hw1⟩, hx1⟩ := c_wlBuild (h := h) (F := F) (G := G) (wl := 56) (N := (qup (qup (qup (qup (qmx 167 (fun _ => 0) (g 11)) 160 n) 161 (qb rd)) 164 (-1)) 166 (g 11 166))) n rd (by decide) xo_56 rfl rfl rfl rfl rfl rfl (fun j hj => by rw [qup_ne (by omega), qup_ne (by omega), qup_ne (by omega), qup_ne (by omega), qmx_lt (by omega)])
  refine qy (fun _ _ k9 => z_cv0 (M1 := M_X10_build) d_X11_wall_21 lv_X11_70 k_X10_build [qI n, qI (qb rd)] rfl rfl (xput_ob (c := (F 56)) xi_56 rfl (xsh_10 xo_56)) ⟨_, _, rfl⟩ (Nat.le_of_ble_eq_true rfl) (by decide) (by decide) (Nat.le_of_ble_eq_true rfl) hx1 k9) ?_
  refine qy (fun _ _ k9 => z_aload_n d_X11_wall_24 rfl rfl k9) ?_
  refine qy (fun _ _ k9 => z_getf (v := qR 127) d_X11_wall_25 fl_X11_26 (xput_ob (c := (F1 2)) xi_2 rfl (xsh_11 xo_2)) rfl k9) ?_
  refine qy (fun _ _ k9 => z_cv0 (M1 := M_X3_forget) d_X11_wall_28 lv_X11_76 k_X3_forget [] rfl rfl (xput_ob (c := (F1 127)) xi_127 rfl (xsh_3 xo_127)) ⟨_, _, rfl⟩ (Nat.le_of_ble_eq_true rfl) (by decide) (by decide) (Nat.le_of_ble_eq_true rfl) c_forget k9) ?_
  refine qy (fun _ _ k9 => z_iconst d_X11_wall_31 (by decide) k9) ?_
  exact y_ret (hQ (gup F1 127 (qup (F1 127) 3 0)) G1 (⟨fun a h1 h2 => ⟨(gup_ne h2).trans (xfr_F hv1 h1), xfr_G hv1 h1⟩, wgR_cg (lo := 127) (hi := 127) (wgR_w hW hv1 hw1 rfl) (xfr_f (xfr_rf _ _ _ _) (by decide) (by decide)) (by decide), (by obtain ⟨l, ⟨h1, h2, h3, h4⟩, h5⟩ := hP; exact ⟨l, ⟨h1, (by rw [gup_eq, qup_ne (by decide), xfr_F hv1 (by decide)]; exact h2), (by rw [gup_eq, qup_eq]; rfl), by omega⟩, fun t ht => absurd ht (by omega)⟩)⟩)) (z_zret d_X11_wall_32 rfl (by first | exact qb_01 _ | decide | omega) rfl rfl)
