/-! ===== CONTRACTS: BeaconWall: undo, fires, two ===== -/
set_option maxRecDepth 20000 in
set_option maxHeartbeats 4000000 in
theorem xc_undo_no {h : qH} {F G : Nat → Nat → Int} {g : Nat → Nat → Int} (hP : psR F G g 0) : qEx M_X11_undo 0 [qR 2] [] (xput h F G) (some (qI 0)) (xput h F G) := by
  refine q_gen (fun r hr er eh => ?_)
  refine z_aload_n d_X11_undo_0 rfl rfl ?_
  refine z_getf (v := qR 127) d_X11_undo_1 fl_X11_26 (xput_ob (c := (F 2)) xi_2 rfl (xsh_11 xo_2)) rfl ?_
  refine z_aload_n d_X11_undo_4 rfl rfl ?_
  refine z_getf (v := qR 3) d_X11_undo_5 fl_X11_12 (xput_ob (c := (F 2)) xi_2 rfl (xsh_11 xo_2)) rfl ?_
  refine z_cv (M1 := M_X3_goBack) d_X11_undo_8 lv_X11_137 k_X3_goBack [qR 3] rfl rfl (xput_ob (c := (F 127)) xi_127 rfl (xsh_3 xo_127)) ⟨_, _, rfl⟩ (Nat.le_of_ble_eq_true rfl) (by decide) (by decide) (Nat.le_of_ble_eq_true rfl) (c_goBackNo hP) ?_
  exact z_zret d_X11_undo_11 rfl (by first | exact qb_01 _ | decide | omega) er eh
set_option maxRecDepth 20000 in
set_option maxHeartbeats 4000000 in
theorem xc_undo {h : qH} {F G : Nat → Nat → Int} {g : Nat → Nat → Int} {b : Nat} (hW : wgR F G g) (hP : psR F G g b) (hb0 : 0 < b) (hk : rwOk (bkN g (b - 1))) (hmon : bkN g (b - 1) 166 ≤ g 11 166) (hL : 0 ≤ g 11 166 ∧ g 11 166 ≤ 150) : ∃ F' G', ((∀ a, (a < 56 ∨ 62 < a) → a ≠ 127 → F' a = F a ∧ G' a = G a) ∧ wgR F' G' (gup g 11 (qmx 167 (fun k => g 14 (167 * (b - 1) + k)) (g 11))) ∧ psR F' G' (gup g 11 (qmx 167 (fun k => g 14 (167 * (b - 1) + k)) (g 11))) (b - 1)) ∧ qEx M_X11_undo 0 [qR 2] [] (xput h F G) (some (qI 1)) (xput h F' G') := by
  refine x_in (fun Q hQ => ?_)
  refine qy (fun _ _ k9 => z_aload_n d_X11_undo_0 rfl rfl k9) ?_
  refine qy (fun _ _ k9 => z_getf (v := qR 127) d_X11_undo_1 fl_X11_26 (xput_ob (c := (F 2)) xi_2 rfl (xsh_11 xo_2)) rfl k9) ?_
  refine qy (fun _ _ k9 => z_aload_n d_X11_undo_4 rfl rfl k9) ?_
  refine qy (fun _ _ k9 => z_getf (v := qR 3) d_X11_undo_5 fl_X11_12 (xput_ob (c := (F 2)) xi_2 rfl (xsh_11 xo_2)) rfl k9) ?_
  obtain ⟨F1, G1, ⟨hv1, hw1, hp1⟩, hx1⟩ := c_goBack (h := h) (F := F) (G := G) hW hP hb0 hk hmon hL
  refine qy (fun _ _ k9 => z_cv (M1 := M_X3_goBack) d_X11_undo_8 lv_X11_137 k_X3_goBack [qR 3] rfl rfl (xput_ob (c := (F 127)) xi_127 rfl (xsh_3 xo_127)) ⟨_, _, rfl⟩ (Nat.le_of_ble_eq_true rfl) (by decide) (by decide) (Nat.le_of_ble_eq_true rfl) hx1 k9) ?_
  exact y_ret (hQ F1 G1 (⟨hv1, hw1, hp1⟩)) (z_zret d_X11_undo_11 rfl (by first | exact qb_01 _ | decide | omega) rfl rfl)
set_option maxRecDepth 20000 in
set_option maxHeartbeats 4000000 in
theorem xc_fires0 {h : qH} {F G : Nat → Nat → Int} {n b : Nat} {T : Nat → Int} (hn : 1 ≤ n ∧ n ≤ 32) (hbn : b < n) (hT : ∀ c, c < 648 → G 6 c = T c) (hB : ∀ c, c < 648 → 0 ≤ T c ∧ T c ≤ 7) : ∃ F' G', (xfr 173 176 F G F' G') ∧ qEx M_X11_fires 0 [qR 2, qI (n : Int), qI (b : Int), qI 0] [] (xput h F G) (some (qI (rnT T n 0 (b : Int)))) (xput h F' G') := by
  refine x_in (fun Q hQ => ?_)
  refine qy (fun _ _ k9 => z_iload_n d_X11_fires_0 rfl rfl k9) ?_
  refine qy (fun _ _ k9 => z_iload_n d_X11_fires_1 rfl rfl k9) ?_
  refine qy (fun _ _ k9 => z_cs (M1 := M_X11_isRun) d_X11_fires_2 ls_X11_280 k_X11_isRun [qI (n : Int), qI (b : Int)] rfl rfl (Nat.le_of_ble_eq_true rfl) (by decide) (by decide) (Nat.le_of_ble_eq_true rfl) (c_isRun (n : Int) (b : Int) (by omega)) k9) ?_
  refine qy2n (fun _ _ => z_ifeqB 22 d_X11_fires_5 (by decide)) (fun hc1 => absurd hc1 (by omega)) (fun hc1 => ?_)
  refine qy (fun _ _ k9 => z_aload_n d_X11_fires_8 rfl rfl k9) ?_
  refine qy (fun _ _ k9 => z_iload_n d_X11_fires_9 rfl rfl k9) ?_
  refine qy (fun _ _ k9 => z_iload_n d_X11_fires_10 rfl rfl k9) ?_
  refine qy (fun _ _ k9 => z_iconst d_X11_fires_11 (by decide) k9) ?_
  obtain ⟨F1, G1, ⟨hv1, tt1, ch1, hw1, he1⟩, hx1⟩ := c_firesOf (h := h) (F := F) (G := G) (n := n) (b := b) (rg := 0) (T := T) hn (by omega) (by decide) hT hB
  refine qy (fun _ _ k9 => z_cv (M1 := M_X11_firesOf) d_X11_fires_12 lv_X11_284 k_X11_firesOf [qI (n : Int), qI (b : Int), qI 0] rfl rfl (xput_ob (c := (F 2)) xi_2 rfl (xsh_11 xo_2)) ⟨_, _, rfl⟩ (Nat.le_of_ble_eq_true rfl) (by decide) (by decide) (Nat.le_of_ble_eq_true rfl) hx1 k9) ?_
  refine qy (fun _ _ k9 => z_iload_n d_X11_fires_15 rfl rfl k9) ?_
  refine qy (fun _ _ k9 => z_cv (M1 := M_X7_outcome) d_X11_fires_16 lv_X11_288 k_X7_outcome [qI 0] rfl rfl (xput_ob (c := (F1 173)) xi_173 rfl (xsh_7 xo_173)) ⟨_, _, rfl⟩ (Nat.le_of_ble_eq_true rfl) (by decide) (by decide) (Nat.le_of_ble_eq_true rfl) (c_rnOut0 (by decide) xo_173 (by omega) hw1) k9) ?_
  refine qy (fun _ _ k9 => z_goto 23 d_X11_fires_19 (by decide) k9) ?_
  exact y_ret (hQ F1 G1 hv1) (z_iret d_X11_fires_23 rfl (qsi (by by_cases z : cnt (fun k => (rnE T n 0 (b : Int)) k = 7) n = 0; (rw [qif_f (fun y => y z)]; exact he1.2.2.mpr z); (rw [qif_t z]; exact he1.2.1 (fun y => z (he1.2.2.mp y))))) rfl)
set_option maxRecDepth 20000 in
set_option maxHeartbeats 4000000 in
theorem xc_fires1 {h : qH} {F G : Nat → Nat → Int} {n b : Nat} {T : Nat → Int} (hn : 1 ≤ n ∧ n ≤ 32) (hbn : b < n) (hT : ∀ c, c < 648 → G 6 c = T c) (hB : ∀ c, c < 648 → 0 ≤ T c ∧ T c ≤ 7) : ∃ F' G', (xfr 173 176 F G F' G') ∧ qEx M_X11_fires 0 [qR 2, qI (n : Int), qI (b : Int), qI 1] [] (xput h F G) (some (qI (cnt (fun k => (rnE T n 0 (b : Int)) k = 7) n))) (xput h F' G') := by
  refine x_in (fun Q hQ => ?_)
  refine qy (fun _ _ k9 => z_iload_n d_X11_fires_0 rfl rfl k9) ?_
  refine qy (fun _ _ k9 => z_iload_n d_X11_fires_1 rfl rfl k9) ?_
  refine qy (fun _ _ k9 => z_cs (M1 := M_X11_isRun) d_X11_fires_2 ls_X11_280 k_X11_isRun [qI (n : Int), qI (b : Int)] rfl rfl (Nat.le_of_ble_eq_true rfl) (by decide) (by decide) (Nat.le_of_ble_eq_true rfl) (c_isRun (n : Int) (b : Int) (by omega)) k9) ?_
  refine qy2n (fun _ _ => z_ifeqB 22 d_X11_fires_5 (by decide)) (fun hc1 => absurd hc1 (by omega)) (fun hc1 => ?_)
  refine qy (fun _ _ k9 => z_aload_n d_X11_fires_8 rfl rfl k9) ?_
  refine qy (fun _ _ k9 => z_iload_n d_X11_fires_9 rfl rfl k9) ?_
  refine qy (fun _ _ k9 => z_iload_n d_X11_fires_10 rfl rfl k9) ?_
  refine qy (fun _ _ k9 => z_iconst d_X11_fires_11 (by decide) k9) ?_
  obtain ⟨F1, G1, ⟨hv1, tt1, ch1, hw1, he1⟩, hx1⟩ := c_firesOf (h := h) (F := F) (G := G) (n := n) (b := b) (rg := 0) (T := T) hn (by omega) (by decide) hT hB
  refine qy (fun _ _ k9 => z_cv (M1 := M_X11_firesOf) d_X11_fires_12 lv_X11_284 k_X11_firesOf [qI (n : Int), qI (b : Int), qI 0] rfl rfl (xput_ob (c := (F 2)) xi_2 rfl (xsh_11 xo_2)) ⟨_, _, rfl⟩ (Nat.le_of_ble_eq_true rfl) (by decide) (by decide) (Nat.le_of_ble_eq_true rfl) hx1 k9) ?_
  refine qy (fun _ _ k9 => z_iload_n d_X11_fires_15 rfl rfl k9) ?_
  refine qy (fun _ _ k9 => z_cv (M1 := M_X7_outcome) d_X11_fires_16 lv_X11_288 k_X7_outcome [qI 1] rfl rfl (xput_ob (c := (F1 173)) xi_173 rfl (xsh_7 xo_173)) ⟨_, _, rfl⟩ (Nat.le_of_ble_eq_true rfl) (by decide) (by decide) (Nat.le_of_ble_eq_true rfl) (c_rnOut1 (by decide) xo_173 (by omega) hw1) k9) ?_
  refine qy (fun _ _ k9 => z_goto 23 d_X11_fires_19 (by decide) k9) ?_
  exact y_ret (hQ F1 G1 hv1) (z_iret d_X11_fires_23 rfl rfl rfl)
set_option maxRecDepth 20000 in
set_option maxHeartbeats 4000000 in
theorem xc_fires2 {h : qH} {F G : Nat → Nat → Int} {n b : Nat} {T : Nat → Int} (hn : 1 ≤ n ∧ n ≤ 32) (hbn : b < n) (hT : ∀ c, c < 648 → G 6 c = T c) (hB : ∀ c, c < 648 → 0 ≤ T c ∧ T c ≤ 7) : ∃ F' G', (xfr 173 176 F G F' G') ∧ qEx M_X11_fires 0 [qR 2, qI (n : Int), qI (b : Int), qI 2] [] (xput h F G) (some (qI (fst (fun k => ¬ (rnE T n 0 (b : Int)) k = 7) n))) (xput h F' G') := by
  refine x_in (fun Q hQ => ?_)
  refine qy (fun _ _ k9 => z_iload_n d_X11_fires_0 rfl rfl k9) ?_
  refine qy (fun _ _ k9 => z_iload_n d_X11_fires_1 rfl rfl k9) ?_
  refine qy (fun _ _ k9 => z_cs (M1 := M_X11_isRun) d_X11_fires_2 ls_X11_280 k_X11_isRun [qI (n : Int), qI (b : Int)] rfl rfl (Nat.le_of_ble_eq_true rfl) (by decide) (by decide) (Nat.le_of_ble_eq_true rfl) (c_isRun (n : Int) (b : Int) (by omega)) k9) ?_
  refine qy2n (fun _ _ => z_ifeqB 22 d_X11_fires_5 (by decide)) (fun hc1 => absurd hc1 (by omega)) (fun hc1 => ?_)
  refine qy (fun _ _ k9 => z_aload_n d_X11_fires_8 rfl rfl k9) ?_
  refine qy (fun _ _ k9 => z_iload_n d_X11_fires_9 rfl rfl k9) ?_
  refine qy (fun _ _ k9 => z_iload_n d_X11_fires_10 rfl rfl k9) ?_
  refine qy (fun _ _ k9 => z_iconst d_X11_fires_11 (by decide) k9) ?_
  obtain ⟨F1, G1, ⟨hv1, tt1, ch1, hw1, he1⟩, hx1⟩ := c_firesOf (h := h) (F := F) (G := G) (n := n) (b := b) (rg := 0) (T := T) hn (by omega) (by decide) hT hB
  refine qy (fun _ _ k9 => z_cv (M1 := M_X11_firesOf) d_X11_fires_12 lv_X11_284 k_X11_firesOf [qI (n : Int), qI (b : Int), qI 0] rfl rfl (xput_ob (c := (F 2)) xi_2 rfl (xsh_11 xo_2)) ⟨_, _, rfl⟩ (Nat.le_of_ble_eq_true rfl) (by decide) (by decide) (Nat.le_of_ble_eq_true rfl) hx1 k9) ?_
  refine qy (fun _ _ k9 => z_iload_n d_X11_fires_15 rfl rfl k9) ?_
  refine qy (fun _ _ k9 => z_cv (M1 := M_X7_outcome) d_X11_fires_16 lv_X11_288 k_X7_outcome [qI 2] rfl rfl (xput_ob (c := (F1 173)) xi_173 rfl (xsh_7 xo_173)) ⟨_, _, rfl⟩ (Nat.le_of_ble_eq_true rfl) (by decide) (by decide) (Nat.le_of_ble_eq_true rfl) (c_rnOut2 (by decide) xo_173 (by omega) hw1) k9) ?_
  refine qy (fun _ _ k9 => z_goto 23 d_X11_fires_19 (by decide) k9) ?_
  exact y_ret (hQ F1 G1 hv1) (z_iret d_X11_fires_23 rfl rfl rfl)
set_option maxRecDepth 20000 in
set_option maxHeartbeats 4000000 in
theorem xc_two {h : qH} {F G : Nat → Nat → Int} {to : Nat} (d : Int) {T : Nat → Int} (ht : 2 ≤ to ∧ to ≤ 24) (hd : 0 ≤ d ∧ d ≤ 40) (hT : ∀ c, c < 648 → G 6 c = T c) (hB : ∀ c, c < 648 → 0 ≤ T c ∧ T c ≤ 7) : ∃ F' G', (xfr 173 176 F G F' G') ∧ qEx M_X11_two 0 [qR 2, qI (to : Int), qI d, qU] [] (xput h F G) (some (qI (tbR T to d))) (xput h F' G') := by
  refine x_in (fun Q hQ => ?_)
  refine qy (fun _ _ k9 => z_iload_n d_X11_two_0 rfl rfl k9) ?_
  refine qy (fun _ _ k9 => z_iconst d_X11_two_1 (by decide) k9) ?_
  refine qy (fun _ _ k9 => z_bipush d_X11_two_2 (by decide) k9) ?_
  refine qy (fun _ _ k9 => z_cs (M1 := M_X11_isWithin) d_X11_two_4 ls_X11_62 k_X11_isWithin [qI (to : Int), qI 2, qI 24] rfl rfl (Nat.le_of_ble_eq_true rfl) (by decide) (by decide) (Nat.le_of_ble_eq_true rfl) (c_isWithin (to : Int) 2 24) k9) ?_
  refine qy2n (fun _ _ => z_ifeqB 20 d_X11_two_7 (by decide)) (fun hc1 => absurd hc1 (by omega)) (fun hc1 => ?_)
  refine qy (fun _ _ k9 => z_iload_n d_X11_two_10 rfl rfl k9) ?_
  refine qy (fun _ _ k9 => z_iconst d_X11_two_11 (by decide) k9) ?_
  refine qy (fun _ _ k9 => z_bipush d_X11_two_12 (by decide) k9) ?_
  refine qy (fun _ _ k9 => z_cs (M1 := M_X11_isWithin) d_X11_two_14 ls_X11_62 k_X11_isWithin [qI d, qI 0, qI 40] rfl rfl (Nat.le_of_ble_eq_true rfl) (by decide) (by decide) (Nat.le_of_ble_eq_true rfl) (c_isWithin d 0 40) k9) ?_
  refine qy2 (fun _ _ => z_ifneB 22 d_X11_two_17 (by decide)) (fun hc2 => ?_) (fun hc2 => absurd hc2 (by omega))
  refine qy (fun _ _ k9 => z_iconst d_X11_two_22 (by decide) k9) ?_
  refine qy (fun _ _ k9 => z_istore_n (ls' := [qR 2, qI (to : Int), qI d, qI 2]) d_X11_two_23 rfl (by decide) rfl k9) ?_
  refine qy (fun _ _ k9 => z_eq (qc rfl (qc rfl (qc rfl (qc (qi (rfl)) rfl)))) rfl rfl k9) (y_wh3 (fun (i : Nat) (Fa : Nat → Nat → Int) (Ga : Nat → Nat → Int) => to - i) (fun (i : Nat) (Fa : Nat → Nat → Int) (Ga : Nat → Nat → Int) => [qR 2, qI (to : Int), qI d, qI ((i + 2 : Nat) : Int)]) (fun (i : Nat) (Fa : Nat → Nat → Int) (Ga : Nat → Nat → Int) => (xput h Fa Ga)) (fun (i : Nat) (Fa : Nat → Nat → Int) (Ga : Nat → Nat → Int) => i ≤ to - 1 ∧ xfr 173 176 F G Fa Ga ∧ ∀ k, k < i → twG T (k + 2) d) 0 F G (⟨by omega, xfr_rf _ _ _ _, fun k hk => absurd hk (by omega)⟩) (fun i Fa Ga hpp kk => ?_))
  obtain ⟨hi, hfr, hp⟩ := hpp
  show qEy M_X11_two 24 [qR 2, qI (to : Int), qI d, qI ((i + 2 : Nat) : Int)] [] (xput h Fa Ga) Q
  refine qy (fun _ _ k9 => z_iload_n d_X11_two_24 rfl rfl k9) ?_
  refine qy (fun _ _ k9 => z_iload_n d_X11_two_25 rfl rfl k9) ?_
  refine qy2 (fun _ _ => z_icmp_gt 46 d_X11_two_26 (by decide)) (fun q26 => ?_) (fun q26 => ?_)
  · refine qy (fun _ _ k9 => z_iconst d_X11_two_46 (by decide) k9) ?_
    exact y_ret (hQ Fa Ga hfr) (z_iret d_X11_two_47 rfl (qsi (by unfold tbR; rw [tb_n (fun k hk => hp k (by omega)), qif_t rfl])) rfl)
  · refine qy (fun _ _ k9 => z_aload_n d_X11_two_29 rfl rfl k9) ?_
    refine qy (fun _ _ k9 => z_iload_n d_X11_two_30 rfl rfl k9) ?_
    refine qy (fun _ _ k9 => z_iload_n d_X11_two_31 rfl rfl k9) ?_
    obtain ⟨F1, G1, hv1, hx1⟩ := c_goodTwo (h := h) (F := Fa) (G := Ga) (n := i + 2) d (T := T) (by omega) (by omega) (fun c hc => by rw [xfr_G hfr (by decide)]; exact hT c hc) hB
    refine qy (fun _ _ k9 => z_cv (M1 := M_X11_isGoodWithTwo) d_X11_two_32 lv_X11_333 k_X11_isGoodWithTwo [qI ((i + 2 : Nat) : Int), qI d] rfl rfl (xput_ob (c := (Fa 2)) xi_2 rfl (xsh_11 xo_2)) ⟨_, _, rfl⟩ (Nat.le_of_ble_eq_true rfl) (by decide) (by decide) (Nat.le_of_ble_eq_true rfl) hx1 k9) ?_
    refine qy2 (fun _ _ => z_ifneB 40 d_X11_two_35 (by decide)) (fun q35 => ?_) (fun q35 => ?_)
    · refine qy (fun _ _ k9 => z_iinc (ls' := [qR 2, qI (to : Int), qI d, qI (((i + 2 : Nat) : Int) + 1)]) d_X11_two_40 rfl (by decide) (by omega) rfl k9) ?_
      refine qy (fun _ _ k9 => z_goto 24 d_X11_two_43 (by decide) k9) ?_
      exact qy (fun _ _ k9 => z_eq (qc rfl (qc rfl (qc rfl (qc (qi (by omega)) rfl)))) rfl rfl k9) (kk (i + 1) F1 G1 (⟨by omega, xfr_tr hfr hv1, q_lts hp q35⟩) (by omega))
    · refine qy (fun _ _ k9 => z_iload_n d_X11_two_38 rfl rfl k9) ?_
      exact y_ret (hQ F1 G1 (xfr_tr hfr hv1)) (z_iret d_X11_two_39 rfl (qsi (by unfold tbR; rw [tb_f (by omega) hp q35, qif_f (by omega)]; omega)) rfl)
