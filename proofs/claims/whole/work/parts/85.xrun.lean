/-! ===== CONTRACTS: a run in thought ===== -/
/-- the run at u: n keepers, ring or not, tree or not, who is deaf, behind t breaths, lit, changed, the minds -/
def rnS (F G : Nat → Nat → Int) (u n rg : Nat) (tr df : Int) (t : Nat) (lt ch : Int) (M : Nat → Int) : Prop := (F u 3 = (n : Int) ∧ F u 4 = (rg : Int) ∧ F u 5 = tr ∧ F u 6 = df) ∧ (F u 7 = 3 * (n : Int) + 20 ∧ F u 8 = (t : Int) ∧ F u 9 = lt ∧ F u 10 = ch) ∧ ∀ k, k < n → G (u + 1) k = M k
theorem rnS_cg {F G F' G' : Nat → Nat → Int} {u n rg : Nat} {tr df : Int} {t : Nat} {lt ch : Int} {M : Nat → Int} (h : rnS F G u n rg tr df t lt ch M) (e1 : F' u = F u) (e2 : G' (u + 1) = G (u + 1)) : rnS F' G' u n rg tr df t lt ch M := by
  unfold rnS
  rw [e1, e2]
  exact h
theorem rnS_M {F G : Nat → Nat → Int} {u n rg : Nat} {tr df : Int} {t : Nat} {lt lt' ch ch' : Int} {M M' : Nat → Int} (h : rnS F G u n rg tr df t lt ch M) (e : ∀ k, k < n → M k = M' k) (e1 : lt = lt') (e2 : ch = ch') : rnS F G u n rg tr df t lt' ch' M' := by
  subst e1; subst e2
  exact ⟨h.1, h.2.1, fun k hk => (h.2.2 k hk).trans (e k hk)⟩
set_option maxRecDepth 20000 in
set_option maxHeartbeats 4000000 in
theorem c_rnStart0 {h : qH} {F G : Nat → Nat → Int} {u : Nat} (n b rg : Nat) (hu2 : 2 ≤ u) (hu : xk u = 7) (hn : n ≤ 32) (hb : b < 32) (hg : rg ≤ 1) : qEx M_X7_start 0 [qR u, qI (n : Int), qI (b : Int), qI (rg : Int)] [] (xput h F G) none (xput h (gup F u (qup (qup (qup (qup (qup (qup (qup (qup (F u) 3 (n : Int)) 4 (rg : Int)) 5 0) 6 (-1)) 7 (3 * (n : Int) + 20)) 8 0) 9 0) 10 0)) (gup G (u + 1) (qup (qmx 32 (fun _ => 0) (G (u + 1))) b 1))) := by
  refine q_gen (fun r hr er eh => ?_)
  refine z_aload_n d_X7_start_0 rfl rfl ?_
  refine z_iload_n d_X7_start_1 rfl rfl ?_
  refine z_putf (fs' := [qR (u + 1), qR (u + 2), qR (u + 3), qI (n : Int), qI ((F u) 4), qI ((F u) 5), qI ((F u) 6), qI ((F u) 7), qI ((F u) 8), qI ((F u) 9), qI ((F u) 10)]) d_X7_start_2 fp_X7_21 (xput_ob (c := (F u)) (rux_in hu2 hu) rfl (xsh_7 hu)) (fun _ => rfl) (fun _ => rfl) (Nat.le_of_ble_eq_true rfl) rfl ?_
  refine z_eq rfl rfl (xput_sf (c := (qup (F u) 3 (n : Int))) (rux_in hu2 hu) (xsh_7 hu)) ?_
  refine z_aload_n d_X7_start_5 rfl rfl ?_
  refine z_iload_n d_X7_start_6 rfl rfl ?_
  refine z_putf (fs' := [qR (u + 1), qR (u + 2), qR (u + 3), qI (n : Int), qI (rg : Int), qI ((F u) 5), qI ((F u) 6), qI ((F u) 7), qI ((F u) 8), qI ((F u) 9), qI ((F u) 10)]) d_X7_start_7 fp_X7_25 (xput_ob (c := (qup (F u) 3 (n : Int))) (rux_in hu2 hu) (gup_eq _ _) (xsh_7 hu)) (fun _ => q_nz (by omega)) (fun _ => q_fz (by omega)) (Nat.le_of_ble_eq_true rfl) rfl ?_
  refine z_eq rfl rfl ((xput_sf (c := (qup (qup (F u) 3 (n : Int)) 4 (rg : Int))) (rux_in hu2 hu) (xsh_7 hu)).trans (xput_cg (gup_gup _ _ _) rfl)) ?_
  refine z_aload_n d_X7_start_10 rfl rfl ?_
  refine z_iconst d_X7_start_11 (by decide) ?_
  refine z_putf (fs' := [qR (u + 1), qR (u + 2), qR (u + 3), qI (n : Int), qI (rg : Int), qI 0, qI ((F u) 6), qI ((F u) 7), qI ((F u) 8), qI ((F u) 9), qI ((F u) 10)]) d_X7_start_12 fp_X7_29 (xput_ob (c := (qup (qup (F u) 3 (n : Int)) 4 (rg : Int))) (rux_in hu2 hu) (gup_eq _ _) (xsh_7 hu)) (fun _ => rfl) (fun _ => rfl) (Nat.le_of_ble_eq_true rfl) rfl ?_
  refine z_eq rfl rfl ((xput_sf (c := (qup (qup (qup (F u) 3 (n : Int)) 4 (rg : Int)) 5 0)) (rux_in hu2 hu) (xsh_7 hu)).trans (xput_cg (gup_gup _ _ _) rfl)) ?_
  refine z_aload_n d_X7_start_15 rfl rfl ?_
  refine z_iconst d_X7_start_16 (by decide) ?_
  refine z_putf (fs' := [qR (u + 1), qR (u + 2), qR (u + 3), qI (n : Int), qI (rg : Int), qI 0, qI (-1), qI ((F u) 7), qI ((F u) 8), qI ((F u) 9), qI ((F u) 10)]) d_X7_start_17 fp_X7_32 (xput_ob (c := (qup (qup (qup (F u) 3 (n : Int)) 4 (rg : Int)) 5 0)) (rux_in hu2 hu) (gup_eq _ _) (xsh_7 hu)) (fun _ => rfl) (fun _ => rfl) (Nat.le_of_ble_eq_true rfl) rfl ?_
  refine z_eq rfl rfl ((xput_sf (c := (qup (qup (qup (qup (F u) 3 (n : Int)) 4 (rg : Int)) 5 0) 6 (-1))) (rux_in hu2 hu) (xsh_7 hu)).trans (xput_cg (gup_gup _ _ _) rfl)) ?_
  refine z_aload_n d_X7_start_20 rfl rfl ?_
  refine z_iconst d_X7_start_21 (by decide) ?_
  refine z_iload_n d_X7_start_22 rfl rfl ?_
  refine z_imul d_X7_start_23 (by omega) ?_
  refine z_bipush d_X7_start_24 (by decide) ?_
  refine z_iadd d_X7_start_26 (by omega) ?_
  refine z_putf (fs' := [qR (u + 1), qR (u + 2), qR (u + 3), qI (n : Int), qI (rg : Int), qI 0, qI (-1), qI ((3 * (n : Int)) + 20), qI ((F u) 8), qI ((F u) 9), qI ((F u) 10)]) d_X7_start_27 fp_X7_35 (xput_ob (c := (qup (qup (qup (qup (F u) 3 (n : Int)) 4 (rg : Int)) 5 0) 6 (-1))) (rux_in hu2 hu) (gup_eq _ _) (xsh_7 hu)) (fun _ => rfl) (fun _ => rfl) (Nat.le_of_ble_eq_true rfl) rfl ?_
  refine z_eq rfl rfl ((xput_sf (c := (qup (qup (qup (qup (qup (F u) 3 (n : Int)) 4 (rg : Int)) 5 0) 6 (-1)) 7 ((3 * (n : Int)) + 20))) (rux_in hu2 hu) (xsh_7 hu)).trans (xput_cg (gup_gup _ _ _) rfl)) ?_
  refine z_aload_n d_X7_start_30 rfl rfl ?_
  refine z_iconst d_X7_start_31 (by decide) ?_
  refine z_putf (fs' := [qR (u + 1), qR (u + 2), qR (u + 3), qI (n : Int), qI (rg : Int), qI 0, qI (-1), qI ((3 * (n : Int)) + 20), qI 0, qI ((F u) 9), qI ((F u) 10)]) d_X7_start_32 fp_X7_38 (xput_ob (c := (qup (qup (qup (qup (qup (F u) 3 (n : Int)) 4 (rg : Int)) 5 0) 6 (-1)) 7 ((3 * (n : Int)) + 20))) (rux_in hu2 hu) (gup_eq _ _) (xsh_7 hu)) (fun _ => rfl) (fun _ => rfl) (Nat.le_of_ble_eq_true rfl) rfl ?_
  refine z_eq rfl rfl ((xput_sf (c := (qup (qup (qup (qup (qup (qup (F u) 3 (n : Int)) 4 (rg : Int)) 5 0) 6 (-1)) 7 ((3 * (n : Int)) + 20)) 8 0)) (rux_in hu2 hu) (xsh_7 hu)).trans (xput_cg (gup_gup _ _ _) rfl)) ?_
  refine z_aload_n d_X7_start_35 rfl rfl ?_
  refine z_iconst d_X7_start_36 (by decide) ?_
  refine z_putf (fs' := [qR (u + 1), qR (u + 2), qR (u + 3), qI (n : Int), qI (rg : Int), qI 0, qI (-1), qI ((3 * (n : Int)) + 20), qI 0, qI 0, qI ((F u) 10)]) d_X7_start_37 fp_X7_41 (xput_ob (c := (qup (qup (qup (qup (qup (qup (F u) 3 (n : Int)) 4 (rg : Int)) 5 0) 6 (-1)) 7 ((3 * (n : Int)) + 20)) 8 0)) (rux_in hu2 hu) (gup_eq _ _) (xsh_7 hu)) (fun _ => rfl) (fun _ => rfl) (Nat.le_of_ble_eq_true rfl) rfl ?_
  refine z_eq rfl rfl ((xput_sf (c := (qup (qup (qup (qup (qup (qup (qup (F u) 3 (n : Int)) 4 (rg : Int)) 5 0) 6 (-1)) 7 ((3 * (n : Int)) + 20)) 8 0) 9 0)) (rux_in hu2 hu) (xsh_7 hu)).trans (xput_cg (gup_gup _ _ _) rfl)) ?_
  refine z_aload_n d_X7_start_40 rfl rfl ?_
  refine z_iconst d_X7_start_41 (by decide) ?_
  refine z_putf (fs' := [qR (u + 1), qR (u + 2), qR (u + 3), qI (n : Int), qI (rg : Int), qI 0, qI (-1), qI ((3 * (n : Int)) + 20), qI 0, qI 0, qI 0]) d_X7_start_42 fp_X7_44 (xput_ob (c := (qup (qup (qup (qup (qup (qup (qup (F u) 3 (n : Int)) 4 (rg : Int)) 5 0) 6 (-1)) 7 ((3 * (n : Int)) + 20)) 8 0) 9 0)) (rux_in hu2 hu) (gup_eq _ _) (xsh_7 hu)) (fun _ => rfl) (fun _ => rfl) (Nat.le_of_ble_eq_true rfl) rfl ?_
  refine z_eq rfl rfl ((xput_sf (c := (qup (qup (qup (qup (qup (qup (qup (qup (F u) 3 (n : Int)) 4 (rg : Int)) 5 0) 6 (-1)) 7 ((3 * (n : Int)) + 20)) 8 0) 9 0) 10 0)) (rux_in hu2 hu) (xsh_7 hu)).trans (xput_cg (gup_gup _ _ _) rfl)) ?_
  refine z_aload_n d_X7_start_45 rfl rfl ?_
  refine z_getf (v := qR (u + 1)) d_X7_start_46 fl_X7_9 (xput_ob (c := (qup (qup (qup (qup (qup (qup (qup (qup (F u) 3 (n : Int)) 4 (rg : Int)) 5 0) 6 (-1)) 7 ((3 * (n : Int)) + 20)) 8 0) 9 0) 10 0)) (rux_in hu2 hu) (gup_eq _ _) (xsh_7 hu)) rfl ?_
  refine z_iconst d_X7_start_49 (by decide) ?_
  refine z_cs0 (M1 := M_J7_fill_53178) d_X7_start_50 ls_X7_47 k_J7_fill_53178 [qR (u + 1), qI 0] rfl rfl (Nat.le_of_ble_eq_true rfl) (by decide) (by decide) (Nat.le_of_ble_eq_true rfl) (c_fill (xput_ar (g := (G (u + 1))) (rux_1 hu2 hu) rfl) (by omega) (by decide)) ?_
  refine z_eq rfl rfl (xput_sa (rux_1 hu2 hu)) ?_
  refine z_aload_n d_X7_start_53 rfl rfl ?_
  refine z_getf (v := qR (u + 1)) d_X7_start_54 fl_X7_9 (xput_ob (c := (qup (qup (qup (qup (qup (qup (qup (qup (F u) 3 (n : Int)) 4 (rg : Int)) 5 0) 6 (-1)) 7 ((3 * (n : Int)) + 20)) 8 0) 9 0) 10 0)) (rux_in hu2 hu) (gup_eq _ _) (xsh_7 hu)) rfl ?_
  refine z_iload_n d_X7_start_57 rfl rfl ?_
  refine z_iconst d_X7_start_58 (by decide) ?_
  refine z_ist b d_X7_start_59 (xput_ar (g := (qmx 32 (fun _ => 0) (G (u + 1)))) (rux_1 hu2 hu) (gup_eq _ _)) (by omega) rfl (by omega) ?_
  refine z_eq rfl rfl ((xput_sa (rux_1 hu2 hu)).trans (xput_cg rfl (gup_gup _ _ _))) ?_
  exact z_vret d_X7_start_60 rfl er eh
theorem c_rnStart {h : qH} {F G : Nat → Nat → Int} {u : Nat} (n b rg : Nat) (hu2 : 2 ≤ u) (hu : xk u = 7) (hn : n ≤ 32) (hb : b < 32) (hg : rg ≤ 1) : ∃ F' G', (xfr u (u + 3) F G F' G' ∧ rnS F' G' u n rg 0 (-1) 0 0 0 (fun k => qb ((k : Int) = (b : Int))) ∧ F' u = qup (qup (qup (qup (qup (qup (qup (qup (F u) 3 n) 4 rg) 5 0) 6 (-1)) 7 (3 * (n : Int) + 20)) 8 0) 9 0) 10 0 ∧ ∀ a, a ≠ u + 1 → G' a = G a) ∧ qEx M_X7_start 0 [qR u, qI n, qI b, qI rg] [] (xput h F G) none (xput h F' G') := by
  refine ⟨_, _, ⟨?_, ⟨?_, ?_, fun k hk => ?_⟩, gup_eq _ _, fun a ha => gup_ne ha⟩, c_rnStart0 n b rg hu2 hu hn hb hg⟩
  · exact xfr_f (xfr_g (xfr_rf _ _ _ _) (by omega) (by omega)) (by omega) (by omega)
  · rw [gup_eq]; exact ⟨rfl, rfl, rfl, rfl⟩
  · rw [gup_eq]; exact ⟨rfl, rfl, rfl, rfl⟩
  · rw [gup_eq]
    by_cases e : k = b
    · subst e
      rw [qup_eq]; exact (qb_t rfl).symm
    · rw [qup_ne e, qmx_lt (by omega)]; exact (qb_f (by omega)).symm
set_option maxRecDepth 20000 in
set_option maxHeartbeats 4000000 in
theorem c_rnRow0 {h : qH} {F G : Nat → Nat → Int} {u d n : Nat} (hu2 : 2 ≤ u) (hu : xk u = 7) (hs : xAr d 0 648) (hd : d < u ∨ u + 3 < d) (hn : 1 ≤ n ∧ n ≤ 32) (h3 : F u 3 = (n : Int)) (h4 : F u 4 = 0) (hM : ∀ k, k < n → 0 ≤ (G (u + 1)) k ∧ (G (u + 1)) k ≤ 7) : qEx M_X7_breatheRow 0 [qR u, qR d, qU, qU, qU, qU, qU, qU, qU, qU] [] (xput h F G) none (xput h (gup F u (qup (qup (F u) 9 (cnt (fun k => (stp (G d) n 0 (F u 6) (G (u + 1))) k = 7) n)) 10 (cnt (fun k => (stp (G d) n 0 (F u 6) (G (u + 1))) k ≠ (G (u + 1)) k) n))) (gup G (u + 1) (qmx n (stp (G d) n 0 (F u 6) (G (u + 1))) (G (u + 1))))) := by
  refine q_gen (fun r hr er eh => ?_)
  refine z_aload_n d_X7_breatheRow_0 rfl rfl ?_
  refine z_getf (v := qI ((F u) 4)) d_X7_breatheRow_1 fl_X7_25 (xput_ob (c := (F u)) (rux_in hu2 hu) rfl (xsh_7 hu)) rfl ?_
  refine z_eq rfl (qc (qi h4) rfl) rfl ?_
  refine z_if_eq 21 d_X7_breatheRow_4 (by decide) (fun hc1 => ?_) (fun hc1 => absurd (by decide) hc1)
  refine z_bipush d_X7_breatheRow_21 (by decide) ?_
  refine z_istore_n (ls' := [qR u, qR d, qI 8, qU, qU, qU, qU, qU, qU, qU]) d_X7_breatheRow_23 rfl (by decide) rfl ?_
  refine z_aload_n d_X7_breatheRow_24 rfl rfl ?_
  refine z_getf (v := qI ((F u) 4)) d_X7_breatheRow_25 fl_X7_25 (xput_ob (c := (F u)) (rux_in hu2 hu) rfl (xsh_7 hu)) rfl ?_
  refine z_eq rfl (qc (qi h4) rfl) rfl ?_
  refine z_if_eq 40 d_X7_breatheRow_28 (by decide) (fun hc2 => ?_) (fun hc2 => absurd (by decide) hc2)
  refine z_bipush d_X7_breatheRow_40 (by decide) ?_
  refine z_istore_n (ls' := [qR u, qR d, qI 8, qI 8, qU, qU, qU, qU, qU, qU]) d_X7_breatheRow_42 rfl (by decide) rfl ?_
  refine z_iconst d_X7_breatheRow_43 (by decide) ?_
  refine z_istore (ls' := [qR u, qR d, qI 8, qI 8, qI 0, qU, qU, qU, qU, qU]) d_X7_breatheRow_44 (by decide) rfl ?_
  refine z_iconst d_X7_breatheRow_46 (by decide) ?_
  refine z_istore (ls' := [qR u, qR d, qI 8, qI 8, qI 0, qI 0, qU, qU, qU, qU]) d_X7_breatheRow_47 (by decide) rfl ?_
  refine z_iconst d_X7_breatheRow_49 (by decide) ?_
  refine z_istore (ls' := [qR u, qR d, qI 8, qI 8, qI 0, qI 0, qI 0, qU, qU, qU]) d_X7_breatheRow_50 (by decide) rfl ?_
  refine z_eq (qc rfl (qc rfl (qc (qi (by unfold stL; rw [qif_t (by decide)]; rfl)) (qc rfl (qc (qi (rfl)) (qc (qi (rfl)) (qc (qi (rfl)) (qc rfl (qc rfl (qc rfl rfl)))))))))) rfl (xput_cg rfl (by rw [qmx_0, gup_self rfl])) (z_for n (fun i => [qR u, qR d, qI (stL n 0 (G (u + 1)) i), qI 8, qI (cnt (fun k => (stp (G d) n 0 (F u 6) (G (u + 1))) k = 7) i), qI (cnt (fun k => (stp (G d) n 0 (F u 6) (G (u + 1))) k ≠ (G (u + 1)) k) i), qI (i : Int), qU, qU, qU]) (fun i => (xput h F (gup G (u + 1) (qmx i (stp (G d) n 0 (F u 6) (G (u + 1))) (G (u + 1)))))) (fun i => True) trivial (fun i hii hp kki => ?_) (fun hp => ?_))
  · show qEx M_X7_breatheRow 52 [qR u, qR d, qI (stL n 0 (G (u + 1)) i), qI 8, qI (cnt (fun k => (stp (G d) n 0 (F u 6) (G (u + 1))) k = 7) i), qI (cnt (fun k => (stp (G d) n 0 (F u 6) (G (u + 1))) k ≠ (G (u + 1)) k) i), qI (i : Int), qU, qU, qU] [] (xput h F (gup G (u + 1) (qmx i (stp (G d) n 0 (F u 6) (G (u + 1))) (G (u + 1))))) r hr
    have e1 := stL_bd (rg := 0) hii hM
    have e2 := stR_bd (rg := 0) hii hM
    have e3 := stC_bd (rg := 0) hii hM
    have e4 := hM i hii
    have c1 := cnt_bd (fun k => (stp (G d) n 0 (F u 6) (G (u + 1))) k = 7) i
    have c2 := cnt_bd (fun k => (stp (G d) n 0 (F u 6) (G (u + 1))) k ≠ (G (u + 1)) k) i
    have b1 := qb_bd ((stp (G d) n 0 (F u 6) (G (u + 1))) i = 7)
    have b2 := qb_bd ((stp (G d) n 0 (F u 6) (G (u + 1))) i ≠ (G (u + 1)) i)
    refine z_iload d_X7_breatheRow_52 rfl ?_
    refine z_aload_n d_X7_breatheRow_54 rfl rfl ?_
    refine z_getf (v := qI ((F u) 3)) d_X7_breatheRow_55 fl_X7_21 (xput_ob (c := (F u)) (rux_in hu2 hu) rfl (xsh_7 hu)) rfl ?_
    refine z_eq rfl (qc (qi h3) rfl) rfl ?_
    refine z_icmp_ge 179 d_X7_breatheRow_58 (by decide) (fun hc3 => absurd hc3 (by omega)) (fun hc3 => ?_)
    refine z_aload_n d_X7_breatheRow_61 rfl rfl ?_
    refine z_getf (v := qR (u + 1)) d_X7_breatheRow_62 fl_X7_9 (xput_ob (c := (F u)) (rux_in hu2 hu) rfl (xsh_7 hu)) rfl ?_
    refine z_iload d_X7_breatheRow_65 rfl ?_
    refine z_ild i d_X7_breatheRow_67 (xput_ar (g := (qmx i (stp (G d) n 0 (F u 6) (G (u + 1))) (G (u + 1)))) (rux_1 hu2 hu) (gup_eq _ _)) rfl (by omega) ?_
    refine z_eq rfl (qc (qi (show ((qmx i (stp (G d) n 0 (F u 6) (G (u + 1))) (G (u + 1))) i) = ((G (u + 1)) i) from qmx_ge (by omega))) rfl) rfl ?_
    refine z_istore (ls' := [qR u, qR d, qI (stL n 0 (G (u + 1)) i), qI 8, qI (cnt (fun k => (stp (G d) n 0 (F u 6) (G (u + 1))) k = 7) i), qI (cnt (fun k => (stp (G d) n 0 (F u 6) (G (u + 1))) k ≠ (G (u + 1)) k) i), qI (i : Int), qI ((G (u + 1)) i), qU, qU]) d_X7_breatheRow_68 (by decide) rfl ?_
    refine z_iload d_X7_breatheRow_70 rfl ?_
    refine z_iconst d_X7_breatheRow_72 (by decide) ?_
    refine z_iadd d_X7_breatheRow_73 (by omega) ?_
    refine z_aload_n d_X7_breatheRow_74 rfl rfl ?_
    refine z_getf (v := qI ((F u) 3)) d_X7_breatheRow_75 fl_X7_21 (xput_ob (c := (F u)) (rux_in hu2 hu) rfl (xsh_7 hu)) rfl ?_
    refine z_eq rfl (qc (qi h3) rfl) rfl ?_
    suffices kJ78 : qEx M_X7_breatheRow 94 [qR u, qR d, qI (stL n 0 (G (u + 1)) i), qI 8, qI (cnt (fun k => (stp (G d) n 0 (F u 6) (G (u + 1))) k = 7) i), qI (cnt (fun k => (stp (G d) n 0 (F u 6) (G (u + 1))) k ≠ (G (u + 1)) k) i), qI (i : Int), qI ((G (u + 1)) i), qU, qU] [qI (qif (((i : Int) + 1) ≥ (n : Int)) 8 ((G (u + 1)) (i + 1)))] (xput h F (gup G (u + 1) (qmx i (stp (G d) n 0 (F u 6) (G (u + 1))) (G (u + 1))))) r hr by
      refine z_icmp_ge 93 d_X7_breatheRow_78 (by decide) (fun hc4 => ?_) (fun hc4 => ?_)
      · refine z_iload_n d_X7_breatheRow_93 rfl rfl ?_
        exact z_eq rfl (qc (qi (qif_t hc4).symm) rfl) rfl kJ78
      · refine z_aload_n d_X7_breatheRow_81 rfl rfl ?_
        refine z_getf (v := qR (u + 1)) d_X7_breatheRow_82 fl_X7_9 (xput_ob (c := (F u)) (rux_in hu2 hu) rfl (xsh_7 hu)) rfl ?_
        refine z_iload d_X7_breatheRow_85 rfl ?_
        refine z_iconst d_X7_breatheRow_87 (by decide) ?_
        refine z_iadd d_X7_breatheRow_88 (by omega) ?_
        refine z_ild (i + 1) d_X7_breatheRow_89 (xput_ar (g := (qmx i (stp (G d) n 0 (F u 6) (G (u + 1))) (G (u + 1)))) (rux_1 hu2 hu) (gup_eq _ _)) rfl (by omega) ?_
        refine z_eq rfl (qc (qi (show ((qmx i (stp (G d) n 0 (F u 6) (G (u + 1))) (G (u + 1))) (i + 1)) = ((G (u + 1)) (i + 1)) from qmx_ge (by omega))) rfl) rfl ?_
        refine z_goto 94 d_X7_breatheRow_90 (by decide) ?_
        exact z_eq rfl (qc (qi (qif_f hc4).symm) rfl) rfl kJ78
    refine z_istore (ls' := [qR u, qR d, qI (stL n 0 (G (u + 1)) i), qI 8, qI (cnt (fun k => (stp (G d) n 0 (F u 6) (G (u + 1))) k = 7) i), qI (cnt (fun k => (stp (G d) n 0 (F u 6) (G (u + 1))) k ≠ (G (u + 1)) k) i), qI (i : Int), qI ((G (u + 1)) i), qI (qif (((i : Int) + 1) ≥ (n : Int)) 8 ((G (u + 1)) (i + 1))), qU]) d_X7_breatheRow_94 (by decide) rfl ?_
    refine z_eq (qc rfl (qc rfl (qc rfl (qc rfl (qc rfl (qc rfl (qc rfl (qc rfl (qc (qi (show (qif (((i : Int) + 1) ≥ (n : Int)) 8 ((G (u + 1)) (i + 1))) = (stR n 0 (G (u + 1)) i) from rfl)) rfl))))))))) rfl rfl ?_
    refine z_iload d_X7_breatheRow_96 rfl ?_
    refine z_aload_n d_X7_breatheRow_98 rfl rfl ?_
    refine z_getf (v := qI ((F u) 6)) d_X7_breatheRow_99 fl_X7_32 (xput_ob (c := (F u)) (rux_in hu2 hu) rfl (xsh_7 hu)) rfl ?_
    suffices kJ102 : qEx M_X7_breatheRow 125 [qR u, qR d, qI (stL n 0 (G (u + 1)) i), qI 8, qI (cnt (fun k => (stp (G d) n 0 (F u 6) (G (u + 1))) k = 7) i), qI (cnt (fun k => (stp (G d) n 0 (F u 6) (G (u + 1))) k ≠ (G (u + 1)) k) i), qI (i : Int), qI ((G (u + 1)) i), qI (stR n 0 (G (u + 1)) i), qU] [qI (qif ((i : Int) ≠ ((F u) 6)) ((G d) ((stC n 0 (G (u + 1)) i).toNat)) ((G (u + 1)) i))] (xput h F (gup G (u + 1) (qmx i (stp (G d) n 0 (F u 6) (G (u + 1))) (G (u + 1))))) r hr by
      refine z_icmp_ne 110 d_X7_breatheRow_102 (by decide) (fun hc5 => ?_) (fun hc5 => ?_)
      · refine z_aload_n d_X7_breatheRow_110 rfl rfl ?_
        refine z_iload d_X7_breatheRow_111 rfl ?_
        refine z_bipush d_X7_breatheRow_113 (by decide) ?_
        refine z_imul d_X7_breatheRow_115 (by omega) ?_
        refine z_iload_n d_X7_breatheRow_116 rfl rfl ?_
        refine z_iadd d_X7_breatheRow_117 (by omega) ?_
        refine z_bipush d_X7_breatheRow_118 (by decide) ?_
        refine z_imul d_X7_breatheRow_120 (by omega) ?_
        refine z_iload d_X7_breatheRow_121 rfl ?_
        refine z_iadd d_X7_breatheRow_123 (by omega) ?_
        refine z_ild ((stC n 0 (G (u + 1)) i).toNat) d_X7_breatheRow_124 (xput_ar (g := (G d)) hs (gup_ne (by omega))) (by unfold stC at e3 ⊢; omega) (by omega) ?_
        exact z_eq rfl (qc (qi (qif_t hc5).symm) rfl) rfl kJ102
      · refine z_iload d_X7_breatheRow_105 rfl ?_
        refine z_goto 125 d_X7_breatheRow_107 (by decide) ?_
        exact z_eq rfl (qc (qi (qif_f hc5).symm) rfl) rfl kJ102
    refine z_istore (ls' := [qR u, qR d, qI (stL n 0 (G (u + 1)) i), qI 8, qI (cnt (fun k => (stp (G d) n 0 (F u 6) (G (u + 1))) k = 7) i), qI (cnt (fun k => (stp (G d) n 0 (F u 6) (G (u + 1))) k ≠ (G (u + 1)) k) i), qI (i : Int), qI ((G (u + 1)) i), qI (stR n 0 (G (u + 1)) i), qI (qif ((i : Int) ≠ ((F u) 6)) ((G d) ((stC n 0 (G (u + 1)) i).toNat)) ((G (u + 1)) i))]) d_X7_breatheRow_125 (by decide) rfl ?_
    refine z_eq (qc rfl (qc rfl (qc rfl (qc rfl (qc rfl (qc rfl (qc rfl (qc rfl (qc rfl (qc (qi (show (qif ((i : Int) ≠ ((F u) 6)) ((G d) ((stC n 0 (G (u + 1)) i).toNat)) ((G (u + 1)) i)) = ((stp (G d) n 0 (F u 6) (G (u + 1))) i) from rfl)) rfl)))))))))) rfl rfl ?_
    refine z_aload_n d_X7_breatheRow_127 rfl rfl ?_
    refine z_getf (v := qR (u + 1)) d_X7_breatheRow_128 fl_X7_9 (xput_ob (c := (F u)) (rux_in hu2 hu) rfl (xsh_7 hu)) rfl ?_
    refine z_iload d_X7_breatheRow_131 rfl ?_
    refine z_iload d_X7_breatheRow_133 rfl ?_
    refine z_ist i d_X7_breatheRow_135 (xput_ar (g := (qmx i (stp (G d) n 0 (F u 6) (G (u + 1))) (G (u + 1)))) (rux_1 hu2 hu) (gup_eq _ _)) (by omega) rfl (by omega) ?_
    refine z_eq rfl rfl ((xput_sa (rux_1 hu2 hu)).trans (xput_cg rfl (gup_gup _ _ _))) ?_
    refine z_iload d_X7_breatheRow_136 rfl ?_
    refine z_iload d_X7_breatheRow_138 rfl ?_
    refine z_bipush d_X7_breatheRow_140 (by decide) ?_
    suffices kJ142 : qEx M_X7_breatheRow 150 [qR u, qR d, qI (stL n 0 (G (u + 1)) i), qI 8, qI (cnt (fun k => (stp (G d) n 0 (F u 6) (G (u + 1))) k = 7) i), qI (cnt (fun k => (stp (G d) n 0 (F u 6) (G (u + 1))) k ≠ (G (u + 1)) k) i), qI (i : Int), qI ((G (u + 1)) i), qI (stR n 0 (G (u + 1)) i), qI ((stp (G d) n 0 (F u 6) (G (u + 1))) i)] [qI (qb (((stp (G d) n 0 (F u 6) (G (u + 1))) i) = 7)), qI (cnt (fun k => (stp (G d) n 0 (F u 6) (G (u + 1))) k = 7) i)] (xput h F (gup G (u + 1) (qup (qmx i (stp (G d) n 0 (F u 6) (G (u + 1))) (G (u + 1))) i ((stp (G d) n 0 (F u 6) (G (u + 1))) i)))) r hr by
      refine z_icmp_ne 149 d_X7_breatheRow_142 (by decide) (fun hc6 => ?_) (fun hc6 => ?_)
      · refine z_iconst d_X7_breatheRow_149 (by decide) ?_
        exact z_eq rfl (qc (qi (qb_f (by omega)).symm) (qc rfl rfl)) rfl kJ142
      · refine z_iconst d_X7_breatheRow_145 (by decide) ?_
        refine z_goto 150 d_X7_breatheRow_146 (by decide) ?_
        exact z_eq rfl (qc (qi (qb_t (by omega)).symm) (qc rfl rfl)) rfl kJ142
    refine z_iadd d_X7_breatheRow_150 (by omega) ?_
    refine z_istore (ls' := [qR u, qR d, qI (stL n 0 (G (u + 1)) i), qI 8, qI ((cnt (fun k => (stp (G d) n 0 (F u 6) (G (u + 1))) k = 7) i) + (qb (((stp (G d) n 0 (F u 6) (G (u + 1))) i) = 7))), qI (cnt (fun k => (stp (G d) n 0 (F u 6) (G (u + 1))) k ≠ (G (u + 1)) k) i), qI (i : Int), qI ((G (u + 1)) i), qI (stR n 0 (G (u + 1)) i), qI ((stp (G d) n 0 (F u 6) (G (u + 1))) i)]) d_X7_breatheRow_151 (by decide) rfl ?_
    refine z_iload d_X7_breatheRow_153 rfl ?_
    refine z_iload d_X7_breatheRow_155 rfl ?_
    refine z_iload d_X7_breatheRow_157 rfl ?_
    suffices kJ159 : qEx M_X7_breatheRow 167 [qR u, qR d, qI (stL n 0 (G (u + 1)) i), qI 8, qI ((cnt (fun k => (stp (G d) n 0 (F u 6) (G (u + 1))) k = 7) i) + (qb (((stp (G d) n 0 (F u 6) (G (u + 1))) i) = 7))), qI (cnt (fun k => (stp (G d) n 0 (F u 6) (G (u + 1))) k ≠ (G (u + 1)) k) i), qI (i : Int), qI ((G (u + 1)) i), qI (stR n 0 (G (u + 1)) i), qI ((stp (G d) n 0 (F u 6) (G (u + 1))) i)] [qI (qb (((stp (G d) n 0 (F u 6) (G (u + 1))) i) ≠ ((G (u + 1)) i))), qI (cnt (fun k => (stp (G d) n 0 (F u 6) (G (u + 1))) k ≠ (G (u + 1)) k) i)] (xput h F (gup G (u + 1) (qup (qmx i (stp (G d) n 0 (F u 6) (G (u + 1))) (G (u + 1))) i ((stp (G d) n 0 (F u 6) (G (u + 1))) i)))) r hr by
      refine z_icmp_eq 166 d_X7_breatheRow_159 (by decide) (fun hc7 => ?_) (fun hc7 => ?_)
      · refine z_iconst d_X7_breatheRow_166 (by decide) ?_
        exact z_eq rfl (qc (qi (qb_f (by omega)).symm) (qc rfl rfl)) rfl kJ159
      · refine z_iconst d_X7_breatheRow_162 (by decide) ?_
        refine z_goto 167 d_X7_breatheRow_163 (by decide) ?_
        exact z_eq rfl (qc (qi (qb_t (by omega)).symm) (qc rfl rfl)) rfl kJ159
    refine z_iadd d_X7_breatheRow_167 (by omega) ?_
    refine z_istore (ls' := [qR u, qR d, qI (stL n 0 (G (u + 1)) i), qI 8, qI ((cnt (fun k => (stp (G d) n 0 (F u 6) (G (u + 1))) k = 7) i) + (qb (((stp (G d) n 0 (F u 6) (G (u + 1))) i) = 7))), qI ((cnt (fun k => (stp (G d) n 0 (F u 6) (G (u + 1))) k ≠ (G (u + 1)) k) i) + (qb (((stp (G d) n 0 (F u 6) (G (u + 1))) i) ≠ ((G (u + 1)) i)))), qI (i : Int), qI ((G (u + 1)) i), qI (stR n 0 (G (u + 1)) i), qI ((stp (G d) n 0 (F u 6) (G (u + 1))) i)]) d_X7_breatheRow_168 (by decide) rfl ?_
    refine z_iload d_X7_breatheRow_170 rfl ?_
    refine z_istore_n (ls' := [qR u, qR d, qI ((G (u + 1)) i), qI 8, qI ((cnt (fun k => (stp (G d) n 0 (F u 6) (G (u + 1))) k = 7) i) + (qb (((stp (G d) n 0 (F u 6) (G (u + 1))) i) = 7))), qI ((cnt (fun k => (stp (G d) n 0 (F u 6) (G (u + 1))) k ≠ (G (u + 1)) k) i) + (qb (((stp (G d) n 0 (F u 6) (G (u + 1))) i) ≠ ((G (u + 1)) i)))), qI (i : Int), qI ((G (u + 1)) i), qI (stR n 0 (G (u + 1)) i), qI ((stp (G d) n 0 (F u 6) (G (u + 1))) i)]) d_X7_breatheRow_172 rfl (by decide) rfl ?_
    refine z_iinc (ls' := [qR u, qR d, qI ((G (u + 1)) i), qI 8, qI ((cnt (fun k => (stp (G d) n 0 (F u 6) (G (u + 1))) k = 7) i) + (qb (((stp (G d) n 0 (F u 6) (G (u + 1))) i) = 7))), qI ((cnt (fun k => (stp (G d) n 0 (F u 6) (G (u + 1))) k ≠ (G (u + 1)) k) i) + (qb (((stp (G d) n 0 (F u 6) (G (u + 1))) i) ≠ ((G (u + 1)) i)))), qI ((i : Int) + 1), qI ((G (u + 1)) i), qI (stR n 0 (G (u + 1)) i), qI ((stp (G d) n 0 (F u 6) (G (u + 1))) i)]) d_X7_breatheRow_173 rfl (by decide) (by omega) rfl ?_
    refine z_goto 52 d_X7_breatheRow_176 (by decide) ?_
    exact z_dr (qle_k rfl (qle_k rfl (qle_k (qi (by unfold stL; rw [qif_f (by omega)]; rfl)) (qle_k rfl (qle_k (qi (rfl)) (qle_k (qi (rfl)) (qle_k (qi (by omega)) (qle_d (qle_d (qle_d qle_n)))))))))) rfl (xput_cg rfl (gup_cg rfl (qmx_s _ _ _))) (kki trivial)
  · show qEx M_X7_breatheRow 52 [qR u, qR d, qI (stL n 0 (G (u + 1)) n), qI 8, qI (cnt (fun k => (stp (G d) n 0 (F u 6) (G (u + 1))) k = 7) n), qI (cnt (fun k => (stp (G d) n 0 (F u 6) (G (u + 1))) k ≠ (G (u + 1)) k) n), qI (n : Int), qU, qU, qU] [] (xput h F (gup G (u + 1) (qmx n (stp (G d) n 0 (F u 6) (G (u + 1))) (G (u + 1))))) r hr
    refine z_iload d_X7_breatheRow_52 rfl ?_
    refine z_aload_n d_X7_breatheRow_54 rfl rfl ?_
    refine z_getf (v := qI ((F u) 3)) d_X7_breatheRow_55 fl_X7_21 (xput_ob (c := (F u)) (rux_in hu2 hu) rfl (xsh_7 hu)) rfl ?_
    refine z_eq rfl (qc (qi h3) rfl) rfl ?_
    refine z_icmp_ge 179 d_X7_breatheRow_58 (by decide) (fun hc8 => ?_) (fun hc8 => absurd hc8 (by omega))
    refine z_aload_n d_X7_breatheRow_179 rfl rfl ?_
    refine z_iload d_X7_breatheRow_180 rfl ?_
    refine z_putf (fs' := [qR (u + 1), qR (u + 2), qR (u + 3), qI ((F u) 3), qI ((F u) 4), qI ((F u) 5), qI ((F u) 6), qI ((F u) 7), qI ((F u) 8), qI (cnt (fun k => (stp (G d) n 0 (F u 6) (G (u + 1))) k = 7) n), qI ((F u) 10)]) d_X7_breatheRow_182 fp_X7_41 (xput_ob (c := (F u)) (rux_in hu2 hu) rfl (xsh_7 hu)) (fun _ => rfl) (fun _ => rfl) (Nat.le_of_ble_eq_true rfl) rfl ?_
    refine z_eq rfl rfl (xput_sf (c := (qup (F u) 9 (cnt (fun k => (stp (G d) n 0 (F u 6) (G (u + 1))) k = 7) n))) (rux_in hu2 hu) (xsh_7 hu)) ?_
    refine z_aload_n d_X7_breatheRow_185 rfl rfl ?_
    refine z_iload d_X7_breatheRow_186 rfl ?_
    refine z_putf (fs' := [qR (u + 1), qR (u + 2), qR (u + 3), qI ((F u) 3), qI ((F u) 4), qI ((F u) 5), qI ((F u) 6), qI ((F u) 7), qI ((F u) 8), qI (cnt (fun k => (stp (G d) n 0 (F u 6) (G (u + 1))) k = 7) n), qI (cnt (fun k => (stp (G d) n 0 (F u 6) (G (u + 1))) k ≠ (G (u + 1)) k) n)]) d_X7_breatheRow_188 fp_X7_44 (xput_ob (c := (qup (F u) 9 (cnt (fun k => (stp (G d) n 0 (F u 6) (G (u + 1))) k = 7) n))) (rux_in hu2 hu) (gup_eq _ _) (xsh_7 hu)) (fun _ => rfl) (fun _ => rfl) (Nat.le_of_ble_eq_true rfl) rfl ?_
    refine z_eq rfl rfl ((xput_sf (c := (qup (qup (F u) 9 (cnt (fun k => (stp (G d) n 0 (F u 6) (G (u + 1))) k = 7) n)) 10 (cnt (fun k => (stp (G d) n 0 (F u 6) (G (u + 1))) k ≠ (G (u + 1)) k) n))) (rux_in hu2 hu) (xsh_7 hu)).trans (xput_cg (gup_gup _ _ _) rfl)) ?_
    exact z_vret d_X7_breatheRow_191 rfl er eh
set_option maxRecDepth 20000 in
set_option maxHeartbeats 4000000 in
theorem c_rnRow1 {h : qH} {F G : Nat → Nat → Int} {u d n : Nat} (hu2 : 2 ≤ u) (hu : xk u = 7) (hs : xAr d 0 648) (hd : d < u ∨ u + 3 < d) (hn : 1 ≤ n ∧ n ≤ 32) (h3 : F u 3 = (n : Int)) (h4 : F u 4 = 1) (hM : ∀ k, k < n → 0 ≤ (G (u + 1)) k ∧ (G (u + 1)) k ≤ 7) : qEx M_X7_breatheRow 0 [qR u, qR d, qU, qU, qU, qU, qU, qU, qU, qU] [] (xput h F G) none (xput h (gup F u (qup (qup (F u) 9 (cnt (fun k => (stp (G d) n 1 (F u 6) (G (u + 1))) k = 7) n)) 10 (cnt (fun k => (stp (G d) n 1 (F u 6) (G (u + 1))) k ≠ (G (u + 1)) k) n))) (gup G (u + 1) (qmx n (stp (G d) n 1 (F u 6) (G (u + 1))) (G (u + 1))))) := by
  refine q_gen (fun r hr er eh => ?_)
  refine z_aload_n d_X7_breatheRow_0 rfl rfl ?_
  refine z_getf (v := qI ((F u) 4)) d_X7_breatheRow_1 fl_X7_25 (xput_ob (c := (F u)) (rux_in hu2 hu) rfl (xsh_7 hu)) rfl ?_
  refine z_eq rfl (qc (qi h4) rfl) rfl ?_
  refine z_if_eq 21 d_X7_breatheRow_4 (by decide) (fun hc1 => absurd hc1 (by decide)) (fun hc1 => ?_)
  refine z_aload_n d_X7_breatheRow_7 rfl rfl ?_
  refine z_getf (v := qR (u + 1)) d_X7_breatheRow_8 fl_X7_9 (xput_ob (c := (F u)) (rux_in hu2 hu) rfl (xsh_7 hu)) rfl ?_
  refine z_aload_n d_X7_breatheRow_11 rfl rfl ?_
  refine z_getf (v := qI ((F u) 3)) d_X7_breatheRow_12 fl_X7_21 (xput_ob (c := (F u)) (rux_in hu2 hu) rfl (xsh_7 hu)) rfl ?_
  refine z_eq rfl (qc (qi h3) rfl) rfl ?_
  refine z_iconst d_X7_breatheRow_15 (by decide) ?_
  refine z_isub d_X7_breatheRow_16 (by omega) ?_
  refine z_ild (n - 1) d_X7_breatheRow_17 (xput_ar (g := (G (u + 1))) (rux_1 hu2 hu) rfl) (by omega) (by omega) ?_
  refine z_goto 23 d_X7_breatheRow_18 (by decide) ?_
  refine z_istore_n (ls' := [qR u, qR d, qI ((G (u + 1)) (n - 1)), qU, qU, qU, qU, qU, qU, qU]) d_X7_breatheRow_23 rfl (by decide) rfl ?_
  refine z_aload_n d_X7_breatheRow_24 rfl rfl ?_
  refine z_getf (v := qI ((F u) 4)) d_X7_breatheRow_25 fl_X7_25 (xput_ob (c := (F u)) (rux_in hu2 hu) rfl (xsh_7 hu)) rfl ?_
  refine z_eq rfl (qc (qi h4) rfl) rfl ?_
  refine z_if_eq 40 d_X7_breatheRow_28 (by decide) (fun hc2 => absurd hc2 (by decide)) (fun hc2 => ?_)
  refine z_aload_n d_X7_breatheRow_31 rfl rfl ?_
  refine z_getf (v := qR (u + 1)) d_X7_breatheRow_32 fl_X7_9 (xput_ob (c := (F u)) (rux_in hu2 hu) rfl (xsh_7 hu)) rfl ?_
  refine z_iconst d_X7_breatheRow_35 (by decide) ?_
  refine z_ild 0 d_X7_breatheRow_36 (xput_ar (g := (G (u + 1))) (rux_1 hu2 hu) rfl) rfl (by omega) ?_
  refine z_goto 42 d_X7_breatheRow_37 (by decide) ?_
  refine z_istore_n (ls' := [qR u, qR d, qI ((G (u + 1)) (n - 1)), qI ((G (u + 1)) 0), qU, qU, qU, qU, qU, qU]) d_X7_breatheRow_42 rfl (by decide) rfl ?_
  refine z_iconst d_X7_breatheRow_43 (by decide) ?_
  refine z_istore (ls' := [qR u, qR d, qI ((G (u + 1)) (n - 1)), qI ((G (u + 1)) 0), qI 0, qU, qU, qU, qU, qU]) d_X7_breatheRow_44 (by decide) rfl ?_
  refine z_iconst d_X7_breatheRow_46 (by decide) ?_
  refine z_istore (ls' := [qR u, qR d, qI ((G (u + 1)) (n - 1)), qI ((G (u + 1)) 0), qI 0, qI 0, qU, qU, qU, qU]) d_X7_breatheRow_47 (by decide) rfl ?_
  refine z_iconst d_X7_breatheRow_49 (by decide) ?_
  refine z_istore (ls' := [qR u, qR d, qI ((G (u + 1)) (n - 1)), qI ((G (u + 1)) 0), qI 0, qI 0, qI 0, qU, qU, qU]) d_X7_breatheRow_50 (by decide) rfl ?_
  refine z_eq (qc rfl (qc rfl (qc (qi (by unfold stL; rw [qif_t (by decide)]; rfl)) (qc rfl (qc (qi (rfl)) (qc (qi (rfl)) (qc (qi (rfl)) (qc rfl (qc rfl (qc rfl rfl)))))))))) rfl (xput_cg rfl (by rw [qmx_0, gup_self rfl])) (z_for n (fun i => [qR u, qR d, qI (stL n 1 (G (u + 1)) i), qI ((G (u + 1)) 0), qI (cnt (fun k => (stp (G d) n 1 (F u 6) (G (u + 1))) k = 7) i), qI (cnt (fun k => (stp (G d) n 1 (F u 6) (G (u + 1))) k ≠ (G (u + 1)) k) i), qI (i : Int), qU, qU, qU]) (fun i => (xput h F (gup G (u + 1) (qmx i (stp (G d) n 1 (F u 6) (G (u + 1))) (G (u + 1)))))) (fun i => True) trivial (fun i hii hp kki => ?_) (fun hp => ?_))
  · show qEx M_X7_breatheRow 52 [qR u, qR d, qI (stL n 1 (G (u + 1)) i), qI ((G (u + 1)) 0), qI (cnt (fun k => (stp (G d) n 1 (F u 6) (G (u + 1))) k = 7) i), qI (cnt (fun k => (stp (G d) n 1 (F u 6) (G (u + 1))) k ≠ (G (u + 1)) k) i), qI (i : Int), qU, qU, qU] [] (xput h F (gup G (u + 1) (qmx i (stp (G d) n 1 (F u 6) (G (u + 1))) (G (u + 1))))) r hr
    have e1 := stL_bd (rg := 1) hii hM
    have e2 := stR_bd (rg := 1) hii hM
    have e3 := stC_bd (rg := 1) hii hM
    have e4 := hM i hii
    have c1 := cnt_bd (fun k => (stp (G d) n 1 (F u 6) (G (u + 1))) k = 7) i
    have c2 := cnt_bd (fun k => (stp (G d) n 1 (F u 6) (G (u + 1))) k ≠ (G (u + 1)) k) i
    have b1 := qb_bd ((stp (G d) n 1 (F u 6) (G (u + 1))) i = 7)
    have b2 := qb_bd ((stp (G d) n 1 (F u 6) (G (u + 1))) i ≠ (G (u + 1)) i)
    refine z_iload d_X7_breatheRow_52 rfl ?_
    refine z_aload_n d_X7_breatheRow_54 rfl rfl ?_
    refine z_getf (v := qI ((F u) 3)) d_X7_breatheRow_55 fl_X7_21 (xput_ob (c := (F u)) (rux_in hu2 hu) rfl (xsh_7 hu)) rfl ?_
    refine z_eq rfl (qc (qi h3) rfl) rfl ?_
    refine z_icmp_ge 179 d_X7_breatheRow_58 (by decide) (fun hc3 => absurd hc3 (by omega)) (fun hc3 => ?_)
    refine z_aload_n d_X7_breatheRow_61 rfl rfl ?_
    refine z_getf (v := qR (u + 1)) d_X7_breatheRow_62 fl_X7_9 (xput_ob (c := (F u)) (rux_in hu2 hu) rfl (xsh_7 hu)) rfl ?_
    refine z_iload d_X7_breatheRow_65 rfl ?_
    refine z_ild i d_X7_breatheRow_67 (xput_ar (g := (qmx i (stp (G d) n 1 (F u 6) (G (u + 1))) (G (u + 1)))) (rux_1 hu2 hu) (gup_eq _ _)) rfl (by omega) ?_
    refine z_eq rfl (qc (qi (show ((qmx i (stp (G d) n 1 (F u 6) (G (u + 1))) (G (u + 1))) i) = ((G (u + 1)) i) from qmx_ge (by omega))) rfl) rfl ?_
    refine z_istore (ls' := [qR u, qR d, qI (stL n 1 (G (u + 1)) i), qI ((G (u + 1)) 0), qI (cnt (fun k => (stp (G d) n 1 (F u 6) (G (u + 1))) k = 7) i), qI (cnt (fun k => (stp (G d) n 1 (F u 6) (G (u + 1))) k ≠ (G (u + 1)) k) i), qI (i : Int), qI ((G (u + 1)) i), qU, qU]) d_X7_breatheRow_68 (by decide) rfl ?_
    refine z_iload d_X7_breatheRow_70 rfl ?_
    refine z_iconst d_X7_breatheRow_72 (by decide) ?_
    refine z_iadd d_X7_breatheRow_73 (by omega) ?_
    refine z_aload_n d_X7_breatheRow_74 rfl rfl ?_
    refine z_getf (v := qI ((F u) 3)) d_X7_breatheRow_75 fl_X7_21 (xput_ob (c := (F u)) (rux_in hu2 hu) rfl (xsh_7 hu)) rfl ?_
    refine z_eq rfl (qc (qi h3) rfl) rfl ?_
    suffices kJ78 : qEx M_X7_breatheRow 94 [qR u, qR d, qI (stL n 1 (G (u + 1)) i), qI ((G (u + 1)) 0), qI (cnt (fun k => (stp (G d) n 1 (F u 6) (G (u + 1))) k = 7) i), qI (cnt (fun k => (stp (G d) n 1 (F u 6) (G (u + 1))) k ≠ (G (u + 1)) k) i), qI (i : Int), qI ((G (u + 1)) i), qU, qU] [qI (qif (((i : Int) + 1) ≥ (n : Int)) ((G (u + 1)) 0) ((G (u + 1)) (i + 1)))] (xput h F (gup G (u + 1) (qmx i (stp (G d) n 1 (F u 6) (G (u + 1))) (G (u + 1))))) r hr by
      refine z_icmp_ge 93 d_X7_breatheRow_78 (by decide) (fun hc4 => ?_) (fun hc4 => ?_)
      · refine z_iload_n d_X7_breatheRow_93 rfl rfl ?_
        exact z_eq rfl (qc (qi (qif_t hc4).symm) rfl) rfl kJ78
      · refine z_aload_n d_X7_breatheRow_81 rfl rfl ?_
        refine z_getf (v := qR (u + 1)) d_X7_breatheRow_82 fl_X7_9 (xput_ob (c := (F u)) (rux_in hu2 hu) rfl (xsh_7 hu)) rfl ?_
        refine z_iload d_X7_breatheRow_85 rfl ?_
        refine z_iconst d_X7_breatheRow_87 (by decide) ?_
        refine z_iadd d_X7_breatheRow_88 (by omega) ?_
        refine z_ild (i + 1) d_X7_breatheRow_89 (xput_ar (g := (qmx i (stp (G d) n 1 (F u 6) (G (u + 1))) (G (u + 1)))) (rux_1 hu2 hu) (gup_eq _ _)) rfl (by omega) ?_
        refine z_eq rfl (qc (qi (show ((qmx i (stp (G d) n 1 (F u 6) (G (u + 1))) (G (u + 1))) (i + 1)) = ((G (u + 1)) (i + 1)) from qmx_ge (by omega))) rfl) rfl ?_
        refine z_goto 94 d_X7_breatheRow_90 (by decide) ?_
        exact z_eq rfl (qc (qi (qif_f hc4).symm) rfl) rfl kJ78
    refine z_istore (ls' := [qR u, qR d, qI (stL n 1 (G (u + 1)) i), qI ((G (u + 1)) 0), qI (cnt (fun k => (stp (G d) n 1 (F u 6) (G (u + 1))) k = 7) i), qI (cnt (fun k => (stp (G d) n 1 (F u 6) (G (u + 1))) k ≠ (G (u + 1)) k) i), qI (i : Int), qI ((G (u + 1)) i), qI (qif (((i : Int) + 1) ≥ (n : Int)) ((G (u + 1)) 0) ((G (u + 1)) (i + 1))), qU]) d_X7_breatheRow_94 (by decide) rfl ?_
    refine z_eq (qc rfl (qc rfl (qc rfl (qc rfl (qc rfl (qc rfl (qc rfl (qc rfl (qc (qi (show (qif (((i : Int) + 1) ≥ (n : Int)) ((G (u + 1)) 0) ((G (u + 1)) (i + 1))) = (stR n 1 (G (u + 1)) i) from rfl)) rfl))))))))) rfl rfl ?_
    refine z_iload d_X7_breatheRow_96 rfl ?_
    refine z_aload_n d_X7_breatheRow_98 rfl rfl ?_
    refine z_getf (v := qI ((F u) 6)) d_X7_breatheRow_99 fl_X7_32 (xput_ob (c := (F u)) (rux_in hu2 hu) rfl (xsh_7 hu)) rfl ?_
    suffices kJ102 : qEx M_X7_breatheRow 125 [qR u, qR d, qI (stL n 1 (G (u + 1)) i), qI ((G (u + 1)) 0), qI (cnt (fun k => (stp (G d) n 1 (F u 6) (G (u + 1))) k = 7) i), qI (cnt (fun k => (stp (G d) n 1 (F u 6) (G (u + 1))) k ≠ (G (u + 1)) k) i), qI (i : Int), qI ((G (u + 1)) i), qI (stR n 1 (G (u + 1)) i), qU] [qI (qif ((i : Int) ≠ ((F u) 6)) ((G d) ((stC n 1 (G (u + 1)) i).toNat)) ((G (u + 1)) i))] (xput h F (gup G (u + 1) (qmx i (stp (G d) n 1 (F u 6) (G (u + 1))) (G (u + 1))))) r hr by
      refine z_icmp_ne 110 d_X7_breatheRow_102 (by decide) (fun hc5 => ?_) (fun hc5 => ?_)
      · refine z_aload_n d_X7_breatheRow_110 rfl rfl ?_
        refine z_iload d_X7_breatheRow_111 rfl ?_
        refine z_bipush d_X7_breatheRow_113 (by decide) ?_
        refine z_imul d_X7_breatheRow_115 (by omega) ?_
        refine z_iload_n d_X7_breatheRow_116 rfl rfl ?_
        refine z_iadd d_X7_breatheRow_117 (by omega) ?_
        refine z_bipush d_X7_breatheRow_118 (by decide) ?_
        refine z_imul d_X7_breatheRow_120 (by omega) ?_
        refine z_iload d_X7_breatheRow_121 rfl ?_
        refine z_iadd d_X7_breatheRow_123 (by omega) ?_
        refine z_ild ((stC n 1 (G (u + 1)) i).toNat) d_X7_breatheRow_124 (xput_ar (g := (G d)) hs (gup_ne (by omega))) (by unfold stC at e3 ⊢; omega) (by omega) ?_
        exact z_eq rfl (qc (qi (qif_t hc5).symm) rfl) rfl kJ102
      · refine z_iload d_X7_breatheRow_105 rfl ?_
        refine z_goto 125 d_X7_breatheRow_107 (by decide) ?_
        exact z_eq rfl (qc (qi (qif_f hc5).symm) rfl) rfl kJ102
    refine z_istore (ls' := [qR u, qR d, qI (stL n 1 (G (u + 1)) i), qI ((G (u + 1)) 0), qI (cnt (fun k => (stp (G d) n 1 (F u 6) (G (u + 1))) k = 7) i), qI (cnt (fun k => (stp (G d) n 1 (F u 6) (G (u + 1))) k ≠ (G (u + 1)) k) i), qI (i : Int), qI ((G (u + 1)) i), qI (stR n 1 (G (u + 1)) i), qI (qif ((i : Int) ≠ ((F u) 6)) ((G d) ((stC n 1 (G (u + 1)) i).toNat)) ((G (u + 1)) i))]) d_X7_breatheRow_125 (by decide) rfl ?_
    refine z_eq (qc rfl (qc rfl (qc rfl (qc rfl (qc rfl (qc rfl (qc rfl (qc rfl (qc rfl (qc (qi (show (qif ((i : Int) ≠ ((F u) 6)) ((G d) ((stC n 1 (G (u + 1)) i).toNat)) ((G (u + 1)) i)) = ((stp (G d) n 1 (F u 6) (G (u + 1))) i) from rfl)) rfl)))))))))) rfl rfl ?_
    refine z_aload_n d_X7_breatheRow_127 rfl rfl ?_
    refine z_getf (v := qR (u + 1)) d_X7_breatheRow_128 fl_X7_9 (xput_ob (c := (F u)) (rux_in hu2 hu) rfl (xsh_7 hu)) rfl ?_
    refine z_iload d_X7_breatheRow_131 rfl ?_
    refine z_iload d_X7_breatheRow_133 rfl ?_
    refine z_ist i d_X7_breatheRow_135 (xput_ar (g := (qmx i (stp (G d) n 1 (F u 6) (G (u + 1))) (G (u + 1)))) (rux_1 hu2 hu) (gup_eq _ _)) (by omega) rfl (by omega) ?_
    refine z_eq rfl rfl ((xput_sa (rux_1 hu2 hu)).trans (xput_cg rfl (gup_gup _ _ _))) ?_
    refine z_iload d_X7_breatheRow_136 rfl ?_
    refine z_iload d_X7_breatheRow_138 rfl ?_
    refine z_bipush d_X7_breatheRow_140 (by decide) ?_
    suffices kJ142 : qEx M_X7_breatheRow 150 [qR u, qR d, qI (stL n 1 (G (u + 1)) i), qI ((G (u + 1)) 0), qI (cnt (fun k => (stp (G d) n 1 (F u 6) (G (u + 1))) k = 7) i), qI (cnt (fun k => (stp (G d) n 1 (F u 6) (G (u + 1))) k ≠ (G (u + 1)) k) i), qI (i : Int), qI ((G (u + 1)) i), qI (stR n 1 (G (u + 1)) i), qI ((stp (G d) n 1 (F u 6) (G (u + 1))) i)] [qI (qb (((stp (G d) n 1 (F u 6) (G (u + 1))) i) = 7)), qI (cnt (fun k => (stp (G d) n 1 (F u 6) (G (u + 1))) k = 7) i)] (xput h F (gup G (u + 1) (qup (qmx i (stp (G d) n 1 (F u 6) (G (u + 1))) (G (u + 1))) i ((stp (G d) n 1 (F u 6) (G (u + 1))) i)))) r hr by
      refine z_icmp_ne 149 d_X7_breatheRow_142 (by decide) (fun hc6 => ?_) (fun hc6 => ?_)
      · refine z_iconst d_X7_breatheRow_149 (by decide) ?_
        exact z_eq rfl (qc (qi (qb_f (by omega)).symm) (qc rfl rfl)) rfl kJ142
      · refine z_iconst d_X7_breatheRow_145 (by decide) ?_
        refine z_goto 150 d_X7_breatheRow_146 (by decide) ?_
        exact z_eq rfl (qc (qi (qb_t (by omega)).symm) (qc rfl rfl)) rfl kJ142
    refine z_iadd d_X7_breatheRow_150 (by omega) ?_
    refine z_istore (ls' := [qR u, qR d, qI (stL n 1 (G (u + 1)) i), qI ((G (u + 1)) 0), qI ((cnt (fun k => (stp (G d) n 1 (F u 6) (G (u + 1))) k = 7) i) + (qb (((stp (G d) n 1 (F u 6) (G (u + 1))) i) = 7))), qI (cnt (fun k => (stp (G d) n 1 (F u 6) (G (u + 1))) k ≠ (G (u + 1)) k) i), qI (i : Int), qI ((G (u + 1)) i), qI (stR n 1 (G (u + 1)) i), qI ((stp (G d) n 1 (F u 6) (G (u + 1))) i)]) d_X7_breatheRow_151 (by decide) rfl ?_
    refine z_iload d_X7_breatheRow_153 rfl ?_
    refine z_iload d_X7_breatheRow_155 rfl ?_
    refine z_iload d_X7_breatheRow_157 rfl ?_
    suffices kJ159 : qEx M_X7_breatheRow 167 [qR u, qR d, qI (stL n 1 (G (u + 1)) i), qI ((G (u + 1)) 0), qI ((cnt (fun k => (stp (G d) n 1 (F u 6) (G (u + 1))) k = 7) i) + (qb (((stp (G d) n 1 (F u 6) (G (u + 1))) i) = 7))), qI (cnt (fun k => (stp (G d) n 1 (F u 6) (G (u + 1))) k ≠ (G (u + 1)) k) i), qI (i : Int), qI ((G (u + 1)) i), qI (stR n 1 (G (u + 1)) i), qI ((stp (G d) n 1 (F u 6) (G (u + 1))) i)] [qI (qb (((stp (G d) n 1 (F u 6) (G (u + 1))) i) ≠ ((G (u + 1)) i))), qI (cnt (fun k => (stp (G d) n 1 (F u 6) (G (u + 1))) k ≠ (G (u + 1)) k) i)] (xput h F (gup G (u + 1) (qup (qmx i (stp (G d) n 1 (F u 6) (G (u + 1))) (G (u + 1))) i ((stp (G d) n 1 (F u 6) (G (u + 1))) i)))) r hr by
      refine z_icmp_eq 166 d_X7_breatheRow_159 (by decide) (fun hc7 => ?_) (fun hc7 => ?_)
      · refine z_iconst d_X7_breatheRow_166 (by decide) ?_
        exact z_eq rfl (qc (qi (qb_f (by omega)).symm) (qc rfl rfl)) rfl kJ159
      · refine z_iconst d_X7_breatheRow_162 (by decide) ?_
        refine z_goto 167 d_X7_breatheRow_163 (by decide) ?_
        exact z_eq rfl (qc (qi (qb_t (by omega)).symm) (qc rfl rfl)) rfl kJ159
    refine z_iadd d_X7_breatheRow_167 (by omega) ?_
    refine z_istore (ls' := [qR u, qR d, qI (stL n 1 (G (u + 1)) i), qI ((G (u + 1)) 0), qI ((cnt (fun k => (stp (G d) n 1 (F u 6) (G (u + 1))) k = 7) i) + (qb (((stp (G d) n 1 (F u 6) (G (u + 1))) i) = 7))), qI ((cnt (fun k => (stp (G d) n 1 (F u 6) (G (u + 1))) k ≠ (G (u + 1)) k) i) + (qb (((stp (G d) n 1 (F u 6) (G (u + 1))) i) ≠ ((G (u + 1)) i)))), qI (i : Int), qI ((G (u + 1)) i), qI (stR n 1 (G (u + 1)) i), qI ((stp (G d) n 1 (F u 6) (G (u + 1))) i)]) d_X7_breatheRow_168 (by decide) rfl ?_
    refine z_iload d_X7_breatheRow_170 rfl ?_
    refine z_istore_n (ls' := [qR u, qR d, qI ((G (u + 1)) i), qI ((G (u + 1)) 0), qI ((cnt (fun k => (stp (G d) n 1 (F u 6) (G (u + 1))) k = 7) i) + (qb (((stp (G d) n 1 (F u 6) (G (u + 1))) i) = 7))), qI ((cnt (fun k => (stp (G d) n 1 (F u 6) (G (u + 1))) k ≠ (G (u + 1)) k) i) + (qb (((stp (G d) n 1 (F u 6) (G (u + 1))) i) ≠ ((G (u + 1)) i)))), qI (i : Int), qI ((G (u + 1)) i), qI (stR n 1 (G (u + 1)) i), qI ((stp (G d) n 1 (F u 6) (G (u + 1))) i)]) d_X7_breatheRow_172 rfl (by decide) rfl ?_
    refine z_iinc (ls' := [qR u, qR d, qI ((G (u + 1)) i), qI ((G (u + 1)) 0), qI ((cnt (fun k => (stp (G d) n 1 (F u 6) (G (u + 1))) k = 7) i) + (qb (((stp (G d) n 1 (F u 6) (G (u + 1))) i) = 7))), qI ((cnt (fun k => (stp (G d) n 1 (F u 6) (G (u + 1))) k ≠ (G (u + 1)) k) i) + (qb (((stp (G d) n 1 (F u 6) (G (u + 1))) i) ≠ ((G (u + 1)) i)))), qI ((i : Int) + 1), qI ((G (u + 1)) i), qI (stR n 1 (G (u + 1)) i), qI ((stp (G d) n 1 (F u 6) (G (u + 1))) i)]) d_X7_breatheRow_173 rfl (by decide) (by omega) rfl ?_
    refine z_goto 52 d_X7_breatheRow_176 (by decide) ?_
    exact z_dr (qle_k rfl (qle_k rfl (qle_k (qi (by unfold stL; rw [qif_f (by omega)]; rfl)) (qle_k rfl (qle_k (qi (rfl)) (qle_k (qi (rfl)) (qle_k (qi (by omega)) (qle_d (qle_d (qle_d qle_n)))))))))) rfl (xput_cg rfl (gup_cg rfl (qmx_s _ _ _))) (kki trivial)
  · show qEx M_X7_breatheRow 52 [qR u, qR d, qI (stL n 1 (G (u + 1)) n), qI ((G (u + 1)) 0), qI (cnt (fun k => (stp (G d) n 1 (F u 6) (G (u + 1))) k = 7) n), qI (cnt (fun k => (stp (G d) n 1 (F u 6) (G (u + 1))) k ≠ (G (u + 1)) k) n), qI (n : Int), qU, qU, qU] [] (xput h F (gup G (u + 1) (qmx n (stp (G d) n 1 (F u 6) (G (u + 1))) (G (u + 1))))) r hr
    refine z_iload d_X7_breatheRow_52 rfl ?_
    refine z_aload_n d_X7_breatheRow_54 rfl rfl ?_
    refine z_getf (v := qI ((F u) 3)) d_X7_breatheRow_55 fl_X7_21 (xput_ob (c := (F u)) (rux_in hu2 hu) rfl (xsh_7 hu)) rfl ?_
    refine z_eq rfl (qc (qi h3) rfl) rfl ?_
    refine z_icmp_ge 179 d_X7_breatheRow_58 (by decide) (fun hc8 => ?_) (fun hc8 => absurd hc8 (by omega))
    refine z_aload_n d_X7_breatheRow_179 rfl rfl ?_
    refine z_iload d_X7_breatheRow_180 rfl ?_
    refine z_putf (fs' := [qR (u + 1), qR (u + 2), qR (u + 3), qI ((F u) 3), qI ((F u) 4), qI ((F u) 5), qI ((F u) 6), qI ((F u) 7), qI ((F u) 8), qI (cnt (fun k => (stp (G d) n 1 (F u 6) (G (u + 1))) k = 7) n), qI ((F u) 10)]) d_X7_breatheRow_182 fp_X7_41 (xput_ob (c := (F u)) (rux_in hu2 hu) rfl (xsh_7 hu)) (fun _ => rfl) (fun _ => rfl) (Nat.le_of_ble_eq_true rfl) rfl ?_
    refine z_eq rfl rfl (xput_sf (c := (qup (F u) 9 (cnt (fun k => (stp (G d) n 1 (F u 6) (G (u + 1))) k = 7) n))) (rux_in hu2 hu) (xsh_7 hu)) ?_
    refine z_aload_n d_X7_breatheRow_185 rfl rfl ?_
    refine z_iload d_X7_breatheRow_186 rfl ?_
    refine z_putf (fs' := [qR (u + 1), qR (u + 2), qR (u + 3), qI ((F u) 3), qI ((F u) 4), qI ((F u) 5), qI ((F u) 6), qI ((F u) 7), qI ((F u) 8), qI (cnt (fun k => (stp (G d) n 1 (F u 6) (G (u + 1))) k = 7) n), qI (cnt (fun k => (stp (G d) n 1 (F u 6) (G (u + 1))) k ≠ (G (u + 1)) k) n)]) d_X7_breatheRow_188 fp_X7_44 (xput_ob (c := (qup (F u) 9 (cnt (fun k => (stp (G d) n 1 (F u 6) (G (u + 1))) k = 7) n))) (rux_in hu2 hu) (gup_eq _ _) (xsh_7 hu)) (fun _ => rfl) (fun _ => rfl) (Nat.le_of_ble_eq_true rfl) rfl ?_
    refine z_eq rfl rfl ((xput_sf (c := (qup (qup (F u) 9 (cnt (fun k => (stp (G d) n 1 (F u 6) (G (u + 1))) k = 7) n)) 10 (cnt (fun k => (stp (G d) n 1 (F u 6) (G (u + 1))) k ≠ (G (u + 1)) k) n))) (rux_in hu2 hu) (xsh_7 hu)).trans (xput_cg (gup_gup _ _ _) rfl)) ?_
    exact z_vret d_X7_breatheRow_191 rfl er eh
