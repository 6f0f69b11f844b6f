/-! ===== CONTRACTS: the reference: begun, crowd ===== -/
/-- over those who may begin: how many are good, the least who is not, the shortest, its breaths -/
noncomputable def bgSt (T : Nat → Int) (n b : Nat) (a : Int × Int × Int × Int) : Int × Int × Int × Int :=
  qif (rnT T n 0 b = -1 ∨ cnt (fun k => rnE T n 0 b k = 7) n < n) (a.1, qif (a.2.1 ≠ -1) a.2.1 (b : Int), a.2.2.1, a.2.2.2)
    (qif (a.2.2.1 ≠ -1 ∧ rnT T n 0 b ≥ a.2.2.2) (a.1 + 1, a.2.1, a.2.2.1, a.2.2.2) (a.1 + 1, a.2.1, (b : Int), rnT T n 0 b))
noncomputable def bgF (T : Nat → Int) (n : Nat) : Nat → Int × Int × Int × Int
  | 0 => (0, -1, -1, 0)
  | b + 1 => bgSt T n b (bgF T n b)
theorem bgF_bd {T : Nat → Int} {n : Nat} : ∀ b, 0 ≤ (bgF T n b).1 ∧ (bgF T n b).1 ≤ b
  | 0 => by show 0 ≤ (0 : Int) ∧ (0 : Int) ≤ ((0 : Nat) : Int); omega
  | b + 1 => by
    have h := bgF_bd (T := T) (n := n) b
    show 0 ≤ (bgSt T n b (bgF T n b)).1 ∧ (bgSt T n b (bgF T n b)).1 ≤ ((b + 1 : Nat) : Int)
    unfold bgSt
    refine qif_or (fun z : Int × Int × Int × Int => 0 ≤ z.1 ∧ z.1 ≤ ((b + 1 : Nat) : Int)) (by simp only; omega) (qif_or (fun z : Int × Int × Int × Int => 0 ≤ z.1 ∧ z.1 ≤ ((b + 1 : Nat) : Int)) ?_ ?_) <;> (simp only; omega)
set_option maxRecDepth 20000 in
set_option maxHeartbeats 4000000 in
theorem c_begun {h : qH} {m : Nat} {f : Nat → Int} {g : Nat → Nat → Int} {n : Nat} (what : Int) (hm : 2 ≤ m) (h0 : f 0 = 0) (hn : 1 ≤ n ∧ n ≤ 32) (hw : 0 ≤ what ∧ what ≤ 2) (hO : bkOk (g 2) (g 5)) : ∃ g', (sq g g') ∧ qEx M_X12_begun 0 [qR m, qI (n : Int), qI what, qU, qU, qU, qU, qU, qU] [] (rput h m f g) (some (qI (qif (what ≠ 0) (qif (what ≠ 1) (bgF (ownT g) n n).2.2.1 (bgF (ownT g) n n).2.1) (bgF (ownT g) n n).1))) (rput h m f g') := by
  refine y_in (fun Q hQ => ?_)
  have hOB := ownT_bd hO
  refine qy (fun _ _ k9 => z_aload_n d_X12_begun_0 rfl rfl k9) ?_
  refine qy (fun _ _ k9 => z_iconst d_X12_begun_1 (by decide) k9) ?_
  refine qy (fun _ _ k9 => z_putf (fs' := [qI 0, qI (f 1), qI (f 2), qI (f 3), qI (f 4), qI (f 5), qI (f 6), qI (f 7), qR (m + 1), qR (m + 2), qR (m + 3), qR (m + 4), qR (m + 5), qR (m + 6), qR (m + 7), qR (m + 8), qR (m + 9), qR (m + 10), qI (f 18), qI (f 19), qI (f 20), qR (m + 11), qR (m + 12), qR (m + 13), qR (m + 14), qI (f 25), qR (m + 15), qI (f 27), qR (m + 16), qR (m + 17), qR (m + 18), qR (m + 19), qR (m + 20), qR (m + 21), qR (m + 22), qR (m + 23), qR (m + 24), qI (f 37), qI (f 38), qI (f 39), qI (f 40), qR (m + 25), qR (m + 26), qR (m + 27), qR (m + 28), qR (m + 29), qR (m + 30), qR (m + 31), qI (f 48), qR (m + 32), qR (m + 33), qR (m + 34), qR (m + 35), qR (m + 36), qR (m + 37)]) d_X12_begun_2 fp_X12_127 rput_o (fun _ => rfl) (fun _ => rfl) (Nat.le_of_ble_eq_true rfl) rfl k9) ?_
  refine qy (fun _ _ k9 => z_eq rfl rfl ((rput_sf (f' := qup f 0 0) rfl).trans (rput_cg (qup_self h0) rfl)) k9) ?_
  refine qy (fun _ _ k9 => z_iload_n d_X12_begun_5 rfl rfl k9) ?_
  refine qy (fun _ _ k9 => z_iconst d_X12_begun_6 (by decide) k9) ?_
  refine qy (fun _ _ k9 => z_bipush d_X12_begun_7 (by decide) k9) ?_
  refine qy (fun _ _ k9 => z_cs (M1 := M_X12_in) d_X12_begun_9 ls_X12_137 k_X12_in [qI (n : Int), qI 1, qI 32] rfl rfl (Nat.le_of_ble_eq_true rfl) (by decide) (by decide) (Nat.le_of_ble_eq_true rfl) (c_in (n : Int) 1 32) k9) ?_
  refine qy2n (fun _ _ => z_ifeqB 24 d_X12_begun_12 (by decide)) (fun hc1 => absurd hc1 (by omega)) (fun hc1 => ?_)
  refine qy (fun _ _ k9 => z_iload_n d_X12_begun_15 rfl rfl k9) ?_
  refine qy (fun _ _ k9 => z_iconst d_X12_begun_16 (by decide) k9) ?_
  refine qy (fun _ _ k9 => z_iconst d_X12_begun_17 (by decide) k9) ?_
  refine qy (fun _ _ k9 => z_cs (M1 := M_X12_in) d_X12_begun_18 ls_X12_137 k_X12_in [qI what, qI 0, qI 2] rfl rfl (Nat.le_of_ble_eq_true rfl) (by decide) (by decide) (Nat.le_of_ble_eq_true rfl) (c_in what 0 2) k9) ?_
  refine qy2 (fun _ _ => z_ifneB 26 d_X12_begun_21 (by decide)) (fun hc2 => ?_) (fun hc2 => absurd hc2 (by omega))
  refine qy (fun _ _ k9 => z_aload_n d_X12_begun_26 rfl rfl k9) ?_
  obtain ⟨y1, ⟨hlf, hlT, hlF⟩, hx1⟩ := y_laysOwn hm
  refine qy (fun _ _ k9 => z_cv0 (M1 := M_X12_laysOwn) d_X12_begun_27 lv_X12_275 k_X12_laysOwn [] rfl rfl rput_o ⟨_, _, rfl⟩ (Nat.le_of_ble_eq_true rfl) (by decide) (by decide) (Nat.le_of_ble_eq_true rfl) hx1 k9) ?_
  refine qy (fun _ _ k9 => z_iconst d_X12_begun_30 (by decide) k9) ?_
  refine qy (fun _ _ k9 => z_istore_n (ls' := [qR m, qI (n : Int), qI what, qI 0, qU, qU, qU, qU, qU]) d_X12_begun_31 rfl (by decide) rfl k9) ?_
  refine qy (fun _ _ k9 => z_iconst d_X12_begun_32 (by decide) k9) ?_
  refine qy (fun _ _ k9 => z_istore (ls' := [qR m, qI (n : Int), qI what, qI 0, qI (-1), qU, qU, qU, qU]) d_X12_begun_33 (by decide) rfl k9) ?_
  refine qy (fun _ _ k9 => z_iconst d_X12_begun_35 (by decide) k9) ?_
  refine qy (fun _ _ k9 => z_istore (ls' := [qR m, qI (n : Int), qI what, qI 0, qI (-1), qI (-1), qU, qU, qU]) d_X12_begun_36 (by decide) rfl k9) ?_
  refine qy (fun _ _ k9 => z_iconst d_X12_begun_38 (by decide) k9) ?_
  refine qy (fun _ _ k9 => z_istore (ls' := [qR m, qI (n : Int), qI what, qI 0, qI (-1), qI (-1), qI 0, qU, qU]) d_X12_begun_39 (by decide) rfl k9) ?_
  refine qy (fun _ _ k9 => z_iconst d_X12_begun_41 (by decide) k9) ?_
  refine qy (fun _ _ k9 => z_istore (ls' := [qR m, qI (n : Int), qI what, qI 0, qI (-1), qI (-1), qI 0, qI 0, qU]) d_X12_begun_42 (by decide) rfl k9) ?_
  refine qy (fun _ _ k9 => z_eq (qc rfl (qc rfl (qc rfl (qc (qi (rfl)) (qc (qi (rfl)) (qc (qi (rfl)) (qc (qi (rfl)) (qc (qi (by omega)) (qc rfl rfl))))))))) rfl rfl k9) (y_wh2 (fun (i : Nat) (x : Nat → Nat → Int) => n - i) (fun (i : Nat) (x : Nat → Nat → Int) => [qR m, qI (n : Int), qI what, qI ((bgF (ownT g) n i).1), qI ((bgF (ownT g) n i).2.1), qI ((bgF (ownT g) n i).2.2.1), qI ((bgF (ownT g) n i).2.2.2), qI (i : Int), qU]) (fun (i : Nat) (x : Nat → Nat → Int) => (rput h m f x)) (fun (i : Nat) (x : Nat → Nat → Int) => i ≤ n ∧ sq g x ∧ ∀ c, c < 648 → x 25 c = (ownT g) c) 0 y1 (⟨by omega, sq_fr hlf (by decide), hlT⟩) (fun i x hp kk => ?_))
  obtain ⟨hi, hs, hT⟩ := hp
  show qEy M_X12_begun 44 [qR m, qI (n : Int), qI what, qI ((bgF (ownT g) n i).1), qI ((bgF (ownT g) n i).2.1), qI ((bgF (ownT g) n i).2.2.1), qI ((bgF (ownT g) n i).2.2.2), qI (i : Int), qU] [] (rput h m f x) Q
  have hb1 := bgF_bd (T := (ownT g)) (n := n) i
  have hb2 := rnT_bd (T := (ownT g)) (n := n) (rg := 0) (b := i)
  refine qy (fun _ _ k9 => z_iload d_X12_begun_44 rfl k9) ?_
  refine qy (fun _ _ k9 => z_iload_n d_X12_begun_46 rfl rfl k9) ?_
  refine qy2 (fun _ _ => z_icmp_ge 129 d_X12_begun_47 (by decide)) (fun hc3 => ?_) (fun hc3 => ?_)
  · refine qy (fun _ _ k9 => z_iload_n d_X12_begun_129 rfl rfl k9) ?_
    suffices kJ130 : qEy M_X12_begun 149 [qR m, qI (n : Int), qI what, qI ((bgF (ownT g) n i).1), qI ((bgF (ownT g) n i).2.1), qI ((bgF (ownT g) n i).2.2.1), qI ((bgF (ownT g) n i).2.2.2), qI (i : Int), qU] [qI (qif (what ≠ 0) (qif (what ≠ 1) ((bgF (ownT g) n i).2.2.1) ((bgF (ownT g) n i).2.1)) ((bgF (ownT g) n i).1))] (rput h m f x) Q by
      refine qy2 (fun _ _ => z_if_ne 137 d_X12_begun_130 (by decide)) (fun hc4 => ?_) (fun hc4 => ?_)
      · refine qy (fun _ _ k9 => z_iload_n d_X12_begun_137 rfl rfl k9) ?_
        refine qy (fun _ _ k9 => z_iconst d_X12_begun_138 (by decide) k9) ?_
        suffices kJ139 : qEy M_X12_begun 149 [qR m, qI (n : Int), qI what, qI ((bgF (ownT g) n i).1), qI ((bgF (ownT g) n i).2.1), qI ((bgF (ownT g) n i).2.2.1), qI ((bgF (ownT g) n i).2.2.2), qI (i : Int), qU] [qI (qif (what ≠ 1) ((bgF (ownT g) n i).2.2.1) ((bgF (ownT g) n i).2.1))] (rput h m f x) Q by
          refine qy2 (fun _ _ => z_icmp_ne 147 d_X12_begun_139 (by decide)) (fun hc5 => ?_) (fun hc5 => ?_)
          · refine qy (fun _ _ k9 => z_iload d_X12_begun_147 rfl k9) ?_
            exact qy (fun _ _ k9 => z_eq rfl (qc (qi (qif_t hc5).symm) rfl) rfl k9) kJ139
          · refine qy (fun _ _ k9 => z_iload d_X12_begun_142 rfl k9) ?_
            refine qy (fun _ _ k9 => z_goto 149 d_X12_begun_144 (by decide) k9) ?_
            exact qy (fun _ _ k9 => z_eq rfl (qc (qi (qif_f hc5).symm) rfl) rfl k9) kJ139
        exact qy (fun _ _ k9 => z_eq rfl (qc (qi (qif_t hc4).symm) rfl) rfl k9) kJ130
      · refine qy (fun _ _ k9 => z_iload_n d_X12_begun_133 rfl rfl k9) ?_
        refine qy (fun _ _ k9 => z_goto 149 d_X12_begun_134 (by decide) k9) ?_
        exact qy (fun _ _ k9 => z_eq rfl (qc (qi (qif_f hc4).symm) rfl) rfl k9) kJ130
    exact y_ret (hQ x hs) (z_iret d_X12_begun_149 rfl (qsi (by rw [show i = n by omega])) rfl)
  · refine qy (fun _ _ k9 => z_aload_n d_X12_begun_50 rfl rfl k9) ?_
    refine qy (fun _ _ k9 => z_iload_n d_X12_begun_51 rfl rfl k9) ?_
    refine qy (fun _ _ k9 => z_iload d_X12_begun_52 rfl k9) ?_
    refine qy (fun _ _ k9 => z_iconst d_X12_begun_54 (by decide) k9) ?_
    obtain ⟨y2, ⟨hrf2, hrE2⟩, hx2⟩ := y_runs0 (f := f) (h := h) (n := n) (i : Int) (ownT g) hm (by omega) hT hOB
    refine qy (fun _ _ k9 => z_cv (M1 := M_X12_runs) d_X12_begun_55 lv_X12_340 k_X12_runs [qI (n : Int), qI (i : Int), qI 0] rfl rfl rput_o ⟨_, _, rfl⟩ (Nat.le_of_ble_eq_true rfl) (by decide) (by decide) (Nat.le_of_ble_eq_true rfl) hx2 k9) ?_
    refine qy (fun _ _ k9 => z_istore (ls' := [qR m, qI (n : Int), qI what, qI ((bgF (ownT g) n i).1), qI ((bgF (ownT g) n i).2.1), qI ((bgF (ownT g) n i).2.2.1), qI ((bgF (ownT g) n i).2.2.2), qI (i : Int), qI (rnT (ownT g) n 0 (i : Int))]) d_X12_begun_58 (by decide) rfl k9) ?_
    refine qy (fun _ _ k9 => z_iload d_X12_begun_60 rfl k9) ?_
    refine qy (fun _ _ k9 => z_iconst d_X12_begun_62 (by decide) k9) ?_
    refine qy2 (fun _ _ => z_icmp_eq 78 d_X12_begun_63 (by decide)) (fun hc6 => ?_) (fun hc6 => ?_)
    · refine qy (fun _ _ k9 => z_iload d_X12_begun_78 rfl k9) ?_
      refine qy (fun _ _ k9 => z_iconst d_X12_begun_80 (by decide) k9) ?_
      refine qy2 (fun _ _ => z_icmp_ne 89 d_X12_begun_81 (by decide)) (fun hc7 => ?_) (fun hc7 => ?_)
      · refine qy (fun _ _ k9 => z_iload d_X12_begun_89 rfl k9) ?_
        refine qy (fun _ _ k9 => z_istore (ls' := [qR m, qI (n : Int), qI what, qI ((bgF (ownT g) n i).1), qI ((bgF (ownT g) n i).2.1), qI ((bgF (ownT g) n i).2.2.1), qI ((bgF (ownT g) n i).2.2.2), qI (i : Int), qI (rnT (ownT g) n 0 (i : Int))]) d_X12_begun_91 (by decide) rfl k9) ?_
        refine qy (fun _ _ k9 => z_goto 123 d_X12_begun_93 (by decide) k9) ?_
        refine qy (fun _ _ k9 => z_iinc (ls' := [qR m, qI (n : Int), qI what, qI ((bgF (ownT g) n i).1), qI ((bgF (ownT g) n i).2.1), qI ((bgF (ownT g) n i).2.2.1), qI ((bgF (ownT g) n i).2.2.2), qI ((i : Int) + 1), qI (rnT (ownT g) n 0 (i : Int))]) d_X12_begun_123 rfl (by decide) (by omega) rfl k9) ?_
        refine qy (fun _ _ k9 => z_goto 44 d_X12_begun_126 (by decide) k9) ?_
        exact qy (fun _ _ k9 => z_dr (qle_k rfl (qle_k rfl (qle_k rfl (qle_k (qi (by show _ = (bgSt (ownT g) n i (bgF (ownT g) n i)).1; unfold bgSt; repeat first | rw [qif_t (by first | assumption | omega)] | rw [qif_f (by first | assumption | omega)])) (qle_k (qi (by show _ = (bgSt (ownT g) n i (bgF (ownT g) n i)).2.1; unfold bgSt; repeat first | rw [qif_t (by first | assumption | omega)] | rw [qif_f (by first | assumption | omega)])) (qle_k (qi (by show _ = (bgSt (ownT g) n i (bgF (ownT g) n i)).2.2.1; unfold bgSt; repeat first | rw [qif_t (by first | assumption | omega)] | rw [qif_f (by first | assumption | omega)])) (qle_k (qi (by show _ = (bgSt (ownT g) n i (bgF (ownT g) n i)).2.2.2; unfold bgSt; repeat first | rw [qif_t (by first | assumption | omega)] | rw [qif_f (by first | assumption | omega)])) (qle_k (qi (by omega)) (qle_d qle_n))))))))) rfl rfl k9) (kk (i + 1) y2 (⟨by omega, (sq_tr hs (sq_fr hrf2 (by decide))), fr_at hrf2 25 (by decide) hT⟩) (by omega))
      · refine qy (fun _ _ k9 => z_iload d_X12_begun_84 rfl k9) ?_
        refine qy (fun _ _ k9 => z_goto 91 d_X12_begun_86 (by decide) k9) ?_
        refine qy (fun _ _ k9 => z_istore (ls' := [qR m, qI (n : Int), qI what, qI ((bgF (ownT g) n i).1), qI (i : Int), qI ((bgF (ownT g) n i).2.2.1), qI ((bgF (ownT g) n i).2.2.2), qI (i : Int), qI (rnT (ownT g) n 0 (i : Int))]) d_X12_begun_91 (by decide) rfl k9) ?_
        refine qy (fun _ _ k9 => z_goto 123 d_X12_begun_93 (by decide) k9) ?_
        refine qy (fun _ _ k9 => z_iinc (ls' := [qR m, qI (n : Int), qI what, qI ((bgF (ownT g) n i).1), qI (i : Int), qI ((bgF (ownT g) n i).2.2.1), qI ((bgF (ownT g) n i).2.2.2), qI ((i : Int) + 1), qI (rnT (ownT g) n 0 (i : Int))]) d_X12_begun_123 rfl (by decide) (by omega) rfl k9) ?_
        refine qy (fun _ _ k9 => z_goto 44 d_X12_begun_126 (by decide) k9) ?_
        exact qy (fun _ _ k9 => z_dr (qle_k rfl (qle_k rfl (qle_k rfl (qle_k (qi (by show _ = (bgSt (ownT g) n i (bgF (ownT g) n i)).1; unfold bgSt; repeat first | rw [qif_t (by first | assumption | omega)] | rw [qif_f (by first | assumption | omega)])) (qle_k (qi (by show _ = (bgSt (ownT g) n i (bgF (ownT g) n i)).2.1; unfold bgSt; repeat first | rw [qif_t (by first | assumption | omega)] | rw [qif_f (by first | assumption | omega)])) (qle_k (qi (by show _ = (bgSt (ownT g) n i (bgF (ownT g) n i)).2.2.1; unfold bgSt; repeat first | rw [qif_t (by first | assumption | omega)] | rw [qif_f (by first | assumption | omega)])) (qle_k (qi (by show _ = (bgSt (ownT g) n i (bgF (ownT g) n i)).2.2.2; unfold bgSt; repeat first | rw [qif_t (by first | assumption | omega)] | rw [qif_f (by first | assumption | omega)])) (qle_k (qi (by omega)) (qle_d qle_n))))))))) rfl rfl k9) (kk (i + 1) y2 (⟨by omega, (sq_tr hs (sq_fr hrf2 (by decide))), fr_at hrf2 25 (by decide) hT⟩) (by omega))
    · refine qy (fun _ _ k9 => z_aload_n d_X12_begun_66 rfl rfl k9) ?_
      refine qy (fun _ _ k9 => z_getf (v := qR (m + 28)) d_X12_begun_67 fl_X12_95 rput_o rfl k9) ?_
      refine qy (fun _ _ k9 => z_iload_n d_X12_begun_70 rfl rfl k9) ?_
      refine qy (fun _ _ k9 => z_cs (M1 := M_X12_litIn) d_X12_begun_71 ls_X12_302 k_X12_litIn [qR (m + 28), qI (n : Int)] rfl rfl (Nat.le_of_ble_eq_true rfl) (by decide) (by decide) (Nat.le_of_ble_eq_true rfl) (c_litIn n (rput_a2 28 (t := 0) (n := 32) (F := (y2 28)) rfl rfl rfl (by decide) (by decide)) (by omega) (by decide)) k9) ?_
      refine qy (fun _ _ k9 => z_eq rfl (qc (qi (show (cnt (fun q9 => (y2 28) q9 = 7) n) = (cnt (fun k => rnE (ownT g) n 0 i k = 7) n) from cnt_congr (fun k hk => by rw [hrE2 k hk]))) rfl) rfl k9) ?_
      refine qy (fun _ _ k9 => z_iload_n d_X12_begun_74 rfl rfl k9) ?_
      refine qy2 (fun _ _ => z_icmp_ge 96 d_X12_begun_75 (by decide)) (fun hc8 => ?_) (fun hc8 => ?_)
      · refine qy (fun _ _ k9 => z_iinc (ls' := [qR m, qI (n : Int), qI what, qI (((bgF (ownT g) n i).1) + 1), qI ((bgF (ownT g) n i).2.1), qI ((bgF (ownT g) n i).2.2.1), qI ((bgF (ownT g) n i).2.2.2), qI (i : Int), qI (rnT (ownT g) n 0 (i : Int))]) d_X12_begun_96 rfl (by decide) (by omega) rfl k9) ?_
        refine qy (fun _ _ k9 => z_iload d_X12_begun_99 rfl k9) ?_
        refine qy (fun _ _ k9 => z_iconst d_X12_begun_101 (by decide) k9) ?_
        refine qy2 (fun _ _ => z_icmp_eq 115 d_X12_begun_102 (by decide)) (fun hc9 => ?_) (fun hc9 => ?_)
        · refine qy (fun _ _ k9 => z_iload d_X12_begun_115 rfl k9) ?_
          refine qy (fun _ _ k9 => z_istore (ls' := [qR m, qI (n : Int), qI what, qI (((bgF (ownT g) n i).1) + 1), qI ((bgF (ownT g) n i).2.1), qI (i : Int), qI ((bgF (ownT g) n i).2.2.2), qI (i : Int), qI (rnT (ownT g) n 0 (i : Int))]) d_X12_begun_117 (by decide) rfl k9) ?_
          refine qy (fun _ _ k9 => z_iload d_X12_begun_119 rfl k9) ?_
          refine qy (fun _ _ k9 => z_istore (ls' := [qR m, qI (n : Int), qI what, qI (((bgF (ownT g) n i).1) + 1), qI ((bgF (ownT g) n i).2.1), qI (i : Int), qI (rnT (ownT g) n 0 (i : Int)), qI (i : Int), qI (rnT (ownT g) n 0 (i : Int))]) d_X12_begun_121 (by decide) rfl k9) ?_
          refine qy (fun _ _ k9 => z_iinc (ls' := [qR m, qI (n : Int), qI what, qI (((bgF (ownT g) n i).1) + 1), qI ((bgF (ownT g) n i).2.1), qI (i : Int), qI (rnT (ownT g) n 0 (i : Int)), qI ((i : Int) + 1), qI (rnT (ownT g) n 0 (i : Int))]) d_X12_begun_123 rfl (by decide) (by omega) rfl k9) ?_
          refine qy (fun _ _ k9 => z_goto 44 d_X12_begun_126 (by decide) k9) ?_
          exact qy (fun _ _ k9 => z_dr (qle_k rfl (qle_k rfl (qle_k rfl (qle_k (qi (by show _ = (bgSt (ownT g) n i (bgF (ownT g) n i)).1; unfold bgSt; repeat first | rw [qif_t (by first | assumption | omega)] | rw [qif_f (by first | assumption | omega)])) (qle_k (qi (by show _ = (bgSt (ownT g) n i (bgF (ownT g) n i)).2.1; unfold bgSt; repeat first | rw [qif_t (by first | assumption | omega)] | rw [qif_f (by first | assumption | omega)])) (qle_k (qi (by show _ = (bgSt (ownT g) n i (bgF (ownT g) n i)).2.2.1; unfold bgSt; repeat first | rw [qif_t (by first | assumption | omega)] | rw [qif_f (by first | assumption | omega)])) (qle_k (qi (by show _ = (bgSt (ownT g) n i (bgF (ownT g) n i)).2.2.2; unfold bgSt; repeat first | rw [qif_t (by first | assumption | omega)] | rw [qif_f (by first | assumption | omega)])) (qle_k (qi (by omega)) (qle_d qle_n))))))))) rfl rfl k9) (kk (i + 1) y2 (⟨by omega, (sq_tr hs (sq_fr hrf2 (by decide))), fr_at hrf2 25 (by decide) hT⟩) (by omega))
        · refine qy (fun _ _ k9 => z_iload d_X12_begun_105 rfl k9) ?_
          refine qy (fun _ _ k9 => z_iload d_X12_begun_107 rfl k9) ?_
          refine qy2 (fun _ _ => z_icmp_lt 115 d_X12_begun_109 (by decide)) (fun hc10 => ?_) (fun hc10 => ?_)
          · refine qy (fun _ _ k9 => z_iload d_X12_begun_115 rfl k9) ?_
            refine qy (fun _ _ k9 => z_istore (ls' := [qR m, qI (n : Int), qI what, qI (((bgF (ownT g) n i).1) + 1), qI ((bgF (ownT g) n i).2.1), qI (i : Int), qI ((bgF (ownT g) n i).2.2.2), qI (i : Int), qI (rnT (ownT g) n 0 (i : Int))]) d_X12_begun_117 (by decide) rfl k9) ?_
            refine qy (fun _ _ k9 => z_iload d_X12_begun_119 rfl k9) ?_
            refine qy (fun _ _ k9 => z_istore (ls' := [qR m, qI (n : Int), qI what, qI (((bgF (ownT g) n i).1) + 1), qI ((bgF (ownT g) n i).2.1), qI (i : Int), qI (rnT (ownT g) n 0 (i : Int)), qI (i : Int), qI (rnT (ownT g) n 0 (i : Int))]) d_X12_begun_121 (by decide) rfl k9) ?_
            refine qy (fun _ _ k9 => z_iinc (ls' := [qR m, qI (n : Int), qI what, qI (((bgF (ownT g) n i).1) + 1), qI ((bgF (ownT g) n i).2.1), qI (i : Int), qI (rnT (ownT g) n 0 (i : Int)), qI ((i : Int) + 1), qI (rnT (ownT g) n 0 (i : Int))]) d_X12_begun_123 rfl (by decide) (by omega) rfl k9) ?_
            refine qy (fun _ _ k9 => z_goto 44 d_X12_begun_126 (by decide) k9) ?_
            exact qy (fun _ _ k9 => z_dr (qle_k rfl (qle_k rfl (qle_k rfl (qle_k (qi (by show _ = (bgSt (ownT g) n i (bgF (ownT g) n i)).1; unfold bgSt; repeat first | rw [qif_t (by first | assumption | omega)] | rw [qif_f (by first | assumption | omega)])) (qle_k (qi (by show _ = (bgSt (ownT g) n i (bgF (ownT g) n i)).2.1; unfold bgSt; repeat first | rw [qif_t (by first | assumption | omega)] | rw [qif_f (by first | assumption | omega)])) (qle_k (qi (by show _ = (bgSt (ownT g) n i (bgF (ownT g) n i)).2.2.1; unfold bgSt; repeat first | rw [qif_t (by first | assumption | omega)] | rw [qif_f (by first | assumption | omega)])) (qle_k (qi (by show _ = (bgSt (ownT g) n i (bgF (ownT g) n i)).2.2.2; unfold bgSt; repeat first | rw [qif_t (by first | assumption | omega)] | rw [qif_f (by first | assumption | omega)])) (qle_k (qi (by omega)) (qle_d qle_n))))))))) rfl rfl k9) (kk (i + 1) y2 (⟨by omega, (sq_tr hs (sq_fr hrf2 (by decide))), fr_at hrf2 25 (by decide) hT⟩) (by omega))
          · refine qy (fun _ _ k9 => z_goto 123 d_X12_begun_112 (by decide) k9) ?_
            refine qy (fun _ _ k9 => z_iinc (ls' := [qR m, qI (n : Int), qI what, qI (((bgF (ownT g) n i).1) + 1), qI ((bgF (ownT g) n i).2.1), qI ((bgF (ownT g) n i).2.2.1), qI ((bgF (ownT g) n i).2.2.2), qI ((i : Int) + 1), qI (rnT (ownT g) n 0 (i : Int))]) d_X12_begun_123 rfl (by decide) (by omega) rfl k9) ?_
            refine qy (fun _ _ k9 => z_goto 44 d_X12_begun_126 (by decide) k9) ?_
            exact qy (fun _ _ k9 => z_dr (qle_k rfl (qle_k rfl (qle_k rfl (qle_k (qi (by show _ = (bgSt (ownT g) n i (bgF (ownT g) n i)).1; unfold bgSt; repeat first | rw [qif_t (by first | assumption | omega)] | rw [qif_f (by first | assumption | omega)])) (qle_k (qi (by show _ = (bgSt (ownT g) n i (bgF (ownT g) n i)).2.1; unfold bgSt; repeat first | rw [qif_t (by first | assumption | omega)] | rw [qif_f (by first | assumption | omega)])) (qle_k (qi (by show _ = (bgSt (ownT g) n i (bgF (ownT g) n i)).2.2.1; unfold bgSt; repeat first | rw [qif_t (by first | assumption | omega)] | rw [qif_f (by first | assumption | omega)])) (qle_k (qi (by show _ = (bgSt (ownT g) n i (bgF (ownT g) n i)).2.2.2; unfold bgSt; repeat first | rw [qif_t (by first | assumption | omega)] | rw [qif_f (by first | assumption | omega)])) (qle_k (qi (by omega)) (qle_d qle_n))))))))) rfl rfl k9) (kk (i + 1) y2 (⟨by omega, (sq_tr hs (sq_fr hrf2 (by decide))), fr_at hrf2 25 (by decide) hT⟩) (by omega))
      · refine qy (fun _ _ k9 => z_iload d_X12_begun_78 rfl k9) ?_
        refine qy (fun _ _ k9 => z_iconst d_X12_begun_80 (by decide) k9) ?_
        refine qy2 (fun _ _ => z_icmp_ne 89 d_X12_begun_81 (by decide)) (fun hc11 => ?_) (fun hc11 => ?_)
        · refine qy (fun _ _ k9 => z_iload d_X12_begun_89 rfl k9) ?_
          refine qy (fun _ _ k9 => z_istore (ls' := [qR m, qI (n : Int), qI what, qI ((bgF (ownT g) n i).1), qI ((bgF (ownT g) n i).2.1), qI ((bgF (ownT g) n i).2.2.1), qI ((bgF (ownT g) n i).2.2.2), qI (i : Int), qI (rnT (ownT g) n 0 (i : Int))]) d_X12_begun_91 (by decide) rfl k9) ?_
          refine qy (fun _ _ k9 => z_goto 123 d_X12_begun_93 (by decide) k9) ?_
          refine qy (fun _ _ k9 => z_iinc (ls' := [qR m, qI (n : Int), qI what, qI ((bgF (ownT g) n i).1), qI ((bgF (ownT g) n i).2.1), qI ((bgF (ownT g) n i).2.2.1), qI ((bgF (ownT g) n i).2.2.2), qI ((i : Int) + 1), qI (rnT (ownT g) n 0 (i : Int))]) d_X12_begun_123 rfl (by decide) (by omega) rfl k9) ?_
          refine qy (fun _ _ k9 => z_goto 44 d_X12_begun_126 (by decide) k9) ?_
          exact qy (fun _ _ k9 => z_dr (qle_k rfl (qle_k rfl (qle_k rfl (qle_k (qi (by show _ = (bgSt (ownT g) n i (bgF (ownT g) n i)).1; unfold bgSt; repeat first | rw [qif_t (by first | assumption | omega)] | rw [qif_f (by first | assumption | omega)])) (qle_k (qi (by show _ = (bgSt (ownT g) n i (bgF (ownT g) n i)).2.1; unfold bgSt; repeat first | rw [qif_t (by first | assumption | omega)] | rw [qif_f (by first | assumption | omega)])) (qle_k (qi (by show _ = (bgSt (ownT g) n i (bgF (ownT g) n i)).2.2.1; unfold bgSt; repeat first | rw [qif_t (by first | assumption | omega)] | rw [qif_f (by first | assumption | omega)])) (qle_k (qi (by show _ = (bgSt (ownT g) n i (bgF (ownT g) n i)).2.2.2; unfold bgSt; repeat first | rw [qif_t (by first | assumption | omega)] | rw [qif_f (by first | assumption | omega)])) (qle_k (qi (by omega)) (qle_d qle_n))))))))) rfl rfl k9) (kk (i + 1) y2 (⟨by omega, (sq_tr hs (sq_fr hrf2 (by decide))), fr_at hrf2 25 (by decide) hT⟩) (by omega))
        · refine qy (fun _ _ k9 => z_iload d_X12_begun_84 rfl k9) ?_
          refine qy (fun _ _ k9 => z_goto 91 d_X12_begun_86 (by decide) k9) ?_
          refine qy (fun _ _ k9 => z_istore (ls' := [qR m, qI (n : Int), qI what, qI ((bgF (ownT g) n i).1), qI (i : Int), qI ((bgF (ownT g) n i).2.2.1), qI ((bgF (ownT g) n i).2.2.2), qI (i : Int), qI (rnT (ownT g) n 0 (i : Int))]) d_X12_begun_91 (by decide) rfl k9) ?_
          refine qy (fun _ _ k9 => z_goto 123 d_X12_begun_93 (by decide) k9) ?_
          refine qy (fun _ _ k9 => z_iinc (ls' := [qR m, qI (n : Int), qI what, qI ((bgF (ownT g) n i).1), qI (i : Int), qI ((bgF (ownT g) n i).2.2.1), qI ((bgF (ownT g) n i).2.2.2), qI ((i : Int) + 1), qI (rnT (ownT g) n 0 (i : Int))]) d_X12_begun_123 rfl (by decide) (by omega) rfl k9) ?_
          refine qy (fun _ _ k9 => z_goto 44 d_X12_begun_126 (by decide) k9) ?_
          exact qy (fun _ _ k9 => z_dr (qle_k rfl (qle_k rfl (qle_k rfl (qle_k (qi (by show _ = (bgSt (ownT g) n i (bgF (ownT g) n i)).1; unfold bgSt; repeat first | rw [qif_t (by first | assumption | omega)] | rw [qif_f (by first | assumption | omega)])) (qle_k (qi (by show _ = (bgSt (ownT g) n i (bgF (ownT g) n i)).2.1; unfold bgSt; repeat first | rw [qif_t (by first | assumption | omega)] | rw [qif_f (by first | assumption | omega)])) (qle_k (qi (by show _ = (bgSt (ownT g) n i (bgF (ownT g) n i)).2.2.1; unfold bgSt; repeat first | rw [qif_t (by first | assumption | omega)] | rw [qif_f (by first | assumption | omega)])) (qle_k (qi (by show _ = (bgSt (ownT g) n i (bgF (ownT g) n i)).2.2.2; unfold bgSt; repeat first | rw [qif_t (by first | assumption | omega)] | rw [qif_f (by first | assumption | omega)])) (qle_k (qi (by omega)) (qle_d qle_n))))))))) rfl rfl k9) (kk (i + 1) y2 (⟨by omega, (sq_tr hs (sq_fr hrf2 (by decide))), fr_at hrf2 25 (by decide) hT⟩) (by omega))
set_option maxRecDepth 20000 in
set_option maxHeartbeats 4000000 in
theorem c_begun_no {h : qH} {m : Nat} {f : Nat → Int} {g : Nat → Nat → Int} (n what : Int) (hm : 2 ≤ m) (h0 : f 0 = 0) (hno : ¬ ((1 ≤ n ∧ n ≤ 32) ∧ 0 ≤ what ∧ what ≤ 2)) : qEx M_X12_begun 0 [qR m, qI n, qI what, qU, qU, qU, qU, qU, qU] [] (rput h m f g) (some (qI (-1))) (rput h m f g) := by
  refine q_gen (fun r hr er eh => ?_)
  refine z_aload_n d_X12_begun_0 rfl rfl ?_
  refine z_iconst d_X12_begun_1 (by decide) ?_
  refine z_putf (fs' := [qI 0, qI (f 1), qI (f 2), qI (f 3), qI (f 4), qI (f 5), qI (f 6), qI (f 7), qR (m + 1), qR (m + 2), qR (m + 3), qR (m + 4), qR (m + 5), qR (m + 6), qR (m + 7), qR (m + 8), qR (m + 9), qR (m + 10), qI (f 18), qI (f 19), qI (f 20), qR (m + 11), qR (m + 12), qR (m + 13), qR (m + 14), qI (f 25), qR (m + 15), qI (f 27), qR (m + 16), qR (m + 17), qR (m + 18), qR (m + 19), qR (m + 20), qR (m + 21), qR (m + 22), qR (m + 23), qR (m + 24), qI (f 37), qI (f 38), qI (f 39), qI (f 40), qR (m + 25), qR (m + 26), qR (m + 27), qR (m + 28), qR (m + 29), qR (m + 30), qR (m + 31), qI (f 48), qR (m + 32), qR (m + 33), qR (m + 34), qR (m + 35), qR (m + 36), qR (m + 37)]) d_X12_begun_2 fp_X12_127 rput_o (fun _ => rfl) (fun _ => rfl) (Nat.le_of_ble_eq_true rfl) rfl ?_
  refine z_eq rfl rfl ((rput_sf (f' := qup f 0 0) rfl).trans (rput_cg (qup_self h0) rfl)) ?_
  refine z_iload_n d_X12_begun_5 rfl rfl ?_
  refine z_iconst d_X12_begun_6 (by decide) ?_
  refine z_bipush d_X12_begun_7 (by decide) ?_
  refine z_cs (M1 := M_X12_in) d_X12_begun_9 ls_X12_137 k_X12_in [qI n, qI 1, qI 32] rfl rfl (Nat.le_of_ble_eq_true rfl) (by decide) (by decide) (Nat.le_of_ble_eq_true rfl) (c_in n 1 32) ?_
  refine z_ifeqB 24 d_X12_begun_12 (by decide) (fun hc1 => ?_) (fun hc1 => ?_)
  · refine z_iconst d_X12_begun_24 (by decide) ?_
    exact z_iret d_X12_begun_25 rfl er eh
  · refine z_iload_n d_X12_begun_15 rfl rfl ?_
    refine z_iconst d_X12_begun_16 (by decide) ?_
    refine z_iconst d_X12_begun_17 (by decide) ?_
    refine z_cs (M1 := M_X12_in) d_X12_begun_18 ls_X12_137 k_X12_in [qI what, qI 0, qI 2] rfl rfl (Nat.le_of_ble_eq_true rfl) (by decide) (by decide) (Nat.le_of_ble_eq_true rfl) (c_in what 0 2) ?_
    refine z_ifneB 26 d_X12_begun_21 (by decide) (fun hc2 => ?_) (fun hc2 => ?_)
    · exact absurd (by omega) hno
    · refine z_iconst d_X12_begun_24 (by decide) ?_
      exact z_iret d_X12_begun_25 rfl er eh
