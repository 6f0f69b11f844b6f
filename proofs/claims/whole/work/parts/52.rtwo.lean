/-! ===== CONTRACTS: the reference: isTwo, two ===== -/
theorem rsG_gen {g X : Nat → Nat → Int} {T F : Nat → Int} {n rg t : Nat} {df : Int} (h28 : X 28 = qmx n F (g 28)) (h29 : ∃ (c : Nat) (Y : Nat → Int), c ≤ n ∧ X 29 = qmx c Y (g 29)) (ho : ∀ j, j ≠ 28 → j ≠ 29 → X j = g j) (hF : ∀ k, k < n → 0 ≤ F k ∧ F k ≤ 7) :
    gup (gup X 29 (qmx n (stp T n rg df (X 28)) (X 29))) 28 (qmx n (stp T n rg df (X 28)) (X 28)) = rsG g n (stp T n rg df F) (t + 1) := by
  obtain ⟨c, Y, hc, h29⟩ := h29
  have hF2 : ∀ k, k < n → 0 ≤ qmx n F (g 28) k ∧ qmx n F (g 28) k ≤ 7 := fun k hk => by rw [qmx_lt hk]; exact hF k hk
  have hs : ∀ k, k < n → stp T n rg df (qmx n F (g 28)) k = stp T n rg df F k := fun k hk => stp_cg hk (fun _ _ => rfl) (fun j hj => qmx_lt hj) hF2
  rw [h28, h29, qmx_mx _ _ _ (Nat.le_refl _), qmx_mx _ _ _ hc, qmx_cg hs, qmx_cg hs]
  funext j
  unfold rsG
  rw [if_neg (show ¬ t + 1 = 0 by omega)]
  by_cases h1 : j = 28
  · subst h1; rfl
  · by_cases h2 : j = 29
    · subst h2; rfl
    · rw [gup_ne h1, gup_ne h2, gup_ne h2, gup_ne h1, ho j h1 h2]
theorem rsG_scr {g : Nat → Nat → Int} {n t : Nat} {E : Nat → Int} (h : t ≠ 0) : rsG g n E t = scr g n E := by
  unfold rsG scr
  rw [if_neg h]
/-- two begin: at the left end at once, at the right end before breath d + 1 -/
noncomputable def twM (n : Nat) (d : Int) (t : Nat) (F : Nat → Int) : Nat → Int := qif ((t : Int) = d) (qup F (n - 1) 1) F
noncomputable def tw (T : Nat → Int) (n : Nat) (d : Int) : Nat → Nat → Int
  | 0 => fun k => qb ((k : Int) = 0)
  | t + 1 => stp T n 0 (-1) (twM n d t (tw T n d t))
theorem twM_bd {n : Nat} {d : Int} {t : Nat} {F : Nat → Int} (hF : ∀ k, k < n → 0 ≤ F k ∧ F k ≤ 7) : ∀ k, k < n → 0 ≤ twM n d t F k ∧ twM n d t F k ≤ 7 := by
  intro k hk
  have h := hF k hk
  unfold twM
  by_cases e : (t : Int) = d
  · rw [qif_t e]
    by_cases e2 : k = n - 1
    · rw [e2, qup_eq]; decide
    · rw [qup_ne e2]; exact h
  · rw [qif_f e]; exact h
theorem tw_bd {T : Nat → Int} {n : Nat} {d : Int} (hT : ∀ c, c < 648 → 0 ≤ T c ∧ T c ≤ 7) : ∀ (t k : Nat), k < n → 0 ≤ tw T n d t k ∧ tw T n d t k ≤ 7
  | 0, k, _ => by
    have := qb_bd ((k : Int) = 0)
    show 0 ≤ qb _ ∧ qb _ ≤ (7 : Int)
    omega
  | t + 1, k, hk => stp_bd hk hT (twM_bd (tw_bd hT t))
noncomputable def twJ (T : Nat → Int) (n : Nat) (d : Int) : Int := fst (fun t : Nat => cnt (fun k => tw T n d (t + 1) k = 7) n > 0) (3 * n + 20)
noncomputable def twN (T : Nat → Int) (n : Nat) (d : Int) : Nat := if twJ T n d = -1 then 3 * n + 20 else (twJ T n d).toNat + 1
def twG (T : Nat → Int) (n : Nat) (d : Int) : Prop := twJ T n d ≠ -1 ∧ cnt (fun k => tw T n d (twN T n d) k = 7) n = n
theorem tw_up {n : Nat} (hn : 1 ≤ n) {F Z : Nat → Int} (v : Int) : qup (qmx n F Z) (n - 1) v = qmx n (qup F (n - 1) v) Z := by
  funext j
  unfold qup qmx
  by_cases h : j = n - 1
  · simp only [if_pos h, if_pos (show j < n by omega)]
  · rw [if_neg h]
    by_cases h2 : j < n
    · simp only [if_pos h2, if_neg h]
    · simp only [if_neg h2]
set_option maxRecDepth 20000 in
set_option maxHeartbeats 4000000 in
theorem c_isTwo {h : qH} {m : Nat} {f : Nat → Int} {g : Nat → Nat → Int} {n : Nat} (d : Int) (hm : 2 ≤ m) (hn : 1 ≤ n ∧ n ≤ 32) (hT : ∀ c, c < 648 → 0 ≤ g 25 c ∧ g 25 c ≤ 7) : qEx M_X12_isTwo 0 [qR m, qI (n : Int), qI d, qU] [] (rput h m f g) (some (qI (qb (twG (g 25) n d)))) (rput h m f (scr g n (tw (g 25) n d (twN (g 25) n d)))) := by
  refine q_gen (fun r hr er eh => ?_)
  refine z_aload_n d_X12_isTwo_0 rfl rfl ?_
  refine z_getf (v := qR (m + 28)) d_X12_isTwo_1 fl_X12_95 rput_o rfl ?_
  refine z_iload_n d_X12_isTwo_4 rfl rfl ?_
  refine z_iconst d_X12_isTwo_5 (by decide) ?_
  refine z_cs0 (M1 := M_X12_begins) d_X12_isTwo_6 ls_X12_329 k_X12_begins [qR (m + 28), qI (n : Int), qI 0] rfl rfl (Nat.le_of_ble_eq_true rfl) (by decide) (by decide) (Nat.le_of_ble_eq_true rfl) (c_begins n 0 (rput_a2 28 (t := 0) (n := 32) (F := (g 28)) rfl rfl rfl (by decide) (by decide)) (by omega) (by omega) (by decide)) ?_
  refine z_eq rfl rfl (rput_sa 28 rfl rfl (by decide) (by decide)) ?_
  refine z_iconst d_X12_isTwo_9 (by decide) ?_
  refine z_istore_n (ls' := [qR m, qI (n : Int), qI d, qI 0]) d_X12_isTwo_10 rfl (by decide) rfl ?_
  refine z_eq (qc rfl (qc rfl (qc rfl (qc (qi (by omega)) rfl)))) rfl (rput_cg rfl rsG_0.symm) (z_for (3 * n + 20) (fun i => [qR m, qI (n : Int), qI d, qI (i : Int)]) (fun i => (rput h m f (rsG g n (tw (g 25) n d i) i))) (fun i => ∀ k, k < i → ¬ cnt (fun q9 => (tw (g 25) n d (k + 1)) q9 = 7) n > 0) (fun k hk => absurd hk (by omega)) (fun i hii hp kki => ?_) (fun hp => ?_))
  · show qEx M_X12_isTwo 11 [qR m, qI (n : Int), qI d, qI (i : Int)] [] (rput h m f (rsG g n (tw (g 25) n d i) i)) r hr
    refine z_iload_n d_X12_isTwo_11 rfl rfl ?_
    refine z_iload_n d_X12_isTwo_12 rfl rfl ?_
    refine z_cs (M1 := M_X12_longest) d_X12_isTwo_13 ls_X12_333 k_X12_longest [qI (n : Int)] rfl rfl (Nat.le_of_ble_eq_true rfl) (by decide) (by decide) (Nat.le_of_ble_eq_true rfl) (c_longest (n : Int) (by omega)) ?_
    refine z_icmp_ge 83 d_X12_isTwo_16 (by decide) (fun hc1 => absurd hc1 (by omega)) (fun hc1 => ?_)
    refine z_iload_n d_X12_isTwo_19 rfl rfl ?_
    refine z_iload_n d_X12_isTwo_20 rfl rfl ?_
    refine z_icmp_ne 33 d_X12_isTwo_21 (by decide) (fun hd9 => ?_) (fun hd9 => ?_)
    · refine z_eq rfl rfl (rput_cg rfl (gup_self (k := 28) (show qmx n (tw (g 25) n d i) (g 28) = qmx n (twM n d i (tw (g 25) n d i)) (g 28) from qmx_cg (fun k hk => by unfold twM; rw [qif_f hd9]))).symm) ?_
      refine z_aload_n d_X12_isTwo_33 rfl rfl ?_
      refine z_aload_n d_X12_isTwo_34 rfl rfl ?_
      refine z_getf (v := qR (m + 28)) d_X12_isTwo_35 fl_X12_95 rput_o rfl ?_
      refine z_iload_n d_X12_isTwo_38 rfl rfl ?_
      refine z_iconst d_X12_isTwo_39 (by decide) ?_
      refine z_iconst d_X12_isTwo_40 (by decide) ?_
      refine z_aload_n d_X12_isTwo_41 rfl rfl ?_
      refine z_getf (v := qR (m + 25)) d_X12_isTwo_42 fl_X12_86 rput_o rfl ?_
      refine z_cv0 (M1 := M_X12_steps) d_X12_isTwo_45 lv_X12_336 k_X12_steps [qR (m + 28), qI (n : Int), qI 0, qI (-1), qR (m + 25)] rfl rfl rput_o ⟨_, _, rfl⟩ (Nat.le_of_ble_eq_true rfl) (by decide) (by decide) (Nat.le_of_ble_eq_true rfl) (c_steps28_0 (n := n) (-1) hm (by omega) (fun q9 hq9 => show 0 ≤ qmx n (twM n d i (tw (g 25) n d i)) (g 28) q9 ∧ qmx n (twM n d i (tw (g 25) n d i)) (g 28) q9 ≤ 7 by rw [qmx_lt hq9]; exact twM_bd (tw_bd hT i) q9 hq9)) ?_
      refine z_eq rfl rfl (rput_cg rfl (show _ = (rsG g n (tw (g 25) n d (i + 1)) (i + 1)) from rsG_gen (T := g 25) (F := (twM n d i (tw (g 25) n d i))) (t := i) (gup_eq _ _) ⟨if i = 0 then 0 else n, _, (by split <;> omega), rfl⟩ (fun j h1 h2 => (gup_ne h1).trans ((gup_ne h2).trans (gup_ne h1))) (twM_bd (tw_bd hT i)))) ?_
      refine z_aload_n d_X12_isTwo_48 rfl rfl ?_
      refine z_getf (v := qR (m + 28)) d_X12_isTwo_49 fl_X12_95 rput_o rfl ?_
      refine z_iload_n d_X12_isTwo_52 rfl rfl ?_
      refine z_cs (M1 := M_X12_litIn) d_X12_isTwo_53 ls_X12_302 k_X12_litIn [qR (m + 28), qI (n : Int)] rfl rfl (Nat.le_of_ble_eq_true rfl) (by decide) (by decide) (Nat.le_of_ble_eq_true rfl) (c_litIn n (rput_a2 28 (t := 0) (n := 32) (F := ((rsG g n (tw (g 25) n d (i + 1)) (i + 1)) 28)) rfl rfl rfl (by decide) (by decide)) (by omega) (by decide)) ?_
      refine z_eq rfl (qc (qi (show (cnt (fun q9 => ((rsG g n (tw (g 25) n d (i + 1)) (i + 1)) 28) q9 = 7) n) = (cnt (fun q9 => (tw (g 25) n d (i + 1)) q9 = 7) n) from cnt_congr (fun q9 hq9 => by rw [rsG_28 hq9]))) rfl) rfl ?_
      refine z_if_le 77 d_X12_isTwo_56 (by decide) (fun hl9 => ?_) (fun hl9 => ?_)
      · refine z_iinc (ls' := [qR m, qI (n : Int), qI d, qI ((i : Int) + 1)]) d_X12_isTwo_77 rfl (by decide) (by omega) rfl ?_
        refine z_goto 11 d_X12_isTwo_80 (by decide) ?_
        exact z_eq (qc rfl (qc rfl (qc rfl (qc (qi (by omega)) rfl)))) rfl rfl (kki (q_lts hp (fun z => by omega)))
      · refine z_aload_n d_X12_isTwo_59 rfl rfl ?_
        refine z_getf (v := qR (m + 28)) d_X12_isTwo_60 fl_X12_95 rput_o rfl ?_
        refine z_iload_n d_X12_isTwo_63 rfl rfl ?_
        refine z_cs (M1 := M_X12_litIn) d_X12_isTwo_64 ls_X12_302 k_X12_litIn [qR (m + 28), qI (n : Int)] rfl rfl (Nat.le_of_ble_eq_true rfl) (by decide) (by decide) (Nat.le_of_ble_eq_true rfl) (c_litIn n (rput_a2 28 (t := 0) (n := 32) (F := ((rsG g n (tw (g 25) n d (i + 1)) (i + 1)) 28)) rfl rfl rfl (by decide) (by decide)) (by omega) (by decide)) ?_
        refine z_eq rfl (qc (qi (show (cnt (fun q9 => ((rsG g n (tw (g 25) n d (i + 1)) (i + 1)) 28) q9 = 7) n) = (cnt (fun q9 => (tw (g 25) n d (i + 1)) q9 = 7) n) from cnt_congr (fun q9 hq9 => by rw [rsG_28 hq9]))) rfl) rfl ?_
        refine z_iload_n d_X12_isTwo_67 rfl rfl ?_
        refine z_icmp_ne 75 d_X12_isTwo_68 (by decide) (fun he9 => ?_) (fun he9 => ?_)
        · refine z_iconst d_X12_isTwo_75 (by decide) ?_
          exact z_zret d_X12_isTwo_76 rfl (by first | exact qb_01 _ | decide | omega) (qer er (qb_f (fun z => by have hJ9 : twJ (g 25) n d = (i : Int) := fst_at hii hp (by omega); unfold twG twN at z; rw [hJ9, if_neg (by omega), Int.toNat_natCast] at z; exact he9 z.2))) (eh.trans (rput_cg rfl (by have hJ9 : twJ (g 25) n d = (i : Int) := fst_at hii hp (by omega); unfold twN; rw [hJ9, if_neg (by omega), Int.toNat_natCast, rsG_scr (by omega)])))
        · refine z_iconst d_X12_isTwo_71 (by decide) ?_
          refine z_goto 76 d_X12_isTwo_72 (by decide) ?_
          exact z_zret d_X12_isTwo_76 rfl (by first | exact qb_01 _ | decide | omega) (qer er (qb_t (by have hJ9 : twJ (g 25) n d = (i : Int) := fst_at hii hp (by omega); unfold twG twN; rw [hJ9, if_neg (by omega), Int.toNat_natCast]; exact ⟨by omega, Classical.not_not.mp he9⟩))) (eh.trans (rput_cg rfl (by have hJ9 : twJ (g 25) n d = (i : Int) := fst_at hii hp (by omega); unfold twN; rw [hJ9, if_neg (by omega), Int.toNat_natCast, rsG_scr (by omega)])))
    · refine z_aload_n d_X12_isTwo_24 rfl rfl ?_
      refine z_getf (v := qR (m + 28)) d_X12_isTwo_25 fl_X12_95 rput_o rfl ?_
      refine z_iload_n d_X12_isTwo_28 rfl rfl ?_
      refine z_iconst d_X12_isTwo_29 (by decide) ?_
      refine z_isub d_X12_isTwo_30 (by omega) ?_
      refine z_iconst d_X12_isTwo_31 (by decide) ?_
      refine z_ist (n - 1) d_X12_isTwo_32 (rput_a2 28 (t := 0) (n := 32) (F := ((rsG g n (tw (g 25) n d i) i) 28)) rfl rfl rfl (by decide) (by decide)) (by omega) (by omega) (by omega) ?_
      refine z_eq rfl rfl (rput_sa 28 rfl rfl (by decide) (by decide)) ?_
      refine z_eq rfl rfl (rput_cg rfl (gup_cg (F' := (qmx n (twM n d i (tw (g 25) n d i)) (g 28))) rfl ((tw_up (by omega) 1).trans (qmx_cg (fun k hk => by unfold twM; rw [qif_t (show (i : Int) = d by omega)]))))) ?_
      refine z_aload_n d_X12_isTwo_33 rfl rfl ?_
      refine z_aload_n d_X12_isTwo_34 rfl rfl ?_
      refine z_getf (v := qR (m + 28)) d_X12_isTwo_35 fl_X12_95 rput_o rfl ?_
      refine z_iload_n d_X12_isTwo_38 rfl rfl ?_
      refine z_iconst d_X12_isTwo_39 (by decide) ?_
      refine z_iconst d_X12_isTwo_40 (by decide) ?_
      refine z_aload_n d_X12_isTwo_41 rfl rfl ?_
      refine z_getf (v := qR (m + 25)) d_X12_isTwo_42 fl_X12_86 rput_o rfl ?_
      refine z_cv0 (M1 := M_X12_steps) d_X12_isTwo_45 lv_X12_336 k_X12_steps [qR (m + 28), qI (n : Int), qI 0, qI (-1), qR (m + 25)] rfl rfl rput_o ⟨_, _, rfl⟩ (Nat.le_of_ble_eq_true rfl) (by decide) (by decide) (Nat.le_of_ble_eq_true rfl) (c_steps28_0 (n := n) (-1) hm (by omega) (fun q9 hq9 => show 0 ≤ qmx n (twM n d i (tw (g 25) n d i)) (g 28) q9 ∧ qmx n (twM n d i (tw (g 25) n d i)) (g 28) q9 ≤ 7 by rw [qmx_lt hq9]; exact twM_bd (tw_bd hT i) q9 hq9)) ?_
      refine z_eq rfl rfl (rput_cg rfl (show _ = (rsG g n (tw (g 25) n d (i + 1)) (i + 1)) from rsG_gen (T := g 25) (F := (twM n d i (tw (g 25) n d i))) (t := i) (gup_eq _ _) ⟨if i = 0 then 0 else n, _, (by split <;> omega), rfl⟩ (fun j h1 h2 => (gup_ne h1).trans ((gup_ne h2).trans (gup_ne h1))) (twM_bd (tw_bd hT i)))) ?_
      refine z_aload_n d_X12_isTwo_48 rfl rfl ?_
      refine z_getf (v := qR (m + 28)) d_X12_isTwo_49 fl_X12_95 rput_o rfl ?_
      refine z_iload_n d_X12_isTwo_52 rfl rfl ?_
      refine z_cs (M1 := M_X12_litIn) d_X12_isTwo_53 ls_X12_302 k_X12_litIn [qR (m + 28), qI (n : Int)] rfl rfl (Nat.le_of_ble_eq_true rfl) (by decide) (by decide) (Nat.le_of_ble_eq_true rfl) (c_litIn n (rput_a2 28 (t := 0) (n := 32) (F := ((rsG g n (tw (g 25) n d (i + 1)) (i + 1)) 28)) rfl rfl rfl (by decide) (by decide)) (by omega) (by decide)) ?_
      refine z_eq rfl (qc (qi (show (cnt (fun q9 => ((rsG g n (tw (g 25) n d (i + 1)) (i + 1)) 28) q9 = 7) n) = (cnt (fun q9 => (tw (g 25) n d (i + 1)) q9 = 7) n) from cnt_congr (fun q9 hq9 => by rw [rsG_28 hq9]))) rfl) rfl ?_
      refine z_if_le 77 d_X12_isTwo_56 (by decide) (fun hl9 => ?_) (fun hl9 => ?_)
      · refine z_iinc (ls' := [qR m, qI (n : Int), qI d, qI ((i : Int) + 1)]) d_X12_isTwo_77 rfl (by decide) (by omega) rfl ?_
        refine z_goto 11 d_X12_isTwo_80 (by decide) ?_
        exact z_eq (qc rfl (qc rfl (qc rfl (qc (qi (by omega)) rfl)))) rfl rfl (kki (q_lts hp (fun z => by omega)))
      · refine z_aload_n d_X12_isTwo_59 rfl rfl ?_
        refine z_getf (v := qR (m + 28)) d_X12_isTwo_60 fl_X12_95 rput_o rfl ?_
        refine z_iload_n d_X12_isTwo_63 rfl rfl ?_
        refine z_cs (M1 := M_X12_litIn) d_X12_isTwo_64 ls_X12_302 k_X12_litIn [qR (m + 28), qI (n : Int)] rfl rfl (Nat.le_of_ble_eq_true rfl) (by decide) (by decide) (Nat.le_of_ble_eq_true rfl) (c_litIn n (rput_a2 28 (t := 0) (n := 32) (F := ((rsG g n (tw (g 25) n d (i + 1)) (i + 1)) 28)) rfl rfl rfl (by decide) (by decide)) (by omega) (by decide)) ?_
        refine z_eq rfl (qc (qi (show (cnt (fun q9 => ((rsG g n (tw (g 25) n d (i + 1)) (i + 1)) 28) q9 = 7) n) = (cnt (fun q9 => (tw (g 25) n d (i + 1)) q9 = 7) n) from cnt_congr (fun q9 hq9 => by rw [rsG_28 hq9]))) rfl) rfl ?_
        refine z_iload_n d_X12_isTwo_67 rfl rfl ?_
        refine z_icmp_ne 75 d_X12_isTwo_68 (by decide) (fun he9 => ?_) (fun he9 => ?_)
        · refine z_iconst d_X12_isTwo_75 (by decide) ?_
          exact z_zret d_X12_isTwo_76 rfl (by first | exact qb_01 _ | decide | omega) (qer er (qb_f (fun z => by have hJ9 : twJ (g 25) n d = (i : Int) := fst_at hii hp (by omega); unfold twG twN at z; rw [hJ9, if_neg (by omega), Int.toNat_natCast] at z; exact he9 z.2))) (eh.trans (rput_cg rfl (by have hJ9 : twJ (g 25) n d = (i : Int) := fst_at hii hp (by omega); unfold twN; rw [hJ9, if_neg (by omega), Int.toNat_natCast, rsG_scr (by omega)])))
        · refine z_iconst d_X12_isTwo_71 (by decide) ?_
          refine z_goto 76 d_X12_isTwo_72 (by decide) ?_
          exact z_zret d_X12_isTwo_76 rfl (by first | exact qb_01 _ | decide | omega) (qer er (qb_t (by have hJ9 : twJ (g 25) n d = (i : Int) := fst_at hii hp (by omega); unfold twG twN; rw [hJ9, if_neg (by omega), Int.toNat_natCast]; exact ⟨by omega, Classical.not_not.mp he9⟩))) (eh.trans (rput_cg rfl (by have hJ9 : twJ (g 25) n d = (i : Int) := fst_at hii hp (by omega); unfold twN; rw [hJ9, if_neg (by omega), Int.toNat_natCast, rsG_scr (by omega)])))
  · show qEx M_X12_isTwo 11 [qR m, qI (n : Int), qI d, qI (((3 * n + 20) : Nat) : Int)] [] (rput h m f (rsG g n (tw (g 25) n d (3 * n + 20)) (3 * n + 20))) r hr
    refine z_iload_n d_X12_isTwo_11 rfl rfl ?_
    refine z_iload_n d_X12_isTwo_12 rfl rfl ?_
    refine z_cs (M1 := M_X12_longest) d_X12_isTwo_13 ls_X12_333 k_X12_longest [qI (n : Int)] rfl rfl (Nat.le_of_ble_eq_true rfl) (by decide) (by decide) (Nat.le_of_ble_eq_true rfl) (c_longest (n : Int) (by omega)) ?_
    refine z_icmp_ge 83 d_X12_isTwo_16 (by decide) (fun hc2 => ?_) (fun hc2 => absurd hc2 (by omega))
    refine z_iconst d_X12_isTwo_83 (by decide) ?_
    exact z_zret d_X12_isTwo_84 rfl (by first | exact qb_01 _ | decide | omega) (qer er (qb_f (fun z => z.1 (fst_none hp)))) (eh.trans (rput_cg rfl (by unfold twN; rw [show twJ (g 25) n d = -1 from fst_none hp, if_pos rfl, rsG_scr (by omega)])))
noncomputable def tbF (T : Nat → Int) (to : Nat) (d : Int) : Int := fst (fun k => ¬ twG T (k + 2) d) (to - 1)
noncomputable def tbR (T : Nat → Int) (to : Nat) (d : Int) : Int := qif (tbF T to d = -1) (-1) (tbF T to d + 2)
noncomputable def tbN (T : Nat → Int) (to : Nat) (d : Int) : Nat := if tbF T to d = -1 then to else (tbF T to d).toNat + 2
theorem tb_f {T : Nat → Int} {to i : Nat} {d : Int} (hi : i < to - 1) (hp : ∀ k, k < i → twG T (k + 2) d) (hb : ¬ twG T (i + 2) d) : tbF T to d = (i : Int) := fst_at hi (fun k hk => Classical.not_not.mpr (hp k hk)) hb
theorem tb_n {T : Nat → Int} {to : Nat} {d : Int} (hp : ∀ k, k < to - 1 → twG T (k + 2) d) : tbF T to d = -1 := fst_none (fun k hk => Classical.not_not.mpr (hp k hk))
set_option maxRecDepth 20000 in
set_option maxHeartbeats 4000000 in
theorem c_two_no {h : qH} {m : Nat} {f : Nat → Int} {g : Nat → Nat → Int} (to d : Int) (hm : 2 ≤ m) (h0 : f 0 = 0) (hno : ¬ ((2 ≤ to ∧ to ≤ 24) ∧ 0 ≤ d ∧ d ≤ 40)) : qEx M_X12_two 0 [qR m, qI to, qI d, qU] [] (rput h m f g) (some (qI (-1))) (rput h m f g) := by
  refine q_gen (fun r hr er eh => ?_)
  refine z_aload_n d_X12_two_0 rfl rfl ?_
  refine z_iconst d_X12_two_1 (by decide) ?_
  refine z_putf (fs' := [qI 0, qI (f 1), qI (f 2), qI (f 3), qI (f 4), qI (f 5), qI (f 6), qI (f 7), qR (m + 1), qR (m + 2), qR (m + 3), qR (m + 4), qR (m + 5), qR (m + 6), qR (m + 7), qR (m + 8), qR (m + 9), qR (m + 10), qI (f 18), qI (f 19), qI (f 20), qR (m + 11), qR (m + 12), qR (m + 13), qR (m + 14), qI (f 25), qR (m + 15), qI (f 27), qR (m + 16), qR (m + 17), qR (m + 18), qR (m + 19), qR (m + 20), qR (m + 21), qR (m + 22), qR (m + 23), qR (m + 24), qI (f 37), qI (f 38), qI (f 39), qI (f 40), qR (m + 25), qR (m + 26), qR (m + 27), qR (m + 28), qR (m + 29), qR (m + 30), qR (m + 31), qI (f 48), qR (m + 32), qR (m + 33), qR (m + 34), qR (m + 35), qR (m + 36), qR (m + 37)]) d_X12_two_2 fp_X12_127 rput_o (fun _ => rfl) (fun _ => rfl) (Nat.le_of_ble_eq_true rfl) rfl ?_
  refine z_eq rfl rfl ((rput_sf (f' := qup f 0 0) rfl).trans (rput_cg (qup_self h0) rfl)) ?_
  refine z_iload_n d_X12_two_5 rfl rfl ?_
  refine z_iconst d_X12_two_6 (by decide) ?_
  refine z_bipush d_X12_two_7 (by decide) ?_
  refine z_cs (M1 := M_X12_in) d_X12_two_9 ls_X12_137 k_X12_in [qI to, qI 2, qI 24] rfl rfl (Nat.le_of_ble_eq_true rfl) (by decide) (by decide) (Nat.le_of_ble_eq_true rfl) (c_in to 2 24) ?_
  refine z_ifeqB 25 d_X12_two_12 (by decide) (fun hc1 => ?_) (fun hc1 => ?_)
  · refine z_iconst d_X12_two_25 (by decide) ?_
    exact z_iret d_X12_two_26 rfl er eh
  · refine z_iload_n d_X12_two_15 rfl rfl ?_
    refine z_iconst d_X12_two_16 (by decide) ?_
    refine z_bipush d_X12_two_17 (by decide) ?_
    refine z_cs (M1 := M_X12_in) d_X12_two_19 ls_X12_137 k_X12_in [qI d, qI 0, qI 40] rfl rfl (Nat.le_of_ble_eq_true rfl) (by decide) (by decide) (Nat.le_of_ble_eq_true rfl) (c_in d 0 40) ?_
    refine z_ifneB 27 d_X12_two_22 (by decide) (fun hc2 => ?_) (fun hc2 => ?_)
    · exact absurd (by omega) hno
    · refine z_iconst d_X12_two_25 (by decide) ?_
      exact z_iret d_X12_two_26 rfl er eh
set_option maxRecDepth 20000 in
set_option maxHeartbeats 4000000 in
theorem c_two {h : qH} {m : Nat} {f : Nat → Int} {g : Nat → Nat → Int} {to : Nat} (d : Int) (hm : 2 ≤ m) (h0 : f 0 = 0) (ht : 2 ≤ to ∧ to ≤ 24) (hd : 0 ≤ d ∧ d ≤ 40) (hO : bkOk (g 2) (g 5)) : qEx M_X12_two 0 [qR m, qI (to : Int), qI d, qU] [] (rput h m f g) (some (qI (tbR (layG g 25) to d))) (rput h m f (scr (layG g) (tbN (layG g 25) to d) (tw (layG g 25) (tbN (layG g 25) to d) d (twN (layG g 25) (tbN (layG g 25) to d) d)))) := by
  refine q_gen (fun r hr er eh => ?_)
  refine z_aload_n d_X12_two_0 rfl rfl ?_
  refine z_iconst d_X12_two_1 (by decide) ?_
  refine z_putf (fs' := [qI 0, qI (f 1), qI (f 2), qI (f 3), qI (f 4), qI (f 5), qI (f 6), qI (f 7), qR (m + 1), qR (m + 2), qR (m + 3), qR (m + 4), qR (m + 5), qR (m + 6), qR (m + 7), qR (m + 8), qR (m + 9), qR (m + 10), qI (f 18), qI (f 19), qI (f 20), qR (m + 11), qR (m + 12), qR (m + 13), qR (m + 14), qI (f 25), qR (m + 15), qI (f 27), qR (m + 16), qR (m + 17), qR (m + 18), qR (m + 19), qR (m + 20), qR (m + 21), qR (m + 22), qR (m + 23), qR (m + 24), qI (f 37), qI (f 38), qI (f 39), qI (f 40), qR (m + 25), qR (m + 26), qR (m + 27), qR (m + 28), qR (m + 29), qR (m + 30), qR (m + 31), qI (f 48), qR (m + 32), qR (m + 33), qR (m + 34), qR (m + 35), qR (m + 36), qR (m + 37)]) d_X12_two_2 fp_X12_127 rput_o (fun _ => rfl) (fun _ => rfl) (Nat.le_of_ble_eq_true rfl) rfl ?_
  refine z_eq rfl rfl ((rput_sf (f' := qup f 0 0) rfl).trans (rput_cg (qup_self h0) rfl)) ?_
  refine z_iload_n d_X12_two_5 rfl rfl ?_
  refine z_iconst d_X12_two_6 (by decide) ?_
  refine z_bipush d_X12_two_7 (by decide) ?_
  refine z_cs (M1 := M_X12_in) d_X12_two_9 ls_X12_137 k_X12_in [qI (to : Int), qI 2, qI 24] rfl rfl (Nat.le_of_ble_eq_true rfl) (by decide) (by decide) (Nat.le_of_ble_eq_true rfl) (c_in (to : Int) 2 24) ?_
  refine z_ifeqB 25 d_X12_two_12 (by decide) (fun hc1 => absurd hc1 (by omega)) (fun hc1 => ?_)
  refine z_iload_n d_X12_two_15 rfl rfl ?_
  refine z_iconst d_X12_two_16 (by decide) ?_
  refine z_bipush d_X12_two_17 (by decide) ?_
  refine z_cs (M1 := M_X12_in) d_X12_two_19 ls_X12_137 k_X12_in [qI d, qI 0, qI 40] rfl rfl (Nat.le_of_ble_eq_true rfl) (by decide) (by decide) (Nat.le_of_ble_eq_true rfl) (c_in d 0 40) ?_
  refine z_ifneB 27 d_X12_two_22 (by decide) (fun hc2 => ?_) (fun hc2 => absurd hc2 (by omega))
  refine z_aload_n d_X12_two_27 rfl rfl ?_
  refine z_cv0 (M1 := M_X12_laysOwn) d_X12_two_28 lv_X12_275 k_X12_laysOwn [] rfl rfl rput_o ⟨_, _, rfl⟩ (Nat.le_of_ble_eq_true rfl) (by decide) (by decide) (Nat.le_of_ble_eq_true rfl) (c_laysOwn hm) ?_
  refine z_iconst d_X12_two_31 (by decide) ?_
  refine z_istore_n (ls' := [qR m, qI (to : Int), qI d, qI 2]) d_X12_two_32 rfl (by decide) rfl ?_
  refine z_eq (qc rfl (qc rfl (qc rfl (qc (qi (rfl)) rfl)))) rfl (rput_cg rfl (by rw [if_pos rfl]; exact scr_0.symm)) (z_for (to - 1) (fun i => [qR m, qI (to : Int), qI d, qI (((i : Nat) : Int) + 2)]) (fun i => (rput h m f (scr (layG g) (if i = 0 then 0 else i + 1) (tw (layG g 25) (i + 1) d (twN (layG g 25) (i + 1) d))))) (fun i => ∀ k, k < i → twG (layG g 25) (k + 2) d) (fun k hk => absurd hk (by omega)) (fun i hii hp kki => ?_) (fun hp => ?_))
  · show qEx M_X12_two 33 [qR m, qI (to : Int), qI d, qI (((i : Nat) : Int) + 2)] [] (rput h m f (scr (layG g) (if i = 0 then 0 else i + 1) (tw (layG g 25) (i + 1) d (twN (layG g 25) (i + 1) d)))) r hr
    refine z_iload_n d_X12_two_33 rfl rfl ?_
    refine z_iload_n d_X12_two_34 rfl rfl ?_
    refine z_icmp_gt 55 d_X12_two_35 (by decide) (fun hc3 => absurd hc3 (by omega)) (fun hc3 => ?_)
    refine z_aload_n d_X12_two_38 rfl rfl ?_
    refine z_iload_n d_X12_two_39 rfl rfl ?_
    refine z_iload_n d_X12_two_40 rfl rfl ?_
    refine z_cv (M1 := M_X12_isTwo) d_X12_two_41 lv_X12_369 k_X12_isTwo [qI (((i : Nat) : Int) + 2), qI d] rfl rfl rput_o ⟨_, _, rfl⟩ (Nat.le_of_ble_eq_true rfl) (by decide) (by decide) (Nat.le_of_ble_eq_true rfl) (c_isTwo (n := (i + 2)) d hm (by omega) (fun c hc => show 0 ≤ layG g 25 c ∧ layG g 25 c ≤ 7 by rw [layG_T hc]; exact bkTc_bd hO (by decide) c hc)) ?_
    refine z_ifneB 49 d_X12_two_44 (by decide) (fun q1 => ?_) (fun q1 => ?_)
    · refine z_iinc (ls' := [qR m, qI (to : Int), qI d, qI ((((i : Nat) : Int) + 2) + 1)]) d_X12_two_49 rfl (by decide) (by omega) rfl ?_
      refine z_goto 33 d_X12_two_52 (by decide) ?_
      exact z_eq (qc rfl (qc rfl (qc rfl (qc (qi (by omega)) rfl)))) rfl (rput_cg rfl (by rw [scr_scr (by split <;> omega), if_neg (show ¬ i + 1 = 0 by omega)]; rfl)) (kki (q_lts hp q1))
    · refine z_iload_n d_X12_two_47 rfl rfl ?_
      exact z_iret d_X12_two_48 rfl (qer er (by unfold tbR; rw [tb_f hii hp q1, qif_f (by omega)])) (eh.trans (rput_cg rfl (by unfold tbN; rw [tb_f hii hp q1, if_neg (by omega), Int.toNat_natCast, scr_scr (by split <;> omega)]; rfl)))
  · show qEx M_X12_two 33 [qR m, qI (to : Int), qI d, qI ((((to - 1) : Nat) : Int) + 2)] [] (rput h m f (scr (layG g) (if (to - 1) = 0 then 0 else (to - 1) + 1) (tw (layG g 25) ((to - 1) + 1) d (twN (layG g 25) ((to - 1) + 1) d)))) r hr
    refine z_iload_n d_X12_two_33 rfl rfl ?_
    refine z_iload_n d_X12_two_34 rfl rfl ?_
    refine z_icmp_gt 55 d_X12_two_35 (by decide) (fun hc4 => ?_) (fun hc4 => absurd hc4 (by omega))
    refine z_iconst d_X12_two_55 (by decide) ?_
    exact z_iret d_X12_two_56 rfl (qer er (by unfold tbR; rw [tb_n hp, qif_t rfl])) (eh.trans (rput_cg rfl (by unfold tbN; rw [tb_n hp, if_pos rfl, if_neg (show ¬ to - 1 = 0 by omega), show to - 1 + 1 = to by omega])))
