/-! ===== CONTRACTS: the reference: picture, mark, deafened ===== -/
/-- the scratch rows behind t breaths of a run -/
noncomputable def rsG (g : Nat → Nat → Int) (n : Nat) (E : Nat → Int) (t : Nat) : Nat → Nat → Int := gup (gup g 28 (qmx n E (g 28))) 29 (qmx (if t = 0 then 0 else n) E (g 29))
theorem rsG_s {g : Nat → Nat → Int} {T : Nat → Int} {n rg t : Nat} {df b : Int} (hT : ∀ c, c < 648 → 0 ≤ T c ∧ T c ≤ 7) : gup (gup (rsG g n (ps T n rg df b t) t) 29 (qmx n (stp T n rg df (rsG g n (ps T n rg df b t) t 28)) (rsG g n (ps T n rg df b t) t 29))) 28 (qmx n (stp T n rg df (rsG g n (ps T n rg df b t) t 28)) (rsG g n (ps T n rg df b t) t 28)) = rsG g n (ps T n rg df b (t + 1)) (t + 1) := by
  have e28 : rsG g n (ps T n rg df b t) t 28 = qmx n (ps T n rg df b t) (g 28) := rfl
  have e29 : rsG g n (ps T n rg df b t) t 29 = qmx (if t = 0 then 0 else n) (ps T n rg df b t) (g 29) := rfl
  have hF : ∀ k, k < n → 0 ≤ qmx n (ps T n rg df b t) (g 28) k ∧ qmx n (ps T n rg df b t) (g 28) k ≤ 7 := fun k hk => by rw [qmx_lt hk]; exact ps_bd hT t k hk
  have hs : ∀ k, k < n → stp T n rg df (qmx n (ps T n rg df b t) (g 28)) k = ps T n rg df b (t + 1) k := fun k hk => stp_cg hk (fun _ _ => rfl) (fun j hj => qmx_lt hj) hF
  rw [e28, e29, qmx_mx _ _ _ (Nat.le_refl _), qmx_mx _ _ _ (show (if t = 0 then 0 else n) ≤ n by split <;> omega), qmx_cg hs, qmx_cg hs]
  funext j
  unfold rsG gup
  rw [if_neg (show ¬ t + 1 = 0 by omega)]
  by_cases h1 : j = 28
  · subst h1; rfl
  · by_cases h2 : j = 29
    · subst h2; rfl
    · simp only [if_neg h1, if_neg h2]
theorem rsG_28 {g : Nat → Nat → Int} {n t k : Nat} {E : Nat → Int} (hk : k < n) : rsG g n E t 28 k = E k := qmx_lt hk
theorem rsG_0 {g : Nat → Nat → Int} {n : Nat} {E : Nat → Int} : rsG g n E 0 = gup g 28 (qmx n E (g 28)) := by
  unfold rsG
  rw [if_pos rfl, qmx_0]
  exact gup_self rfl
/-- the first place, of 0 .. B, that has p -/
noncomputable def utl (p : Nat → Prop) (B : Nat) : Nat := (fst p (B + 1)).toNat
theorem utl_at {p : Nat → Prop} {B i : Nat} (hi : i ≤ B) (hp : ∀ k, k < i → ¬ p k) (h : p i) : utl p B = i := by
  unfold utl
  rw [fst_at (by omega) hp h, Int.toNat_natCast]
theorem utl_cg {p q : Nat → Prop} {B : Nat} (h : ∀ k, k ≤ B → (p k ↔ q k)) : utl p B = utl q B := by
  unfold utl
  rw [fst_congr (fun k hk => h k (by omega))]
set_option maxRecDepth 20000 in
set_option maxHeartbeats 4000000 in
theorem c_picture_no {h : qH} {m : Nat} {f : Nat → Int} {g : Nat → Nat → Int} (n b t k : Int) (hm : 2 ≤ m) (h0 : f 0 = 0) (hnR : R32 n) (hno : ¬ (((1 ≤ n ∧ n ≤ 32) ∧ 0 ≤ b ∧ b < n) ∧ (0 ≤ t ∧ t ≤ 116) ∧ 0 ≤ k ∧ k < n)) : qEx M_X12_picture 0 [qR m, qI n, qI b, qI t, qI k, qU] [] (rput h m f g) (some (qI (-1))) (rput h m f g) := by
  refine q_gen (fun r hr er eh => ?_)
  refine z_aload_n d_X12_picture_0 rfl rfl ?_
  refine z_iconst d_X12_picture_1 (by decide) ?_
  refine z_putf (fs' := [qI 0, qI (f 1), qI (f 2), qI (f 3), qI (f 4), qI (f 5), qI (f 6), qI (f 7), qR (m + 1), qR (m + 2), qR (m + 3), qR (m + 4), qR (m + 5), qR (m + 6), qR (m + 7), qR (m + 8), qR (m + 9), qR (m + 10), qI (f 18), qI (f 19), qI (f 20), qR (m + 11), qR (m + 12), qR (m + 13), qR (m + 14), qI (f 25), qR (m + 15), qI (f 27), qR (m + 16), qR (m + 17), qR (m + 18), qR (m + 19), qR (m + 20), qR (m + 21), qR (m + 22), qR (m + 23), qR (m + 24), qI (f 37), qI (f 38), qI (f 39), qI (f 40), qR (m + 25), qR (m + 26), qR (m + 27), qR (m + 28), qR (m + 29), qR (m + 30), qR (m + 31), qI (f 48), qR (m + 32), qR (m + 33), qR (m + 34), qR (m + 35), qR (m + 36), qR (m + 37)]) d_X12_picture_2 fp_X12_127 rput_o (fun _ => rfl) (fun _ => rfl) (Nat.le_of_ble_eq_true rfl) rfl ?_
  refine z_eq rfl rfl ((rput_sf (f' := qup f 0 0) rfl).trans (rput_cg (qup_self h0) rfl)) ?_
  refine z_iload_n d_X12_picture_5 rfl rfl ?_
  refine z_iload_n d_X12_picture_6 rfl rfl ?_
  refine z_cs (M1 := M_X12_isRun) d_X12_picture_7 ls_X12_347 k_X12_isRun [qI n, qI b] rfl rfl (Nat.le_of_ble_eq_true rfl) (by decide) (by decide) (Nat.le_of_ble_eq_true rfl) (c_isRun2 n b (by omega)) ?_
  refine z_ifeqB 35 d_X12_picture_10 (by decide) (fun hc1 => ?_) (fun hc1 => ?_)
  · refine z_iconst d_X12_picture_35 (by decide) ?_
    exact z_iret d_X12_picture_36 rfl er eh
  · refine z_iload_n d_X12_picture_13 rfl rfl ?_
    refine z_iconst d_X12_picture_14 (by decide) ?_
    refine z_bipush d_X12_picture_15 (by decide) ?_
    refine z_cs (M1 := M_X12_in) d_X12_picture_17 ls_X12_137 k_X12_in [qI t, qI 0, qI 116] rfl rfl (Nat.le_of_ble_eq_true rfl) (by decide) (by decide) (Nat.le_of_ble_eq_true rfl) (c_in t 0 116) ?_
    refine z_ifeqB 35 d_X12_picture_20 (by decide) (fun hc2 => ?_) (fun hc2 => ?_)
    · refine z_iconst d_X12_picture_35 (by decide) ?_
      exact z_iret d_X12_picture_36 rfl er eh
    · refine z_iload d_X12_picture_23 rfl ?_
      refine z_iconst d_X12_picture_25 (by decide) ?_
      refine z_iload_n d_X12_picture_26 rfl rfl ?_
      refine z_iconst d_X12_picture_27 (by decide) ?_
      refine z_isub d_X12_picture_28 (by omega) ?_
      refine z_cs (M1 := M_X12_in) d_X12_picture_29 ls_X12_137 k_X12_in [qI k, qI 0, qI (n - 1)] rfl rfl (Nat.le_of_ble_eq_true rfl) (by decide) (by decide) (Nat.le_of_ble_eq_true rfl) (c_in k 0 (n - 1)) ?_
      refine z_ifneB 37 d_X12_picture_32 (by decide) (fun hc3 => ?_) (fun hc3 => ?_)
      · exact absurd (by omega) hno
      · refine z_iconst d_X12_picture_35 (by decide) ?_
        exact z_iret d_X12_picture_36 rfl er eh
set_option maxRecDepth 20000 in
set_option maxHeartbeats 4000000 in
theorem c_picture {h : qH} {m : Nat} {f : Nat → Int} {g : Nat → Nat → Int} {n : Nat} (b t : Int) (k : Nat) (hm : 2 ≤ m) (h0 : f 0 = 0) (hn : 1 ≤ n ∧ n ≤ 32) (hb : 0 ≤ b ∧ b < n) (hO : bkOk (g 2) (g 5)) (ht : 0 ≤ t ∧ t ≤ 116) (hk : k < n) : qEx M_X12_picture 0 [qR m, qI (n : Int), qI b, qI t, qI (k : Int), qU] [] (rput h m f g) (some (qI (ps (layG g 25) n 0 (-1) b (utl (fun i : Nat => (i : Int) ≥ t ∨ i ≥ 3 * n + 20 ∨ litAt (layG g 25) n 0 (-1) b i) (3 * n + 20)) k))) (rput h m f (rsG (layG g) n (ps (layG g 25) n 0 (-1) b (utl (fun i : Nat => (i : Int) ≥ t ∨ i ≥ 3 * n + 20 ∨ litAt (layG g 25) n 0 (-1) b i) (3 * n + 20))) (utl (fun i : Nat => (i : Int) ≥ t ∨ i ≥ 3 * n + 20 ∨ litAt (layG g 25) n 0 (-1) b i) (3 * n + 20)))) := by
  refine q_gen (fun r hr er eh => ?_)
  refine z_aload_n d_X12_picture_0 rfl rfl ?_
  refine z_iconst d_X12_picture_1 (by decide) ?_
  refine z_putf (fs' := [qI 0, qI (f 1), qI (f 2), qI (f 3), qI (f 4), qI (f 5), qI (f 6), qI (f 7), qR (m + 1), qR (m + 2), qR (m + 3), qR (m + 4), qR (m + 5), qR (m + 6), qR (m + 7), qR (m + 8), qR (m + 9), qR (m + 10), qI (f 18), qI (f 19), qI (f 20), qR (m + 11), qR (m + 12), qR (m + 13), qR (m + 14), qI (f 25), qR (m + 15), qI (f 27), qR (m + 16), qR (m + 17), qR (m + 18), qR (m + 19), qR (m + 20), qR (m + 21), qR (m + 22), qR (m + 23), qR (m + 24), qI (f 37), qI (f 38), qI (f 39), qI (f 40), qR (m + 25), qR (m + 26), qR (m + 27), qR (m + 28), qR (m + 29), qR (m + 30), qR (m + 31), qI (f 48), qR (m + 32), qR (m + 33), qR (m + 34), qR (m + 35), qR (m + 36), qR (m + 37)]) d_X12_picture_2 fp_X12_127 rput_o (fun _ => rfl) (fun _ => rfl) (Nat.le_of_ble_eq_true rfl) rfl ?_
  refine z_eq rfl rfl ((rput_sf (f' := qup f 0 0) rfl).trans (rput_cg (qup_self h0) rfl)) ?_
  refine z_iload_n d_X12_picture_5 rfl rfl ?_
  refine z_iload_n d_X12_picture_6 rfl rfl ?_
  refine z_cs (M1 := M_X12_isRun) d_X12_picture_7 ls_X12_347 k_X12_isRun [qI (n : Int), qI b] rfl rfl (Nat.le_of_ble_eq_true rfl) (by decide) (by decide) (Nat.le_of_ble_eq_true rfl) (c_isRun2 (n : Int) b (by omega)) ?_
  refine z_ifeqB 35 d_X12_picture_10 (by decide) (fun hc1 => absurd hc1 (by omega)) (fun hc1 => ?_)
  refine z_iload_n d_X12_picture_13 rfl rfl ?_
  refine z_iconst d_X12_picture_14 (by decide) ?_
  refine z_bipush d_X12_picture_15 (by decide) ?_
  refine z_cs (M1 := M_X12_in) d_X12_picture_17 ls_X12_137 k_X12_in [qI t, qI 0, qI 116] rfl rfl (Nat.le_of_ble_eq_true rfl) (by decide) (by decide) (Nat.le_of_ble_eq_true rfl) (c_in t 0 116) ?_
  refine z_ifeqB 35 d_X12_picture_20 (by decide) (fun hc2 => absurd hc2 (by omega)) (fun hc2 => ?_)
  refine z_iload d_X12_picture_23 rfl ?_
  refine z_iconst d_X12_picture_25 (by decide) ?_
  refine z_iload_n d_X12_picture_26 rfl rfl ?_
  refine z_iconst d_X12_picture_27 (by decide) ?_
  refine z_isub d_X12_picture_28 (by omega) ?_
  refine z_cs (M1 := M_X12_in) d_X12_picture_29 ls_X12_137 k_X12_in [qI (k : Int), qI 0, qI ((n : Int) - 1)] rfl rfl (Nat.le_of_ble_eq_true rfl) (by decide) (by decide) (Nat.le_of_ble_eq_true rfl) (c_in (k : Int) 0 ((n : Int) - 1)) ?_
  refine z_ifneB 37 d_X12_picture_32 (by decide) (fun hc3 => ?_) (fun hc3 => absurd hc3 (by omega))
  refine z_aload_n d_X12_picture_37 rfl rfl ?_
  refine z_cv0 (M1 := M_X12_laysOwn) d_X12_picture_38 lv_X12_275 k_X12_laysOwn [] rfl rfl rput_o ⟨_, _, rfl⟩ (Nat.le_of_ble_eq_true rfl) (by decide) (by decide) (Nat.le_of_ble_eq_true rfl) (c_laysOwn hm) ?_
  refine z_aload_n d_X12_picture_41 rfl rfl ?_
  refine z_getf (v := qR (m + 28)) d_X12_picture_42 fl_X12_95 rput_o rfl ?_
  refine z_iload_n d_X12_picture_45 rfl rfl ?_
  refine z_iload_n d_X12_picture_46 rfl rfl ?_
  refine z_cs0 (M1 := M_X12_begins) d_X12_picture_47 ls_X12_329 k_X12_begins [qR (m + 28), qI (n : Int), qI b] rfl rfl (Nat.le_of_ble_eq_true rfl) (by decide) (by decide) (Nat.le_of_ble_eq_true rfl) (c_begins n b (rput_a2 28 (t := 0) (n := 32) (F := ((layG g) 28)) rfl rfl rfl (by decide) (by decide)) (by omega) (by omega) (by decide)) ?_
  refine z_eq rfl rfl (rput_sa 28 rfl rfl (by decide) (by decide)) ?_
  refine z_iconst d_X12_picture_50 (by decide) ?_
  refine z_istore (ls' := [qR m, qI (n : Int), qI b, qI t, qI (k : Int), qI 0]) d_X12_picture_51 (by decide) rfl ?_
  have KP : ∀ i, i ≤ 3 * n + 20 → (fun i : Nat => (i : Int) ≥ t ∨ i ≥ 3 * n + 20 ∨ litAt (layG g 25) n 0 (-1) b i) i → (∀ k, k < i → ¬ (fun i : Nat => (i : Int) ≥ t ∨ i ≥ 3 * n + 20 ∨ litAt (layG g 25) n 0 (-1) b i) k) → qEx M_X12_picture 100 [qR m, qI (n : Int), qI b, qI t, qI (k : Int), qI (i : Int)] [] (rput h m f (rsG (layG g) n (ps (layG g 25) n 0 (-1) b i) i)) r hr := by
    intro i hi9 hx9 hp9
    refine z_aload_n d_X12_picture_100 rfl rfl ?_
    refine z_getf (v := qR (m + 28)) d_X12_picture_101 fl_X12_95 rput_o rfl ?_
    refine z_iload d_X12_picture_104 rfl ?_
    refine z_ild k d_X12_picture_106 (rput_a2 28 (t := 0) (n := 32) (F := ((rsG (layG g) n (ps (layG g 25) n 0 (-1) b i) i) 28)) rfl rfl rfl (by decide) (by decide)) rfl (by omega) ?_
    exact z_iret d_X12_picture_107 rfl (qer er (by rw [utl_at hi9 hp9 hx9]; exact (rsG_28 hk).symm)) (eh.trans (rput_cg rfl (by rw [utl_at hi9 hp9 hx9])))
  refine z_eq (qc rfl (qc rfl (qc rfl (qc rfl (qc rfl (qc (qi (by omega)) rfl)))))) rfl (rput_cg rfl rsG_0.symm) (z_for (3 * n + 20) (fun i => [qR m, qI (n : Int), qI b, qI t, qI (k : Int), qI (i : Int)]) (fun i => (rput h m f (rsG (layG g) n (ps (layG g 25) n 0 (-1) b i) i))) (fun i => ∀ k, k < i → ¬ (fun i : Nat => (i : Int) ≥ t ∨ i ≥ 3 * n + 20 ∨ litAt (layG g 25) n 0 (-1) b i) k) (fun k hk => absurd hk (by omega)) (fun i hii hp kki => ?_) (fun hp => ?_))
  · show qEx M_X12_picture 53 [qR m, qI (n : Int), qI b, qI t, qI (k : Int), qI (i : Int)] [] (rput h m f (rsG (layG g) n (ps (layG g 25) n 0 (-1) b i) i)) r hr
    have hcb := cnt_bd (fun k => ps (layG g 25) n 0 (-1) b i k = 7) n
    refine z_iload d_X12_picture_53 rfl ?_
    refine z_iload_n d_X12_picture_55 rfl rfl ?_
    refine z_icmp_ge 100 d_X12_picture_56 (by decide) (fun hq1 => ?_) (fun hq1 => ?_)
    · exact KP i (by omega) (by first | exact Or.inl (by omega) | exact Or.inr (Or.inl (by omega)) | exact Or.inr (Or.inr (by unfold litAt; omega))) hp
    · refine z_iload d_X12_picture_59 rfl ?_
      refine z_iload_n d_X12_picture_61 rfl rfl ?_
      refine z_cs (M1 := M_X12_longest) d_X12_picture_62 ls_X12_333 k_X12_longest [qI (n : Int)] rfl rfl (Nat.le_of_ble_eq_true rfl) (by decide) (by decide) (Nat.le_of_ble_eq_true rfl) (c_longest (n : Int) (by omega)) ?_
      refine z_icmp_ge 100 d_X12_picture_65 (by decide) (fun hq2 => ?_) (fun hq2 => ?_)
      · exact KP i (by omega) (by first | exact Or.inl (by omega) | exact Or.inr (Or.inl (by omega)) | exact Or.inr (Or.inr (by unfold litAt; omega))) hp
      · refine z_aload_n d_X12_picture_68 rfl rfl ?_
        refine z_getf (v := qR (m + 28)) d_X12_picture_69 fl_X12_95 rput_o rfl ?_
        refine z_iload_n d_X12_picture_72 rfl rfl ?_
        refine z_cs (M1 := M_X12_litIn) d_X12_picture_73 ls_X12_302 k_X12_litIn [qR (m + 28), qI (n : Int)] rfl rfl (Nat.le_of_ble_eq_true rfl) (by decide) (by decide) (Nat.le_of_ble_eq_true rfl) (c_litIn n (rput_a2 28 (t := 0) (n := 32) (F := ((rsG (layG g) n (ps (layG g 25) n 0 (-1) b i) i) 28)) rfl rfl rfl (by decide) (by decide)) (by omega) (by decide)) ?_
        refine z_eq rfl (qc (qi (show (cnt (fun q9 => ((rsG (layG g) n (ps (layG g 25) n 0 (-1) b i) i) 28) q9 = 7) n) = (cnt (fun q9 => ps (layG g 25) n 0 (-1) b i q9 = 7) n) from cnt_congr (fun q9 hq9 => by rw [rsG_28 hq9]))) rfl) rfl ?_
        refine z_if_ne 100 d_X12_picture_76 (by decide) (fun hq3 => ?_) (fun hq3 => ?_)
        · exact KP i (by omega) (by first | exact Or.inl (by omega) | exact Or.inr (Or.inl (by omega)) | exact Or.inr (Or.inr (by unfold litAt; omega))) hp
        · refine z_aload_n d_X12_picture_79 rfl rfl ?_
          refine z_aload_n d_X12_picture_80 rfl rfl ?_
          refine z_getf (v := qR (m + 28)) d_X12_picture_81 fl_X12_95 rput_o rfl ?_
          refine z_iload_n d_X12_picture_84 rfl rfl ?_
          refine z_iconst d_X12_picture_85 (by decide) ?_
          refine z_iconst d_X12_picture_86 (by decide) ?_
          refine z_aload_n d_X12_picture_87 rfl rfl ?_
          refine z_getf (v := qR (m + 25)) d_X12_picture_88 fl_X12_86 rput_o rfl ?_
          refine z_cv0 (M1 := M_X12_steps) d_X12_picture_91 lv_X12_336 k_X12_steps [qR (m + 28), qI (n : Int), qI 0, qI (-1), qR (m + 25)] rfl rfl rput_o ⟨_, _, rfl⟩ (Nat.le_of_ble_eq_true rfl) (by decide) (by decide) (Nat.le_of_ble_eq_true rfl) (c_steps28_0 (n := n) (-1) hm (by omega) (fun q9 hq9 => by rw [show (rsG (layG g) n (ps (layG g 25) n 0 (-1) b i) i) 28 q9 = _ from rsG_28 hq9]; exact ps_bd (fun c hc => by rw [show layG g 25 c = ownT g c from layG_T hc]; exact bkTc_bd hO (by decide) c hc) i q9 hq9)) ?_
          refine z_eq rfl rfl (rput_cg rfl (rsG_s (fun c hc => by rw [show layG g 25 c = ownT g c from layG_T hc]; exact bkTc_bd hO (by decide) c hc))) ?_
          refine z_iinc (ls' := [qR m, qI (n : Int), qI b, qI t, qI (k : Int), qI ((i : Int) + 1)]) d_X12_picture_94 rfl (by decide) (by omega) rfl ?_
          refine z_goto 53 d_X12_picture_97 (by decide) ?_
          exact z_eq (qc rfl (qc rfl (qc rfl (qc rfl (qc rfl (qc (qi (by omega)) rfl)))))) rfl rfl (kki (q_lts hp (fun z => by rcases z with z | z | z; exact hq1 z; omega; (unfold litAt at z; omega))))
  · show qEx M_X12_picture 53 [qR m, qI (n : Int), qI b, qI t, qI (k : Int), qI (((3 * n + 20) : Nat) : Int)] [] (rput h m f (rsG (layG g) n (ps (layG g 25) n 0 (-1) b (3 * n + 20)) (3 * n + 20))) r hr
    refine z_iload d_X12_picture_53 rfl ?_
    refine z_iload_n d_X12_picture_55 rfl rfl ?_
    refine z_icmp_ge 100 d_X12_picture_56 (by decide) (fun hq1 => ?_) (fun hq1 => ?_)
    · exact KP (3 * n + 20) (Nat.le_refl _) (Or.inr (Or.inl (Nat.le_refl _))) hp
    · refine z_iload d_X12_picture_59 rfl ?_
      refine z_iload_n d_X12_picture_61 rfl rfl ?_
      refine z_cs (M1 := M_X12_longest) d_X12_picture_62 ls_X12_333 k_X12_longest [qI (n : Int)] rfl rfl (Nat.le_of_ble_eq_true rfl) (by decide) (by decide) (Nat.le_of_ble_eq_true rfl) (c_longest (n : Int) (by omega)) ?_
      refine z_icmp_ge 100 d_X12_picture_65 (by decide) (fun hq2 => ?_) (fun hq2 => absurd hq2 (by omega))
      exact KP (3 * n + 20) (Nat.le_refl _) (Or.inr (Or.inl (Nat.le_refl _))) hp
/-- when, in a run over the table T, keeper k first has the MIND md, before or with the fire; how many breaths were looked at -/
noncomputable def mkJ (T : Nat → Int) (n : Nat) (b md : Int) (k : Nat) : Int := fst (fun t : Nat => ps T n 0 (-1) b t k = md ∨ litAt T n 0 (-1) b t) (3 * n + 21)
noncomputable def mkR (T : Nat → Int) (n : Nat) (b md : Int) (k : Nat) : Int := qif (mkJ T n b md k = -1) (-1) (qif (ps T n 0 (-1) b (mkJ T n b md k).toNat k = md) (mkJ T n b md k) (-1))
noncomputable def mkN (T : Nat → Int) (n : Nat) (b md : Int) (k : Nat) : Nat := if mkJ T n b md k = -1 then 3 * n + 21 else (mkJ T n b md k).toNat
theorem mk_j {T : Nat → Int} {n : Nat} {b md : Int} {k i : Nat} (hi : i < 3 * n + 21) (hp : ∀ j, j < i → ¬ (ps T n 0 (-1) b j k = md ∨ litAt T n 0 (-1) b j)) (h : ps T n 0 (-1) b i k = md ∨ litAt T n 0 (-1) b i) : mkJ T n b md k = (i : Int) := fst_at hi hp h
theorem mk_n {T : Nat → Int} {n : Nat} {b md : Int} {k : Nat} (hp : ∀ j, j < 3 * n + 21 → ¬ (ps T n 0 (-1) b j k = md ∨ litAt T n 0 (-1) b j)) : mkJ T n b md k = -1 := fst_none hp
set_option maxRecDepth 20000 in
set_option maxHeartbeats 4000000 in
theorem c_mark_no {h : qH} {m : Nat} {f : Nat → Int} {g : Nat → Nat → Int} (n b md k : Int) (hm : 2 ≤ m) (h0 : f 0 = 0) (hnR : R32 n) (hno : ¬ (((1 ≤ n ∧ n ≤ 32) ∧ 0 ≤ b ∧ b < n) ∧ (0 ≤ md ∧ md ≤ 7) ∧ 0 ≤ k ∧ k < n)) : qEx M_X12_mark 0 [qR m, qI n, qI b, qI md, qI k, qU] [] (rput h m f g) (some (qI (-1))) (rput h m f g) := by
  refine q_gen (fun r hr er eh => ?_)
  refine z_aload_n d_X12_mark_0 rfl rfl ?_
  refine z_iconst d_X12_mark_1 (by decide) ?_
  refine z_putf (fs' := [qI 0, qI (f 1), qI (f 2), qI (f 3), qI (f 4), qI (f 5), qI (f 6), qI (f 7), qR (m + 1), qR (m + 2), qR (m + 3), qR (m + 4), qR (m + 5), qR (m + 6), qR (m + 7), qR (m + 8), qR (m + 9), qR (m + 10), qI (f 18), qI (f 19), qI (f 20), qR (m + 11), qR (m + 12), qR (m + 13), qR (m + 14), qI (f 25), qR (m + 15), qI (f 27), qR (m + 16), qR (m + 17), qR (m + 18), qR (m + 19), qR (m + 20), qR (m + 21), qR (m + 22), qR (m + 23), qR (m + 24), qI (f 37), qI (f 38), qI (f 39), qI (f 40), qR (m + 25), qR (m + 26), qR (m + 27), qR (m + 28), qR (m + 29), qR (m + 30), qR (m + 31), qI (f 48), qR (m + 32), qR (m + 33), qR (m + 34), qR (m + 35), qR (m + 36), qR (m + 37)]) d_X12_mark_2 fp_X12_127 rput_o (fun _ => rfl) (fun _ => rfl) (Nat.le_of_ble_eq_true rfl) rfl ?_
  refine z_eq rfl rfl ((rput_sf (f' := qup f 0 0) rfl).trans (rput_cg (qup_self h0) rfl)) ?_
  refine z_iload_n d_X12_mark_5 rfl rfl ?_
  refine z_iload_n d_X12_mark_6 rfl rfl ?_
  refine z_cs (M1 := M_X12_isRun) d_X12_mark_7 ls_X12_347 k_X12_isRun [qI n, qI b] rfl rfl (Nat.le_of_ble_eq_true rfl) (by decide) (by decide) (Nat.le_of_ble_eq_true rfl) (c_isRun2 n b (by omega)) ?_
  refine z_ifeqB 35 d_X12_mark_10 (by decide) (fun hc1 => ?_) (fun hc1 => ?_)
  · refine z_iconst d_X12_mark_35 (by decide) ?_
    exact z_iret d_X12_mark_36 rfl er eh
  · refine z_iload_n d_X12_mark_13 rfl rfl ?_
    refine z_iconst d_X12_mark_14 (by decide) ?_
    refine z_bipush d_X12_mark_15 (by decide) ?_
    refine z_cs (M1 := M_X12_in) d_X12_mark_17 ls_X12_137 k_X12_in [qI md, qI 0, qI 7] rfl rfl (Nat.le_of_ble_eq_true rfl) (by decide) (by decide) (Nat.le_of_ble_eq_true rfl) (c_in md 0 7) ?_
    refine z_ifeqB 35 d_X12_mark_20 (by decide) (fun hc2 => ?_) (fun hc2 => ?_)
    · refine z_iconst d_X12_mark_35 (by decide) ?_
      exact z_iret d_X12_mark_36 rfl er eh
    · refine z_iload d_X12_mark_23 rfl ?_
      refine z_iconst d_X12_mark_25 (by decide) ?_
      refine z_iload_n d_X12_mark_26 rfl rfl ?_
      refine z_iconst d_X12_mark_27 (by decide) ?_
      refine z_isub d_X12_mark_28 (by omega) ?_
      refine z_cs (M1 := M_X12_in) d_X12_mark_29 ls_X12_137 k_X12_in [qI k, qI 0, qI (n - 1)] rfl rfl (Nat.le_of_ble_eq_true rfl) (by decide) (by decide) (Nat.le_of_ble_eq_true rfl) (c_in k 0 (n - 1)) ?_
      refine z_ifneB 37 d_X12_mark_32 (by decide) (fun hc3 => ?_) (fun hc3 => ?_)
      · exact absurd (by omega) hno
      · refine z_iconst d_X12_mark_35 (by decide) ?_
        exact z_iret d_X12_mark_36 rfl er eh
set_option maxRecDepth 20000 in
set_option maxHeartbeats 4000000 in
theorem c_mark {h : qH} {m : Nat} {f : Nat → Int} {g : Nat → Nat → Int} {n : Nat} (b md : Int) (k : Nat) (hm : 2 ≤ m) (h0 : f 0 = 0) (hn : 1 ≤ n ∧ n ≤ 32) (hb : 0 ≤ b ∧ b < n) (hO : bkOk (g 2) (g 5)) (hmd : 0 ≤ md ∧ md ≤ 7) (hk : k < n) : qEx M_X12_mark 0 [qR m, qI (n : Int), qI b, qI md, qI (k : Int), qU] [] (rput h m f g) (some (qI (mkR (layG g 25) n b md k))) (rput h m f (rsG (layG g) n (ps (layG g 25) n 0 (-1) b (mkN (layG g 25) n b md k)) (mkN (layG g 25) n b md k))) := by
  refine q_gen (fun r hr er eh => ?_)
  refine z_aload_n d_X12_mark_0 rfl rfl ?_
  refine z_iconst d_X12_mark_1 (by decide) ?_
  refine z_putf (fs' := [qI 0, qI (f 1), qI (f 2), qI (f 3), qI (f 4), qI (f 5), qI (f 6), qI (f 7), qR (m + 1), qR (m + 2), qR (m + 3), qR (m + 4), qR (m + 5), qR (m + 6), qR (m + 7), qR (m + 8), qR (m + 9), qR (m + 10), qI (f 18), qI (f 19), qI (f 20), qR (m + 11), qR (m + 12), qR (m + 13), qR (m + 14), qI (f 25), qR (m + 15), qI (f 27), qR (m + 16), qR (m + 17), qR (m + 18), qR (m + 19), qR (m + 20), qR (m + 21), qR (m + 22), qR (m + 23), qR (m + 24), qI (f 37), qI (f 38), qI (f 39), qI (f 40), qR (m + 25), qR (m + 26), qR (m + 27), qR (m + 28), qR (m + 29), qR (m + 30), qR (m + 31), qI (f 48), qR (m + 32), qR (m + 33), qR (m + 34), qR (m + 35), qR (m + 36), qR (m + 37)]) d_X12_mark_2 fp_X12_127 rput_o (fun _ => rfl) (fun _ => rfl) (Nat.le_of_ble_eq_true rfl) rfl ?_
  refine z_eq rfl rfl ((rput_sf (f' := qup f 0 0) rfl).trans (rput_cg (qup_self h0) rfl)) ?_
  refine z_iload_n d_X12_mark_5 rfl rfl ?_
  refine z_iload_n d_X12_mark_6 rfl rfl ?_
  refine z_cs (M1 := M_X12_isRun) d_X12_mark_7 ls_X12_347 k_X12_isRun [qI (n : Int), qI b] rfl rfl (Nat.le_of_ble_eq_true rfl) (by decide) (by decide) (Nat.le_of_ble_eq_true rfl) (c_isRun2 (n : Int) b (by omega)) ?_
  refine z_ifeqB 35 d_X12_mark_10 (by decide) (fun hc1 => absurd hc1 (by omega)) (fun hc1 => ?_)
  refine z_iload_n d_X12_mark_13 rfl rfl ?_
  refine z_iconst d_X12_mark_14 (by decide) ?_
  refine z_bipush d_X12_mark_15 (by decide) ?_
  refine z_cs (M1 := M_X12_in) d_X12_mark_17 ls_X12_137 k_X12_in [qI md, qI 0, qI 7] rfl rfl (Nat.le_of_ble_eq_true rfl) (by decide) (by decide) (Nat.le_of_ble_eq_true rfl) (c_in md 0 7) ?_
  refine z_ifeqB 35 d_X12_mark_20 (by decide) (fun hc2 => absurd hc2 (by omega)) (fun hc2 => ?_)
  refine z_iload d_X12_mark_23 rfl ?_
  refine z_iconst d_X12_mark_25 (by decide) ?_
  refine z_iload_n d_X12_mark_26 rfl rfl ?_
  refine z_iconst d_X12_mark_27 (by decide) ?_
  refine z_isub d_X12_mark_28 (by omega) ?_
  refine z_cs (M1 := M_X12_in) d_X12_mark_29 ls_X12_137 k_X12_in [qI (k : Int), qI 0, qI ((n : Int) - 1)] rfl rfl (Nat.le_of_ble_eq_true rfl) (by decide) (by decide) (Nat.le_of_ble_eq_true rfl) (c_in (k : Int) 0 ((n : Int) - 1)) ?_
  refine z_ifneB 37 d_X12_mark_32 (by decide) (fun hc3 => ?_) (fun hc3 => absurd hc3 (by omega))
  refine z_aload_n d_X12_mark_37 rfl rfl ?_
  refine z_cv0 (M1 := M_X12_laysOwn) d_X12_mark_38 lv_X12_275 k_X12_laysOwn [] rfl rfl rput_o ⟨_, _, rfl⟩ (Nat.le_of_ble_eq_true rfl) (by decide) (by decide) (Nat.le_of_ble_eq_true rfl) (c_laysOwn hm) ?_
  refine z_aload_n d_X12_mark_41 rfl rfl ?_
  refine z_getf (v := qR (m + 28)) d_X12_mark_42 fl_X12_95 rput_o rfl ?_
  refine z_iload_n d_X12_mark_45 rfl rfl ?_
  refine z_iload_n d_X12_mark_46 rfl rfl ?_
  refine z_cs0 (M1 := M_X12_begins) d_X12_mark_47 ls_X12_329 k_X12_begins [qR (m + 28), qI (n : Int), qI b] rfl rfl (Nat.le_of_ble_eq_true rfl) (by decide) (by decide) (Nat.le_of_ble_eq_true rfl) (c_begins n b (rput_a2 28 (t := 0) (n := 32) (F := ((layG g) 28)) rfl rfl rfl (by decide) (by decide)) (by omega) (by omega) (by decide)) ?_
  refine z_eq rfl rfl (rput_sa 28 rfl rfl (by decide) (by decide)) ?_
  refine z_iconst d_X12_mark_50 (by decide) ?_
  refine z_istore (ls' := [qR m, qI (n : Int), qI b, qI md, qI (k : Int), qI 0]) d_X12_mark_51 (by decide) rfl ?_
  refine z_eq (qc rfl (qc rfl (qc rfl (qc rfl (qc rfl (qc (qi (by omega)) rfl)))))) rfl (rput_cg rfl rsG_0.symm) (z_for (3 * n + 21) (fun i => [qR m, qI (n : Int), qI b, qI md, qI (k : Int), qI (i : Int)]) (fun i => (rput h m f (rsG (layG g) n (ps (layG g 25) n 0 (-1) b i) i))) (fun i => ∀ j, j < i → ¬ (ps (layG g 25) n 0 (-1) b j k = md ∨ litAt (layG g 25) n 0 (-1) b j)) (fun k hk => absurd hk (by omega)) (fun i hii hp kki => ?_) (fun hp => ?_))
  · show qEx M_X12_mark 53 [qR m, qI (n : Int), qI b, qI md, qI (k : Int), qI (i : Int)] [] (rput h m f (rsG (layG g) n (ps (layG g 25) n 0 (-1) b i) i)) r hr
    refine z_iload d_X12_mark_53 rfl ?_
    refine z_iload_n d_X12_mark_55 rfl rfl ?_
    refine z_cs (M1 := M_X12_longest) d_X12_mark_56 ls_X12_333 k_X12_longest [qI (n : Int)] rfl rfl (Nat.le_of_ble_eq_true rfl) (by decide) (by decide) (Nat.le_of_ble_eq_true rfl) (c_longest (n : Int) (by omega)) ?_
    refine z_icmp_gt 110 d_X12_mark_59 (by decide) (fun hc4 => absurd hc4 (by omega)) (fun hc4 => ?_)
    refine z_aload_n d_X12_mark_62 rfl rfl ?_
    refine z_getf (v := qR (m + 28)) d_X12_mark_63 fl_X12_95 rput_o rfl ?_
    refine z_iload d_X12_mark_66 rfl ?_
    refine z_ild k d_X12_mark_68 (rput_a2 28 (t := 0) (n := 32) (F := ((rsG (layG g) n (ps (layG g 25) n 0 (-1) b i) i) 28)) rfl rfl rfl (by decide) (by decide)) rfl (by omega) ?_
    refine z_eq rfl (qc (qi (show (((rsG (layG g) n (ps (layG g 25) n 0 (-1) b i) i) 28) k) = (ps (layG g 25) n 0 (-1) b i k) from rsG_28 hk)) rfl) rfl ?_
    refine z_iload_n d_X12_mark_69 rfl rfl ?_
    refine z_icmp_ne 76 d_X12_mark_70 (by decide) (fun q1 => ?_) (fun q1 => ?_)
    · refine z_aload_n d_X12_mark_76 rfl rfl ?_
      refine z_getf (v := qR (m + 28)) d_X12_mark_77 fl_X12_95 rput_o rfl ?_
      refine z_iload_n d_X12_mark_80 rfl rfl ?_
      refine z_cs (M1 := M_X12_litIn) d_X12_mark_81 ls_X12_302 k_X12_litIn [qR (m + 28), qI (n : Int)] rfl rfl (Nat.le_of_ble_eq_true rfl) (by decide) (by decide) (Nat.le_of_ble_eq_true rfl) (c_litIn n (rput_a2 28 (t := 0) (n := 32) (F := ((rsG (layG g) n (ps (layG g 25) n 0 (-1) b i) i) 28)) rfl rfl rfl (by decide) (by decide)) (by omega) (by decide)) ?_
      refine z_eq rfl (qc (qi (show (cnt (fun q9 => ((rsG (layG g) n (ps (layG g 25) n 0 (-1) b i) i) 28) q9 = 7) n) = (cnt (fun q9 => ps (layG g 25) n 0 (-1) b i q9 = 7) n) from cnt_congr (fun q9 hq9 => by rw [rsG_28 hq9]))) rfl) rfl ?_
      refine z_if_le 89 d_X12_mark_84 (by decide) (fun q2 => ?_) (fun q2 => ?_)
      · refine z_aload_n d_X12_mark_89 rfl rfl ?_
        refine z_aload_n d_X12_mark_90 rfl rfl ?_
        refine z_getf (v := qR (m + 28)) d_X12_mark_91 fl_X12_95 rput_o rfl ?_
        refine z_iload_n d_X12_mark_94 rfl rfl ?_
        refine z_iconst d_X12_mark_95 (by decide) ?_
        refine z_iconst d_X12_mark_96 (by decide) ?_
        refine z_aload_n d_X12_mark_97 rfl rfl ?_
        refine z_getf (v := qR (m + 25)) d_X12_mark_98 fl_X12_86 rput_o rfl ?_
        refine z_cv0 (M1 := M_X12_steps) d_X12_mark_101 lv_X12_336 k_X12_steps [qR (m + 28), qI (n : Int), qI 0, qI (-1), qR (m + 25)] rfl rfl rput_o ⟨_, _, rfl⟩ (Nat.le_of_ble_eq_true rfl) (by decide) (by decide) (Nat.le_of_ble_eq_true rfl) (c_steps28_0 (n := n) (-1) hm (by omega) (fun q9 hq9 => by rw [show (rsG (layG g) n (ps (layG g 25) n 0 (-1) b i) i) 28 q9 = _ from rsG_28 hq9]; exact ps_bd (fun c hc => by rw [show layG g 25 c = ownT g c from layG_T hc]; exact bkTc_bd hO (by decide) c hc) i q9 hq9)) ?_
        refine z_eq rfl rfl (rput_cg rfl (rsG_s (fun c hc => by rw [show layG g 25 c = ownT g c from layG_T hc]; exact bkTc_bd hO (by decide) c hc))) ?_
        refine z_iinc (ls' := [qR m, qI (n : Int), qI b, qI md, qI (k : Int), qI ((i : Int) + 1)]) d_X12_mark_104 rfl (by decide) (by omega) rfl ?_
        refine z_goto 53 d_X12_mark_107 (by decide) ?_
        exact z_eq (qc rfl (qc rfl (qc rfl (qc rfl (qc rfl (qc (qi (by omega)) rfl)))))) rfl rfl (kki (q_lts hp (fun z => z.elim (fun y => q1 y) (fun y => by unfold litAt at y; omega))))
      · refine z_iconst d_X12_mark_87 (by decide) ?_
        exact z_iret d_X12_mark_88 rfl (qer er (by have hl9 : litAt (layG g 25) n 0 (-1) b i := (by unfold litAt; omega); unfold mkR; rw [mk_j hii hp (Or.inr hl9), qif_f (by omega), Int.toNat_natCast, qif_f q1])) (eh.trans (rput_cg rfl (by unfold mkN; rw [mk_j hii hp (Or.inr (by unfold litAt; omega)), if_neg (by omega), Int.toNat_natCast])))
    · refine z_iload d_X12_mark_73 rfl ?_
      exact z_iret d_X12_mark_75 rfl (qer er (by unfold mkR; rw [mk_j hii hp (Or.inl (Classical.not_not.mp q1)), qif_f (by omega), Int.toNat_natCast, qif_t (Classical.not_not.mp q1)])) (eh.trans (rput_cg rfl (by unfold mkN; rw [mk_j hii hp (Or.inl (Classical.not_not.mp q1)), if_neg (by omega), Int.toNat_natCast])))
  · show qEx M_X12_mark 53 [qR m, qI (n : Int), qI b, qI md, qI (k : Int), qI (((3 * n + 21) : Nat) : Int)] [] (rput h m f (rsG (layG g) n (ps (layG g 25) n 0 (-1) b (3 * n + 21)) (3 * n + 21))) r hr
    refine z_iload d_X12_mark_53 rfl ?_
    refine z_iload_n d_X12_mark_55 rfl rfl ?_
    refine z_cs (M1 := M_X12_longest) d_X12_mark_56 ls_X12_333 k_X12_longest [qI (n : Int)] rfl rfl (Nat.le_of_ble_eq_true rfl) (by decide) (by decide) (Nat.le_of_ble_eq_true rfl) (c_longest (n : Int) (by omega)) ?_
    refine z_icmp_gt 110 d_X12_mark_59 (by decide) (fun hc5 => ?_) (fun hc5 => absurd hc5 (by omega))
    refine z_iconst d_X12_mark_110 (by decide) ?_
    exact z_iret d_X12_mark_111 rfl (qer er (by unfold mkR; rw [mk_n hp, qif_t rfl])) (eh.trans (rput_cg rfl (by unfold mkN; rw [mk_n hp, if_pos rfl])))
/-- a run with keeper k deaf: how many light in breath t + 1; the most so far, and when -/
noncomputable def dfD (T : Nat → Int) (n k t : Nat) : Int := cnt (fun j => ps T n 0 (k : Int) 0 (t + 1) j = 7) n - cnt (fun j => ps T n 0 (k : Int) 0 t j = 7) n
noncomputable def dfA (T : Nat → Int) (n k : Nat) : Nat → Int
  | 0 => 0
  | t + 1 => if dfD T n k t > dfA T n k t then dfD T n k t else dfA T n k t
noncomputable def dfW (T : Nat → Int) (n k : Nat) : Nat → Int
  | 0 => -1
  | t + 1 => qif (dfD T n k t ≤ dfA T n k t) (dfW T n k t) ((t : Int) + 1)
theorem dfA_bd {T : Nat → Int} {n k : Nat} : ∀ t, 0 ≤ dfA T n k t ∧ dfA T n k t ≤ n
  | 0 => by show 0 ≤ (0 : Int) ∧ (0 : Int) ≤ n; omega
  | t + 1 => by
    have h1 := dfA_bd (T := T) (n := n) (k := k) t
    have h2 := cnt_bd (fun j => ps T n 0 (k : Int) 0 (t + 1) j = 7) n
    have h3 := cnt_bd (fun j => ps T n 0 (k : Int) 0 t j = 7) n
    show 0 ≤ (if dfD T n k t > dfA T n k t then dfD T n k t else dfA T n k t) ∧ (if dfD T n k t > dfA T n k t then dfD T n k t else dfA T n k t) ≤ n
    have h4 : dfD T n k t ≤ n := by unfold dfD; omega
    split <;> omega
set_option maxRecDepth 20000 in
set_option maxHeartbeats 4000000 in
theorem c_deafened_no {h : qH} {m : Nat} {f : Nat → Int} {g : Nat → Nat → Int} (n k what : Int) (hm : 2 ≤ m) (h0 : f 0 = 0) (hnR : R32 n) (hno : ¬ (((1 ≤ n ∧ n ≤ 32) ∧ 0 ≤ k ∧ k < n) ∧ 0 ≤ what ∧ what ≤ 1)) : qEx M_X12_deafened 0 [qR m, qI n, qI k, qI what, qU, qU, qU, qU] [] (rput h m f g) (some (qI (-1))) (rput h m f g) := by
  refine q_gen (fun r hr er eh => ?_)
  refine z_aload_n d_X12_deafened_0 rfl rfl ?_
  refine z_iconst d_X12_deafened_1 (by decide) ?_
  refine z_putf (fs' := [qI 0, qI (f 1), qI (f 2), qI (f 3), qI (f 4), qI (f 5), qI (f 6), qI (f 7), qR (m + 1), qR (m + 2), qR (m + 3), qR (m + 4), qR (m + 5), qR (m + 6), qR (m + 7), qR (m + 8), qR (m + 9), qR (m + 10), qI (f 18), qI (f 19), qI (f 20), qR (m + 11), qR (m + 12), qR (m + 13), qR (m + 14), qI (f 25), qR (m + 15), qI (f 27), qR (m + 16), qR (m + 17), qR (m + 18), qR (m + 19), qR (m + 20), qR (m + 21), qR (m + 22), qR (m + 23), qR (m + 24), qI (f 37), qI (f 38), qI (f 39), qI (f 40), qR (m + 25), qR (m + 26), qR (m + 27), qR (m + 28), qR (m + 29), qR (m + 30), qR (m + 31), qI (f 48), qR (m + 32), qR (m + 33), qR (m + 34), qR (m + 35), qR (m + 36), qR (m + 37)]) d_X12_deafened_2 fp_X12_127 rput_o (fun _ => rfl) (fun _ => rfl) (Nat.le_of_ble_eq_true rfl) rfl ?_
  refine z_eq rfl rfl ((rput_sf (f' := qup f 0 0) rfl).trans (rput_cg (qup_self h0) rfl)) ?_
  refine z_iload_n d_X12_deafened_5 rfl rfl ?_
  refine z_iload_n d_X12_deafened_6 rfl rfl ?_
  refine z_cs (M1 := M_X12_isRun) d_X12_deafened_7 ls_X12_347 k_X12_isRun [qI n, qI k] rfl rfl (Nat.le_of_ble_eq_true rfl) (by decide) (by decide) (Nat.le_of_ble_eq_true rfl) (c_isRun2 n k (by omega)) ?_
  refine z_ifeqB 22 d_X12_deafened_10 (by decide) (fun hc1 => ?_) (fun hc1 => ?_)
  · refine z_iconst d_X12_deafened_22 (by decide) ?_
    exact z_iret d_X12_deafened_23 rfl er eh
  · refine z_iload_n d_X12_deafened_13 rfl rfl ?_
    refine z_iconst d_X12_deafened_14 (by decide) ?_
    refine z_iconst d_X12_deafened_15 (by decide) ?_
    refine z_cs (M1 := M_X12_in) d_X12_deafened_16 ls_X12_137 k_X12_in [qI what, qI 0, qI 1] rfl rfl (Nat.le_of_ble_eq_true rfl) (by decide) (by decide) (Nat.le_of_ble_eq_true rfl) (c_in what 0 1) ?_
    refine z_ifneB 24 d_X12_deafened_19 (by decide) (fun hc2 => ?_) (fun hc2 => ?_)
    · exact absurd (by omega) hno
    · refine z_iconst d_X12_deafened_22 (by decide) ?_
      exact z_iret d_X12_deafened_23 rfl er eh
set_option maxRecDepth 20000 in
set_option maxHeartbeats 4000000 in
theorem c_deafened0 {h : qH} {m : Nat} {f : Nat → Int} {g : Nat → Nat → Int} {n : Nat} (k : Nat) (hm : 2 ≤ m) (h0 : f 0 = 0) (hn : 1 ≤ n ∧ n ≤ 32) (hk : k < n) (hO : bkOk (g 2) (g 5)) : qEx M_X12_deafened 0 [qR m, qI (n : Int), qI (k : Int), qI 0, qU, qU, qU, qU] [] (rput h m f g) (some (qI (dfA (layG g 25) n k (3 * n + 20)))) (rput h m f (rsG (layG g) n (ps (layG g 25) n 0 (k : Int) 0 (3 * n + 20)) (3 * n + 20))) := by
  refine q_gen (fun r hr er eh => ?_)
  refine z_aload_n d_X12_deafened_0 rfl rfl ?_
  refine z_iconst d_X12_deafened_1 (by decide) ?_
  refine z_putf (fs' := [qI 0, qI (f 1), qI (f 2), qI (f 3), qI (f 4), qI (f 5), qI (f 6), qI (f 7), qR (m + 1), qR (m + 2), qR (m + 3), qR (m + 4), qR (m + 5), qR (m + 6), qR (m + 7), qR (m + 8), qR (m + 9), qR (m + 10), qI (f 18), qI (f 19), qI (f 20), qR (m + 11), qR (m + 12), qR (m + 13), qR (m + 14), qI (f 25), qR (m + 15), qI (f 27), qR (m + 16), qR (m + 17), qR (m + 18), qR (m + 19), qR (m + 20), qR (m + 21), qR (m + 22), qR (m + 23), qR (m + 24), qI (f 37), qI (f 38), qI (f 39), qI (f 40), qR (m + 25), qR (m + 26), qR (m + 27), qR (m + 28), qR (m + 29), qR (m + 30), qR (m + 31), qI (f 48), qR (m + 32), qR (m + 33), qR (m + 34), qR (m + 35), qR (m + 36), qR (m + 37)]) d_X12_deafened_2 fp_X12_127 rput_o (fun _ => rfl) (fun _ => rfl) (Nat.le_of_ble_eq_true rfl) rfl ?_
  refine z_eq rfl rfl ((rput_sf (f' := qup f 0 0) rfl).trans (rput_cg (qup_self h0) rfl)) ?_
  refine z_iload_n d_X12_deafened_5 rfl rfl ?_
  refine z_iload_n d_X12_deafened_6 rfl rfl ?_
  refine z_cs (M1 := M_X12_isRun) d_X12_deafened_7 ls_X12_347 k_X12_isRun [qI (n : Int), qI (k : Int)] rfl rfl (Nat.le_of_ble_eq_true rfl) (by decide) (by decide) (Nat.le_of_ble_eq_true rfl) (c_isRun2 (n : Int) (k : Int) (by omega)) ?_
  refine z_ifeqB 22 d_X12_deafened_10 (by decide) (fun hc1 => absurd hc1 (by omega)) (fun hc1 => ?_)
  refine z_iload_n d_X12_deafened_13 rfl rfl ?_
  refine z_iconst d_X12_deafened_14 (by decide) ?_
  refine z_iconst d_X12_deafened_15 (by decide) ?_
  refine z_cs (M1 := M_X12_in) d_X12_deafened_16 ls_X12_137 k_X12_in [qI 0, qI 0, qI 1] rfl rfl (Nat.le_of_ble_eq_true rfl) (by decide) (by decide) (Nat.le_of_ble_eq_true rfl) (c_in 0 0 1) ?_
  refine z_ifneB 24 d_X12_deafened_19 (by decide) (fun hc2 => ?_) (fun hc2 => absurd hc2 (by omega))
  refine z_aload_n d_X12_deafened_24 rfl rfl ?_
  refine z_cv0 (M1 := M_X12_laysOwn) d_X12_deafened_25 lv_X12_275 k_X12_laysOwn [] rfl rfl rput_o ⟨_, _, rfl⟩ (Nat.le_of_ble_eq_true rfl) (by decide) (by decide) (Nat.le_of_ble_eq_true rfl) (c_laysOwn hm) ?_
  refine z_aload_n d_X12_deafened_28 rfl rfl ?_
  refine z_getf (v := qR (m + 28)) d_X12_deafened_29 fl_X12_95 rput_o rfl ?_
  refine z_iload_n d_X12_deafened_32 rfl rfl ?_
  refine z_iconst d_X12_deafened_33 (by decide) ?_
  refine z_cs0 (M1 := M_X12_begins) d_X12_deafened_34 ls_X12_329 k_X12_begins [qR (m + 28), qI (n : Int), qI 0] rfl rfl (Nat.le_of_ble_eq_true rfl) (by decide) (by decide) (Nat.le_of_ble_eq_true rfl) (c_begins n 0 (rput_a2 28 (t := 0) (n := 32) (F := ((layG g) 28)) rfl rfl rfl (by decide) (by decide)) (by omega) (by omega) (by decide)) ?_
  refine z_eq rfl rfl (rput_sa 28 rfl rfl (by decide) (by decide)) ?_
  refine z_iconst d_X12_deafened_37 (by decide) ?_
  refine z_istore (ls' := [qR m, qI (n : Int), qI (k : Int), qI 0, qI 0, qU, qU, qU]) d_X12_deafened_38 (by decide) rfl ?_
  refine z_iconst d_X12_deafened_40 (by decide) ?_
  refine z_istore (ls' := [qR m, qI (n : Int), qI (k : Int), qI 0, qI 0, qI (-1), qU, qU]) d_X12_deafened_41 (by decide) rfl ?_
  refine z_iconst d_X12_deafened_43 (by decide) ?_
  refine z_istore (ls' := [qR m, qI (n : Int), qI (k : Int), qI 0, qI 0, qI (-1), qI 0, qU]) d_X12_deafened_44 (by decide) rfl ?_
  refine z_eq (qc rfl (qc rfl (qc rfl (qc rfl (qc (qi (rfl)) (qc (qi (rfl)) (qc (qi (by omega)) (qc rfl rfl)))))))) rfl (rput_cg rfl rsG_0.symm) (z_for (3 * n + 20) (fun i => [qR m, qI (n : Int), qI (k : Int), qI 0, qI (dfA (layG g 25) n k i), qI (dfW (layG g 25) n k i), qI (i : Int), qU]) (fun i => (rput h m f (rsG (layG g) n (ps (layG g 25) n 0 (k : Int) 0 i) i))) (fun i => True) trivial (fun i hii hp kki => ?_) (fun hp => ?_))
  · show qEx M_X12_deafened 46 [qR m, qI (n : Int), qI (k : Int), qI 0, qI (dfA (layG g 25) n k i), qI (dfW (layG g 25) n k i), qI (i : Int), qU] [] (rput h m f (rsG (layG g) n (ps (layG g 25) n 0 (k : Int) 0 i) i)) r hr
    have c1 := cnt_bd (fun j => ps (layG g 25) n 0 (k : Int) 0 i j = 7) n
    have c2 := cnt_bd (fun j => ps (layG g 25) n 0 (k : Int) 0 (i + 1) j = 7) n
    refine z_iload d_X12_deafened_46 rfl ?_
    refine z_iload_n d_X12_deafened_48 rfl rfl ?_
    refine z_cs (M1 := M_X12_longest) d_X12_deafened_49 ls_X12_333 k_X12_longest [qI (n : Int)] rfl rfl (Nat.le_of_ble_eq_true rfl) (by decide) (by decide) (Nat.le_of_ble_eq_true rfl) (c_longest (n : Int) (by omega)) ?_
    refine z_icmp_ge 126 d_X12_deafened_52 (by decide) (fun hc3 => absurd hc3 (by omega)) (fun hc3 => ?_)
    refine z_aload_n d_X12_deafened_55 rfl rfl ?_
    refine z_getf (v := qR (m + 28)) d_X12_deafened_56 fl_X12_95 rput_o rfl ?_
    refine z_iload_n d_X12_deafened_59 rfl rfl ?_
    refine z_cs (M1 := M_X12_litIn) d_X12_deafened_60 ls_X12_302 k_X12_litIn [qR (m + 28), qI (n : Int)] rfl rfl (Nat.le_of_ble_eq_true rfl) (by decide) (by decide) (Nat.le_of_ble_eq_true rfl) (c_litIn n (rput_a2 28 (t := 0) (n := 32) (F := ((rsG (layG g) n (ps (layG g 25) n 0 (k : Int) 0 i) i) 28)) rfl rfl rfl (by decide) (by decide)) (by omega) (by decide)) ?_
    refine z_eq rfl (qc (qi (show (cnt (fun q9 => ((rsG (layG g) n (ps (layG g 25) n 0 (k : Int) 0 i) i) 28) q9 = 7) n) = (cnt (fun q9 => ps (layG g 25) n 0 (k : Int) 0 i q9 = 7) n) from cnt_congr (fun q9 hq9 => by rw [rsG_28 hq9]))) rfl) rfl ?_
    refine z_istore (ls' := [qR m, qI (n : Int), qI (k : Int), qI 0, qI (dfA (layG g 25) n k i), qI (dfW (layG g 25) n k i), qI (i : Int), qI (cnt (fun q9 => ps (layG g 25) n 0 (k : Int) 0 i q9 = 7) n)]) d_X12_deafened_63 (by decide) rfl ?_
    refine z_aload_n d_X12_deafened_65 rfl rfl ?_
    refine z_aload_n d_X12_deafened_66 rfl rfl ?_
    refine z_getf (v := qR (m + 28)) d_X12_deafened_67 fl_X12_95 rput_o rfl ?_
    refine z_iload_n d_X12_deafened_70 rfl rfl ?_
    refine z_iconst d_X12_deafened_71 (by decide) ?_
    refine z_iload_n d_X12_deafened_72 rfl rfl ?_
    refine z_aload_n d_X12_deafened_73 rfl rfl ?_
    refine z_getf (v := qR (m + 25)) d_X12_deafened_74 fl_X12_86 rput_o rfl ?_
    refine z_cv0 (M1 := M_X12_steps) d_X12_deafened_77 lv_X12_336 k_X12_steps [qR (m + 28), qI (n : Int), qI 0, qI (k : Int), qR (m + 25)] rfl rfl rput_o ⟨_, _, rfl⟩ (Nat.le_of_ble_eq_true rfl) (by decide) (by decide) (Nat.le_of_ble_eq_true rfl) (c_steps28_0 (n := n) (k : Int) hm (by omega) (fun q9 hq9 => by rw [show (rsG (layG g) n (ps (layG g 25) n 0 (k : Int) 0 i) i) 28 q9 = _ from rsG_28 hq9]; exact ps_bd (fun c hc => by rw [show layG g 25 c = ownT g c from layG_T hc]; exact bkTc_bd hO (by decide) c hc) i q9 hq9)) ?_
    refine z_eq rfl rfl (rput_cg rfl (rsG_s (fun c hc => by rw [show layG g 25 c = ownT g c from layG_T hc]; exact bkTc_bd hO (by decide) c hc))) ?_
    refine z_aload_n d_X12_deafened_80 rfl rfl ?_
    refine z_getf (v := qR (m + 28)) d_X12_deafened_81 fl_X12_95 rput_o rfl ?_
    refine z_iload_n d_X12_deafened_84 rfl rfl ?_
    refine z_cs (M1 := M_X12_litIn) d_X12_deafened_85 ls_X12_302 k_X12_litIn [qR (m + 28), qI (n : Int)] rfl rfl (Nat.le_of_ble_eq_true rfl) (by decide) (by decide) (Nat.le_of_ble_eq_true rfl) (c_litIn n (rput_a2 28 (t := 0) (n := 32) (F := ((rsG (layG g) n (ps (layG g 25) n 0 (k : Int) 0 (i + 1)) (i + 1)) 28)) rfl rfl rfl (by decide) (by decide)) (by omega) (by decide)) ?_
    refine z_eq rfl (qc (qi (show (cnt (fun q9 => ((rsG (layG g) n (ps (layG g 25) n 0 (k : Int) 0 (i + 1)) (i + 1)) 28) q9 = 7) n) = (cnt (fun q9 => ps (layG g 25) n 0 (k : Int) 0 (i + 1) q9 = 7) n) from cnt_congr (fun q9 hq9 => by rw [rsG_28 hq9]))) rfl) rfl ?_
    refine z_iload d_X12_deafened_88 rfl ?_
    refine z_isub d_X12_deafened_90 (by omega) ?_
    refine z_istore (ls' := [qR m, qI (n : Int), qI (k : Int), qI 0, qI (dfA (layG g 25) n k i), qI (dfW (layG g 25) n k i), qI (i : Int), qI ((cnt (fun q9 => ps (layG g 25) n 0 (k : Int) 0 (i + 1) q9 = 7) n) - (cnt (fun q9 => ps (layG g 25) n 0 (k : Int) 0 i q9 = 7) n))]) d_X12_deafened_91 (by decide) rfl ?_
    refine z_eq (qc rfl (qc rfl (qc rfl (qc rfl (qc rfl (qc rfl (qc rfl (qc (qi (show ((cnt (fun q9 => ps (layG g 25) n 0 (k : Int) 0 (i + 1) q9 = 7) n) - (cnt (fun q9 => ps (layG g 25) n 0 (k : Int) 0 i q9 = 7) n)) = (dfD (layG g 25) n k i) from rfl)) rfl)))))))) rfl rfl ?_
    refine z_iload d_X12_deafened_93 rfl ?_
    refine z_iload d_X12_deafened_95 rfl ?_
    suffices kJ97 : qEx M_X12_deafened 109 [qR m, qI (n : Int), qI (k : Int), qI 0, qI (dfA (layG g 25) n k i), qI (dfW (layG g 25) n k i), qI (i : Int), qI (dfD (layG g 25) n k i)] [qI (qif ((dfD (layG g 25) n k i) ≤ (dfA (layG g 25) n k i)) (dfW (layG g 25) n k i) ((i : Int) + 1))] (rput h m f (rsG (layG g) n (ps (layG g 25) n 0 (k : Int) 0 (i + 1)) (i + 1))) r hr by
      refine z_icmp_le 107 d_X12_deafened_97 (by decide) (fun hc4 => ?_) (fun hc4 => ?_)
      · refine z_iload d_X12_deafened_107 rfl ?_
        exact z_eq rfl (qc (qi (qif_t hc4).symm) rfl) rfl kJ97
      · refine z_iload d_X12_deafened_100 rfl ?_
        refine z_iconst d_X12_deafened_102 (by decide) ?_
        refine z_iadd d_X12_deafened_103 (by omega) ?_
        refine z_goto 109 d_X12_deafened_104 (by decide) ?_
        exact z_eq rfl (qc (qi (qif_f hc4).symm) rfl) rfl kJ97
    refine z_istore (ls' := [qR m, qI (n : Int), qI (k : Int), qI 0, qI (dfA (layG g 25) n k i), qI (qif ((dfD (layG g 25) n k i) ≤ (dfA (layG g 25) n k i)) (dfW (layG g 25) n k i) ((i : Int) + 1)), qI (i : Int), qI (dfD (layG g 25) n k i)]) d_X12_deafened_109 (by decide) rfl ?_
    refine z_iload d_X12_deafened_111 rfl ?_
    refine z_iload d_X12_deafened_113 rfl ?_
    refine z_cs (M1 := M_X12_more2) d_X12_deafened_115 ls_X12_372 k_X12_more2 [qI (dfD (layG g 25) n k i), qI (dfA (layG g 25) n k i)] rfl rfl (Nat.le_of_ble_eq_true rfl) (by decide) (by decide) (Nat.le_of_ble_eq_true rfl) (c_more2 (dfD (layG g 25) n k i) (dfA (layG g 25) n k i)) ?_
    refine z_istore (ls' := [qR m, qI (n : Int), qI (k : Int), qI 0, qI (if (dfD (layG g 25) n k i) > (dfA (layG g 25) n k i) then (dfD (layG g 25) n k i) else (dfA (layG g 25) n k i)), qI (qif ((dfD (layG g 25) n k i) ≤ (dfA (layG g 25) n k i)) (dfW (layG g 25) n k i) ((i : Int) + 1)), qI (i : Int), qI (dfD (layG g 25) n k i)]) d_X12_deafened_118 (by decide) rfl ?_
    refine z_iinc (ls' := [qR m, qI (n : Int), qI (k : Int), qI 0, qI (if (dfD (layG g 25) n k i) > (dfA (layG g 25) n k i) then (dfD (layG g 25) n k i) else (dfA (layG g 25) n k i)), qI (qif ((dfD (layG g 25) n k i) ≤ (dfA (layG g 25) n k i)) (dfW (layG g 25) n k i) ((i : Int) + 1)), qI ((i : Int) + 1), qI (dfD (layG g 25) n k i)]) d_X12_deafened_120 rfl (by decide) (by omega) rfl ?_
    refine z_goto 46 d_X12_deafened_123 (by decide) ?_
    exact z_dr (qle_k rfl (qle_k rfl (qle_k rfl (qle_k rfl (qle_k (qi (rfl)) (qle_k (qi (rfl)) (qle_k (qi (by omega)) (qle_d qle_n)))))))) rfl rfl (kki trivial)
  · show qEx M_X12_deafened 46 [qR m, qI (n : Int), qI (k : Int), qI 0, qI (dfA (layG g 25) n k (3 * n + 20)), qI (dfW (layG g 25) n k (3 * n + 20)), qI (((3 * n + 20) : Nat) : Int), qU] [] (rput h m f (rsG (layG g) n (ps (layG g 25) n 0 (k : Int) 0 (3 * n + 20)) (3 * n + 20))) r hr
    refine z_iload d_X12_deafened_46 rfl ?_
    refine z_iload_n d_X12_deafened_48 rfl rfl ?_
    refine z_cs (M1 := M_X12_longest) d_X12_deafened_49 ls_X12_333 k_X12_longest [qI (n : Int)] rfl rfl (Nat.le_of_ble_eq_true rfl) (by decide) (by decide) (Nat.le_of_ble_eq_true rfl) (c_longest (n : Int) (by omega)) ?_
    refine z_icmp_ge 126 d_X12_deafened_52 (by decide) (fun hc5 => ?_) (fun hc5 => absurd hc5 (by omega))
    refine z_iload_n d_X12_deafened_126 rfl rfl ?_
    refine z_if_ne 135 d_X12_deafened_127 (by decide) (fun hc6 => absurd hc6 (by decide)) (fun hc6 => ?_)
    refine z_iload d_X12_deafened_130 rfl ?_
    refine z_goto 137 d_X12_deafened_132 (by decide) ?_
    exact z_iret d_X12_deafened_137 rfl er eh
set_option maxRecDepth 20000 in
set_option maxHeartbeats 4000000 in
theorem c_deafened1 {h : qH} {m : Nat} {f : Nat → Int} {g : Nat → Nat → Int} {n : Nat} (k : Nat) (hm : 2 ≤ m) (h0 : f 0 = 0) (hn : 1 ≤ n ∧ n ≤ 32) (hk : k < n) (hO : bkOk (g 2) (g 5)) : qEx M_X12_deafened 0 [qR m, qI (n : Int), qI (k : Int), qI 1, qU, qU, qU, qU] [] (rput h m f g) (some (qI (dfW (layG g 25) n k (3 * n + 20)))) (rput h m f (rsG (layG g) n (ps (layG g 25) n 0 (k : Int) 0 (3 * n + 20)) (3 * n + 20))) := by
  refine q_gen (fun r hr er eh => ?_)
  refine z_aload_n d_X12_deafened_0 rfl rfl ?_
  refine z_iconst d_X12_deafened_1 (by decide) ?_
  refine z_putf (fs' := [qI 0, qI (f 1), qI (f 2), qI (f 3), qI (f 4), qI (f 5), qI (f 6), qI (f 7), qR (m + 1), qR (m + 2), qR (m + 3), qR (m + 4), qR (m + 5), qR (m + 6), qR (m + 7), qR (m + 8), qR (m + 9), qR (m + 10), qI (f 18), qI (f 19), qI (f 20), qR (m + 11), qR (m + 12), qR (m + 13), qR (m + 14), qI (f 25), qR (m + 15), qI (f 27), qR (m + 16), qR (m + 17), qR (m + 18), qR (m + 19), qR (m + 20), qR (m + 21), qR (m + 22), qR (m + 23), qR (m + 24), qI (f 37), qI (f 38), qI (f 39), qI (f 40), qR (m + 25), qR (m + 26), qR (m + 27), qR (m + 28), qR (m + 29), qR (m + 30), qR (m + 31), qI (f 48), qR (m + 32), qR (m + 33), qR (m + 34), qR (m + 35), qR (m + 36), qR (m + 37)]) d_X12_deafened_2 fp_X12_127 rput_o (fun _ => rfl) (fun _ => rfl) (Nat.le_of_ble_eq_true rfl) rfl ?_
  refine z_eq rfl rfl ((rput_sf (f' := qup f 0 0) rfl).trans (rput_cg (qup_self h0) rfl)) ?_
  refine z_iload_n d_X12_deafened_5 rfl rfl ?_
  refine z_iload_n d_X12_deafened_6 rfl rfl ?_
  refine z_cs (M1 := M_X12_isRun) d_X12_deafened_7 ls_X12_347 k_X12_isRun [qI (n : Int), qI (k : Int)] rfl rfl (Nat.le_of_ble_eq_true rfl) (by decide) (by decide) (Nat.le_of_ble_eq_true rfl) (c_isRun2 (n : Int) (k : Int) (by omega)) ?_
  refine z_ifeqB 22 d_X12_deafened_10 (by decide) (fun hc1 => absurd hc1 (by omega)) (fun hc1 => ?_)
  refine z_iload_n d_X12_deafened_13 rfl rfl ?_
  refine z_iconst d_X12_deafened_14 (by decide) ?_
  refine z_iconst d_X12_deafened_15 (by decide) ?_
  refine z_cs (M1 := M_X12_in) d_X12_deafened_16 ls_X12_137 k_X12_in [qI 1, qI 0, qI 1] rfl rfl (Nat.le_of_ble_eq_true rfl) (by decide) (by decide) (Nat.le_of_ble_eq_true rfl) (c_in 1 0 1) ?_
  refine z_ifneB 24 d_X12_deafened_19 (by decide) (fun hc2 => ?_) (fun hc2 => absurd hc2 (by omega))
  refine z_aload_n d_X12_deafened_24 rfl rfl ?_
  refine z_cv0 (M1 := M_X12_laysOwn) d_X12_deafened_25 lv_X12_275 k_X12_laysOwn [] rfl rfl rput_o ⟨_, _, rfl⟩ (Nat.le_of_ble_eq_true rfl) (by decide) (by decide) (Nat.le_of_ble_eq_true rfl) (c_laysOwn hm) ?_
  refine z_aload_n d_X12_deafened_28 rfl rfl ?_
  refine z_getf (v := qR (m + 28)) d_X12_deafened_29 fl_X12_95 rput_o rfl ?_
  refine z_iload_n d_X12_deafened_32 rfl rfl ?_
  refine z_iconst d_X12_deafened_33 (by decide) ?_
  refine z_cs0 (M1 := M_X12_begins) d_X12_deafened_34 ls_X12_329 k_X12_begins [qR (m + 28), qI (n : Int), qI 0] rfl rfl (Nat.le_of_ble_eq_true rfl) (by decide) (by decide) (Nat.le_of_ble_eq_true rfl) (c_begins n 0 (rput_a2 28 (t := 0) (n := 32) (F := ((layG g) 28)) rfl rfl rfl (by decide) (by decide)) (by omega) (by omega) (by decide)) ?_
  refine z_eq rfl rfl (rput_sa 28 rfl rfl (by decide) (by decide)) ?_
  refine z_iconst d_X12_deafened_37 (by decide) ?_
  refine z_istore (ls' := [qR m, qI (n : Int), qI (k : Int), qI 1, qI 0, qU, qU, qU]) d_X12_deafened_38 (by decide) rfl ?_
  refine z_iconst d_X12_deafened_40 (by decide) ?_
  refine z_istore (ls' := [qR m, qI (n : Int), qI (k : Int), qI 1, qI 0, qI (-1), qU, qU]) d_X12_deafened_41 (by decide) rfl ?_
  refine z_iconst d_X12_deafened_43 (by decide) ?_
  refine z_istore (ls' := [qR m, qI (n : Int), qI (k : Int), qI 1, qI 0, qI (-1), qI 0, qU]) d_X12_deafened_44 (by decide) rfl ?_
  refine z_eq (qc rfl (qc rfl (qc rfl (qc rfl (qc (qi (rfl)) (qc (qi (rfl)) (qc (qi (by omega)) (qc rfl rfl)))))))) rfl (rput_cg rfl rsG_0.symm) (z_for (3 * n + 20) (fun i => [qR m, qI (n : Int), qI (k : Int), qI 1, qI (dfA (layG g 25) n k i), qI (dfW (layG g 25) n k i), qI (i : Int), qU]) (fun i => (rput h m f (rsG (layG g) n (ps (layG g 25) n 0 (k : Int) 0 i) i))) (fun i => True) trivial (fun i hii hp kki => ?_) (fun hp => ?_))
  · show qEx M_X12_deafened 46 [qR m, qI (n : Int), qI (k : Int), qI 1, qI (dfA (layG g 25) n k i), qI (dfW (layG g 25) n k i), qI (i : Int), qU] [] (rput h m f (rsG (layG g) n (ps (layG g 25) n 0 (k : Int) 0 i) i)) r hr
    have c1 := cnt_bd (fun j => ps (layG g 25) n 0 (k : Int) 0 i j = 7) n
    have c2 := cnt_bd (fun j => ps (layG g 25) n 0 (k : Int) 0 (i + 1) j = 7) n
    refine z_iload d_X12_deafened_46 rfl ?_
    refine z_iload_n d_X12_deafened_48 rfl rfl ?_
    refine z_cs (M1 := M_X12_longest) d_X12_deafened_49 ls_X12_333 k_X12_longest [qI (n : Int)] rfl rfl (Nat.le_of_ble_eq_true rfl) (by decide) (by decide) (Nat.le_of_ble_eq_true rfl) (c_longest (n : Int) (by omega)) ?_
    refine z_icmp_ge 126 d_X12_deafened_52 (by decide) (fun hc3 => absurd hc3 (by omega)) (fun hc3 => ?_)
    refine z_aload_n d_X12_deafened_55 rfl rfl ?_
    refine z_getf (v := qR (m + 28)) d_X12_deafened_56 fl_X12_95 rput_o rfl ?_
    refine z_iload_n d_X12_deafened_59 rfl rfl ?_
    refine z_cs (M1 := M_X12_litIn) d_X12_deafened_60 ls_X12_302 k_X12_litIn [qR (m + 28), qI (n : Int)] rfl rfl (Nat.le_of_ble_eq_true rfl) (by decide) (by decide) (Nat.le_of_ble_eq_true rfl) (c_litIn n (rput_a2 28 (t := 0) (n := 32) (F := ((rsG (layG g) n (ps (layG g 25) n 0 (k : Int) 0 i) i) 28)) rfl rfl rfl (by decide) (by decide)) (by omega) (by decide)) ?_
    refine z_eq rfl (qc (qi (show (cnt (fun q9 => ((rsG (layG g) n (ps (layG g 25) n 0 (k : Int) 0 i) i) 28) q9 = 7) n) = (cnt (fun q9 => ps (layG g 25) n 0 (k : Int) 0 i q9 = 7) n) from cnt_congr (fun q9 hq9 => by rw [rsG_28 hq9]))) rfl) rfl ?_
    refine z_istore (ls' := [qR m, qI (n : Int), qI (k : Int), qI 1, qI (dfA (layG g 25) n k i), qI (dfW (layG g 25) n k i), qI (i : Int), qI (cnt (fun q9 => ps (layG g 25) n 0 (k : Int) 0 i q9 = 7) n)]) d_X12_deafened_63 (by decide) rfl ?_
    refine z_aload_n d_X12_deafened_65 rfl rfl ?_
    refine z_aload_n d_X12_deafened_66 rfl rfl ?_
    refine z_getf (v := qR (m + 28)) d_X12_deafened_67 fl_X12_95 rput_o rfl ?_
    refine z_iload_n d_X12_deafened_70 rfl rfl ?_
    refine z_iconst d_X12_deafened_71 (by decide) ?_
    refine z_iload_n d_X12_deafened_72 rfl rfl ?_
    refine z_aload_n d_X12_deafened_73 rfl rfl ?_
    refine z_getf (v := qR (m + 25)) d_X12_deafened_74 fl_X12_86 rput_o rfl ?_
    refine z_cv0 (M1 := M_X12_steps) d_X12_deafened_77 lv_X12_336 k_X12_steps [qR (m + 28), qI (n : Int), qI 0, qI (k : Int), qR (m + 25)] rfl rfl rput_o ⟨_, _, rfl⟩ (Nat.le_of_ble_eq_true rfl) (by decide) (by decide) (Nat.le_of_ble_eq_true rfl) (c_steps28_0 (n := n) (k : Int) hm (by omega) (fun q9 hq9 => by rw [show (rsG (layG g) n (ps (layG g 25) n 0 (k : Int) 0 i) i) 28 q9 = _ from rsG_28 hq9]; exact ps_bd (fun c hc => by rw [show layG g 25 c = ownT g c from layG_T hc]; exact bkTc_bd hO (by decide) c hc) i q9 hq9)) ?_
    refine z_eq rfl rfl (rput_cg rfl (rsG_s (fun c hc => by rw [show layG g 25 c = ownT g c from layG_T hc]; exact bkTc_bd hO (by decide) c hc))) ?_
    refine z_aload_n d_X12_deafened_80 rfl rfl ?_
    refine z_getf (v := qR (m + 28)) d_X12_deafened_81 fl_X12_95 rput_o rfl ?_
    refine z_iload_n d_X12_deafened_84 rfl rfl ?_
    refine z_cs (M1 := M_X12_litIn) d_X12_deafened_85 ls_X12_302 k_X12_litIn [qR (m + 28), qI (n : Int)] rfl rfl (Nat.le_of_ble_eq_true rfl) (by decide) (by decide) (Nat.le_of_ble_eq_true rfl) (c_litIn n (rput_a2 28 (t := 0) (n := 32) (F := ((rsG (layG g) n (ps (layG g 25) n 0 (k : Int) 0 (i + 1)) (i + 1)) 28)) rfl rfl rfl (by decide) (by decide)) (by omega) (by decide)) ?_
    refine z_eq rfl (qc (qi (show (cnt (fun q9 => ((rsG (layG g) n (ps (layG g 25) n 0 (k : Int) 0 (i + 1)) (i + 1)) 28) q9 = 7) n) = (cnt (fun q9 => ps (layG g 25) n 0 (k : Int) 0 (i + 1) q9 = 7) n) from cnt_congr (fun q9 hq9 => by rw [rsG_28 hq9]))) rfl) rfl ?_
    refine z_iload d_X12_deafened_88 rfl ?_
    refine z_isub d_X12_deafened_90 (by omega) ?_
    refine z_istore (ls' := [qR m, qI (n : Int), qI (k : Int), qI 1, qI (dfA (layG g 25) n k i), qI (dfW (layG g 25) n k i), qI (i : Int), qI ((cnt (fun q9 => ps (layG g 25) n 0 (k : Int) 0 (i + 1) q9 = 7) n) - (cnt (fun q9 => ps (layG g 25) n 0 (k : Int) 0 i q9 = 7) n))]) d_X12_deafened_91 (by decide) rfl ?_
    refine z_eq (qc rfl (qc rfl (qc rfl (qc rfl (qc rfl (qc rfl (qc rfl (qc (qi (show ((cnt (fun q9 => ps (layG g 25) n 0 (k : Int) 0 (i + 1) q9 = 7) n) - (cnt (fun q9 => ps (layG g 25) n 0 (k : Int) 0 i q9 = 7) n)) = (dfD (layG g 25) n k i) from rfl)) rfl)))))))) rfl rfl ?_
    refine z_iload d_X12_deafened_93 rfl ?_
    refine z_iload d_X12_deafened_95 rfl ?_
    suffices kJ97 : qEx M_X12_deafened 109 [qR m, qI (n : Int), qI (k : Int), qI 1, qI (dfA (layG g 25) n k i), qI (dfW (layG g 25) n k i), qI (i : Int), qI (dfD (layG g 25) n k i)] [qI (qif ((dfD (layG g 25) n k i) ≤ (dfA (layG g 25) n k i)) (dfW (layG g 25) n k i) ((i : Int) + 1))] (rput h m f (rsG (layG g) n (ps (layG g 25) n 0 (k : Int) 0 (i + 1)) (i + 1))) r hr by
      refine z_icmp_le 107 d_X12_deafened_97 (by decide) (fun hc4 => ?_) (fun hc4 => ?_)
      · refine z_iload d_X12_deafened_107 rfl ?_
        exact z_eq rfl (qc (qi (qif_t hc4).symm) rfl) rfl kJ97
      · refine z_iload d_X12_deafened_100 rfl ?_
        refine z_iconst d_X12_deafened_102 (by decide) ?_
        refine z_iadd d_X12_deafened_103 (by omega) ?_
        refine z_goto 109 d_X12_deafened_104 (by decide) ?_
        exact z_eq rfl (qc (qi (qif_f hc4).symm) rfl) rfl kJ97
    refine z_istore (ls' := [qR m, qI (n : Int), qI (k : Int), qI 1, qI (dfA (layG g 25) n k i), qI (qif ((dfD (layG g 25) n k i) ≤ (dfA (layG g 25) n k i)) (dfW (layG g 25) n k i) ((i : Int) + 1)), qI (i : Int), qI (dfD (layG g 25) n k i)]) d_X12_deafened_109 (by decide) rfl ?_
    refine z_iload d_X12_deafened_111 rfl ?_
    refine z_iload d_X12_deafened_113 rfl ?_
    refine z_cs (M1 := M_X12_more2) d_X12_deafened_115 ls_X12_372 k_X12_more2 [qI (dfD (layG g 25) n k i), qI (dfA (layG g 25) n k i)] rfl rfl (Nat.le_of_ble_eq_true rfl) (by decide) (by decide) (Nat.le_of_ble_eq_true rfl) (c_more2 (dfD (layG g 25) n k i) (dfA (layG g 25) n k i)) ?_
    refine z_istore (ls' := [qR m, qI (n : Int), qI (k : Int), qI 1, qI (if (dfD (layG g 25) n k i) > (dfA (layG g 25) n k i) then (dfD (layG g 25) n k i) else (dfA (layG g 25) n k i)), qI (qif ((dfD (layG g 25) n k i) ≤ (dfA (layG g 25) n k i)) (dfW (layG g 25) n k i) ((i : Int) + 1)), qI (i : Int), qI (dfD (layG g 25) n k i)]) d_X12_deafened_118 (by decide) rfl ?_
    refine z_iinc (ls' := [qR m, qI (n : Int), qI (k : Int), qI 1, qI (if (dfD (layG g 25) n k i) > (dfA (layG g 25) n k i) then (dfD (layG g 25) n k i) else (dfA (layG g 25) n k i)), qI (qif ((dfD (layG g 25) n k i) ≤ (dfA (layG g 25) n k i)) (dfW (layG g 25) n k i) ((i : Int) + 1)), qI ((i : Int) + 1), qI (dfD (layG g 25) n k i)]) d_X12_deafened_120 rfl (by decide) (by omega) rfl ?_
    refine z_goto 46 d_X12_deafened_123 (by decide) ?_
    exact z_dr (qle_k rfl (qle_k rfl (qle_k rfl (qle_k rfl (qle_k (qi (rfl)) (qle_k (qi (rfl)) (qle_k (qi (by omega)) (qle_d qle_n)))))))) rfl rfl (kki trivial)
  · show qEx M_X12_deafened 46 [qR m, qI (n : Int), qI (k : Int), qI 1, qI (dfA (layG g 25) n k (3 * n + 20)), qI (dfW (layG g 25) n k (3 * n + 20)), qI (((3 * n + 20) : Nat) : Int), qU] [] (rput h m f (rsG (layG g) n (ps (layG g 25) n 0 (k : Int) 0 (3 * n + 20)) (3 * n + 20))) r hr
    refine z_iload d_X12_deafened_46 rfl ?_
    refine z_iload_n d_X12_deafened_48 rfl rfl ?_
    refine z_cs (M1 := M_X12_longest) d_X12_deafened_49 ls_X12_333 k_X12_longest [qI (n : Int)] rfl rfl (Nat.le_of_ble_eq_true rfl) (by decide) (by decide) (Nat.le_of_ble_eq_true rfl) (c_longest (n : Int) (by omega)) ?_
    refine z_icmp_ge 126 d_X12_deafened_52 (by decide) (fun hc5 => ?_) (fun hc5 => absurd hc5 (by omega))
    refine z_iload_n d_X12_deafened_126 rfl rfl ?_
    refine z_if_ne 135 d_X12_deafened_127 (by decide) (fun hc6 => ?_) (fun hc6 => absurd (by decide) hc6)
    refine z_iload d_X12_deafened_135 rfl ?_
    exact z_iret d_X12_deafened_137 rfl er eh
