/-! ===== CONTRACTS: the reference: isGood, firstBad, laysOwn, fireOf, fires, ring, works, soon ===== -/
set_option maxRecDepth 20000 in
set_option maxHeartbeats 4000000 in
theorem c_isGood {h : qH} {m : Nat} {f : Nat → Int} {g : Nat → Nat → Int} {n : Nat} (hm : 2 ≤ m) (hn : 1 ≤ n ∧ n ≤ 32) (hT : ∀ c, c < 648 → 0 ≤ g 25 c ∧ g 25 c ≤ 7) : qEx M_X12_isGood 0 [qR m, qI (n : Int)] [] (rput h m f g) (some (qI (qb (goodR (g 25) n)))) (rput h m f (scr g n (rnE (g 25) n 0 0))) := by
  refine q_gen (fun r hr er eh => ?_)
  refine z_aload_n d_X12_isGood_0 rfl rfl ?_
  refine z_iload_n d_X12_isGood_1 rfl rfl ?_
  refine z_iconst d_X12_isGood_2 (by decide) ?_
  refine z_iconst d_X12_isGood_3 (by decide) ?_
  refine z_cv (M1 := M_X12_runs) d_X12_isGood_4 lv_X12_340 k_X12_runs [qI (n : Int), qI 0, qI 0] rfl rfl rput_o ⟨_, _, rfl⟩ (Nat.le_of_ble_eq_true rfl) (by decide) (by decide) (Nat.le_of_ble_eq_true rfl) (c_runs0 (n := n) 0 hm (by omega) hT) ?_
  refine z_iconst d_X12_isGood_7 (by decide) ?_
  refine z_icmp_eq 27 d_X12_isGood_8 (by decide) (fun q1 => ?_) (fun q1 => ?_)
  · refine z_iconst d_X12_isGood_27 (by decide) ?_
    exact z_zret d_X12_isGood_28 rfl (by first | exact qb_01 _ | decide | omega) (qer er (qb_f (fun z => by first | exact z.1 q1 | exact q2 z.2))) eh
  · refine z_aload_n d_X12_isGood_11 rfl rfl ?_
    refine z_getf (v := qR (m + 28)) d_X12_isGood_12 fl_X12_95 rput_o rfl ?_
    refine z_iload_n d_X12_isGood_15 rfl rfl ?_
    refine z_cs (M1 := M_X12_litIn) d_X12_isGood_16 ls_X12_302 k_X12_litIn [qR (m + 28), qI (n : Int)] rfl rfl (Nat.le_of_ble_eq_true rfl) (by decide) (by decide) (Nat.le_of_ble_eq_true rfl) (c_litIn n (rput_a2 28 (t := 0) (n := 32) (F := ((scr g n (rnE (g 25) n 0 0)) 28)) rfl rfl rfl (by decide) (by decide)) (by omega) (by decide)) ?_
    refine z_eq rfl (qc (qi (show (cnt (fun q9 => ((scr g n (rnE (g 25) n 0 0)) 28) q9 = 7) n) = (cnt (fun k => rnE (g 25) n 0 0 k = 7) n) from cnt_congr (fun k hk => by rw [show scr g n (rnE (g 25) n 0 0) 28 k = rnE (g 25) n 0 0 k from qmx_lt hk]))) rfl) rfl ?_
    refine z_iload_n d_X12_isGood_19 rfl rfl ?_
    refine z_icmp_ne 27 d_X12_isGood_20 (by decide) (fun q2 => ?_) (fun q2 => ?_)
    · refine z_iconst d_X12_isGood_27 (by decide) ?_
      exact z_zret d_X12_isGood_28 rfl (by first | exact qb_01 _ | decide | omega) (qer er (qb_f (fun z => by first | exact z.1 q1 | exact q2 z.2))) eh
    · refine z_iconst d_X12_isGood_23 (by decide) ?_
      refine z_goto 28 d_X12_isGood_24 (by decide) ?_
      exact z_zret d_X12_isGood_28 rfl (by first | exact qb_01 _ | decide | omega) (qer er (qb_t ⟨q1, Classical.not_not.mp q2⟩)) eh
set_option maxRecDepth 20000 in
set_option maxHeartbeats 4000000 in
theorem c_firstBad {h : qH} {m : Nat} {f : Nat → Int} {g : Nat → Nat → Int} {to : Nat} (hm : 2 ≤ m) (ht : to ≤ 24) (hT : ∀ c, c < 648 → 0 ≤ g 25 c ∧ g 25 c ≤ 7) : qEx M_X12_firstBad 0 [qR m, qI (to : Int), qU] [] (rput h m f g) (some (qI (fbR (g 25) to))) (rput h m f (scr g (fbN (g 25) to) (rnE (g 25) (fbN (g 25) to) 0 0))) := by
  refine q_gen (fun r hr er eh => ?_)
  refine z_iconst d_X12_firstBad_0 (by decide) ?_
  refine z_istore_n (ls' := [qR m, qI (to : Int), qI 1]) d_X12_firstBad_1 rfl (by decide) rfl ?_
  refine z_eq (qc rfl (qc rfl (qc (qi (rfl)) rfl))) rfl (rput_cg rfl scr_0.symm) (z_for to (fun i => [qR m, qI (to : Int), qI ((i : Int) + 1)]) (fun i => (rput h m f (scr g i (rnE (g 25) i 0 0)))) (fun i => ∀ k, k < i → goodR (g 25) (k + 1)) (fun k hk => absurd hk (by omega)) (fun i hii hp kki => ?_) (fun hp => ?_))
  · show qEx M_X12_firstBad 2 [qR m, qI (to : Int), qI ((i : Int) + 1)] [] (rput h m f (scr g i (rnE (g 25) i 0 0))) r hr
    refine z_iload_n d_X12_firstBad_2 rfl rfl ?_
    refine z_iload_n d_X12_firstBad_3 rfl rfl ?_
    refine z_icmp_gt 23 d_X12_firstBad_4 (by decide) (fun hc1 => absurd hc1 (by omega)) (fun hc1 => ?_)
    refine z_aload_n d_X12_firstBad_7 rfl rfl ?_
    refine z_iload_n d_X12_firstBad_8 rfl rfl ?_
    refine z_cv (M1 := M_X12_isGood) d_X12_firstBad_9 lv_X12_344 k_X12_isGood [qI ((i : Int) + 1)] rfl rfl rput_o ⟨_, _, rfl⟩ (Nat.le_of_ble_eq_true rfl) (by decide) (by decide) (Nat.le_of_ble_eq_true rfl) (c_isGood (n := (i + 1)) hm (by omega) hT) ?_
    refine z_ifneB 17 d_X12_firstBad_12 (by decide) (fun q1 => ?_) (fun q1 => ?_)
    · refine z_iinc (ls' := [qR m, qI (to : Int), qI (((i : Int) + 1) + 1)]) d_X12_firstBad_17 rfl (by decide) (by omega) rfl ?_
      refine z_goto 2 d_X12_firstBad_20 (by decide) ?_
      exact z_eq (qc rfl (qc rfl (qc (qi (by omega)) rfl))) rfl (rput_cg rfl (scr_scr (by omega))) (kki (q_lts hp q1))
    · refine z_iload_n d_X12_firstBad_15 rfl rfl ?_
      exact z_iret d_X12_firstBad_16 rfl (qer er (by unfold fbR; rw [fb_f hii hp q1, qif_f (by omega)])) (eh.trans (rput_cg rfl (by unfold fbN; rw [fb_f hii hp q1, if_neg (by omega), Int.toNat_natCast, scr_scr (by omega)]; rfl)))
  · show qEx M_X12_firstBad 2 [qR m, qI (to : Int), qI ((to : Int) + 1)] [] (rput h m f (scr g to (rnE (g 25) to 0 0))) r hr
    refine z_iload_n d_X12_firstBad_2 rfl rfl ?_
    refine z_iload_n d_X12_firstBad_3 rfl rfl ?_
    refine z_icmp_gt 23 d_X12_firstBad_4 (by decide) (fun hc2 => ?_) (fun hc2 => absurd hc2 (by omega))
    refine z_iconst d_X12_firstBad_23 (by decide) ?_
    exact z_iret d_X12_firstBad_24 rfl (qer er (by unfold fbR; rw [fb_n hp, qif_t rfl])) (eh.trans (rput_cg rfl (by unfold fbN; rw [fb_n hp, if_pos rfl])))
/-- the reference's own book laid out -/
noncomputable def ownT (g : Nat → Nat → Int) : Nat → Int := bkTc (g 2) (g 5) 15 (-1) (-1) 0
noncomputable def ownF (g : Nat → Nat → Int) : Nat → Int := bkFc (g 2) (g 5) 15 (-1)
noncomputable def layG (g : Nat → Nat → Int) : Nat → Nat → Int := gup (gup g 25 (qmx 648 (ownT g) (g 25))) 26 (qmx 648 (ownF g) (g 26))
theorem layG_ne {g : Nat → Nat → Int} {k : Nat} (h1 : k ≠ 25) (h2 : k ≠ 26) : layG g k = g k := by
  unfold layG
  rw [gup_ne h2, gup_ne h1]
theorem layG_T {g : Nat → Nat → Int} {c : Nat} (h : c < 648) : layG g 25 c = ownT g c := by
  unfold layG
  rw [gup_ne (by decide), gup_eq, qmx_lt h]
theorem layG_F {g : Nat → Nat → Int} {c : Nat} (h : c < 648) : layG g 26 c = ownF g c := by
  unfold layG
  rw [gup_eq, qmx_lt h]
/-- a book whose rules on its pages say 0 .. 8 -/
def bkOk (R C : Nat → Int) : Prop := ∀ i, i < 96 → ((i % 24 : Nat) : Int) < C (i / 24) → 0 ≤ R (4 * i + 3) ∧ R (4 * i + 3) ≤ 8
theorem bkT_bd {R C : Nat → Int} {pg wo ch sy : Int} {o l r : Nat} (h : bkOk R C) (ho : o < 8) (hs : 0 ≤ sy ∧ sy ≤ 8) : 0 ≤ bkT R C pg wo ch sy o l r ∧ bkT R C pg wo ch sy o l r ≤ 7 := by
  have hM : 0 ≤ bkM R C pg wo ch sy o l r ∧ bkM R C pg wo ch sy o l r ≤ 8 := by
    unfold bkM
    by_cases h1 : bkF R C pg wo o l r ≠ -1
    · rw [qif_t h1]
      refine qif_or (fun z => 0 ≤ z ∧ z ≤ (8 : Int)) ?_ hs
      unfold bkF at h1 ⊢
      by_cases h7 : o = 7
      · rw [qif_t h7] at h1; exact absurd rfl h1
      · rw [qif_f h7] at h1 ⊢
        rcases fst_cases (bkP R C pg wo o l r) 96 with ⟨e, -⟩ | ⟨i, hi, e, hp, -⟩
        · exact absurd e h1
        · rw [e, Int.toNat_natCast]
          exact h i hi hp.1.2.1
    · rw [qif_f h1]; decide
  unfold bkT
  by_cases h8 : bkM R C pg wo ch sy o l r ≠ 8
  · rw [qif_t h8]; omega
  · rw [qif_f h8]; omega
theorem bkTc_bd {R C : Nat → Int} {pg wo ch sy : Int} (h : bkOk R C) (hs : 0 ≤ sy ∧ sy ≤ 8) (c : Nat) (hc : c < 648) : 0 ≤ bkTc R C pg wo ch sy c ∧ bkTc R C pg wo ch sy c ≤ 7 := bkT_bd h (by omega) hs
set_option maxRecDepth 20000 in
set_option maxHeartbeats 4000000 in
theorem c_laysOwn {h : qH} {m : Nat} {f : Nat → Int} {g : Nat → Nat → Int}  (hm : 2 ≤ m)  : qEx M_X12_laysOwn 0 [qR m] [] (rput h m f g) none (rput h m f (layG g)) := by
  refine q_gen (fun r hr er eh => ?_)
  refine z_aload_n d_X12_laysOwn_0 rfl rfl ?_
  refine z_aload_n d_X12_laysOwn_1 rfl rfl ?_
  refine z_getf (v := qR (m + 2)) d_X12_laysOwn_2 fl_X12_17 rput_o rfl ?_
  refine z_aload_n d_X12_laysOwn_5 rfl rfl ?_
  refine z_getf (v := qR (m + 5)) d_X12_laysOwn_6 fl_X12_26 rput_o rfl ?_
  refine z_bipush d_X12_laysOwn_9 (by decide) ?_
  refine z_iconst d_X12_laysOwn_11 (by decide) ?_
  refine z_iconst d_X12_laysOwn_12 (by decide) ?_
  refine z_iconst d_X12_laysOwn_13 (by decide) ?_
  refine z_aload_n d_X12_laysOwn_14 rfl rfl ?_
  refine z_getf (v := qR (m + 25)) d_X12_laysOwn_15 fl_X12_86 rput_o rfl ?_
  refine z_cv0 (M1 := M_X12_laysBook) d_X12_laysOwn_18 lv_X12_271 k_X12_laysBook [qR (m + 2), qR (m + 5), qI 15, qI (-1), qI (-1), qI 0, qR (m + 25)] rfl rfl rput_o ⟨_, _, rfl⟩ (Nat.le_of_ble_eq_true rfl) (by decide) (by decide) (Nat.le_of_ble_eq_true rfl) (c_laysBook 15 (-1) (-1) 0 hm (by decide) (by decide) (by decide) (by decide) (by decide) (by decide) (by decide) (by decide)) ?_
  exact z_vret d_X12_laysOwn_21 rfl er eh
set_option maxRecDepth 20000 in
set_option maxHeartbeats 4000000 in
theorem c_fireOf00 {h : qH} {m : Nat} {f : Nat → Int} {g : Nat → Nat → Int} {n : Nat} (b : Int) (hm : 2 ≤ m) (hn : 1 ≤ n ∧ n ≤ 32) (hO : bkOk (g 2) (g 5)) : qEx M_X12_fireOf 0 [qR m, qI (n : Int), qI b, qI 0, qI 0, qU] [] (rput h m f g) (some (qI (rnT (layG g 25) n 0 b))) (rput h m f (scr (layG g) n (rnE (layG g 25) n 0 b))) := by
  refine q_gen (fun r hr er eh => ?_)
  refine z_aload_n d_X12_fireOf_0 rfl rfl ?_
  refine z_cv0 (M1 := M_X12_laysOwn) d_X12_fireOf_1 lv_X12_275 k_X12_laysOwn [] rfl rfl rput_o ⟨_, _, rfl⟩ (Nat.le_of_ble_eq_true rfl) (by decide) (by decide) (Nat.le_of_ble_eq_true rfl) (c_laysOwn hm) ?_
  refine z_aload_n d_X12_fireOf_4 rfl rfl ?_
  refine z_iload_n d_X12_fireOf_5 rfl rfl ?_
  refine z_iload_n d_X12_fireOf_6 rfl rfl ?_
  refine z_iload_n d_X12_fireOf_7 rfl rfl ?_
  refine z_cv (M1 := M_X12_runs) d_X12_fireOf_8 lv_X12_340 k_X12_runs [qI (n : Int), qI b, qI 0] rfl rfl rput_o ⟨_, _, rfl⟩ (Nat.le_of_ble_eq_true rfl) (by decide) (by decide) (Nat.le_of_ble_eq_true rfl) (c_runs0 (n := n) b hm (by omega) (fun c hc => by rw [show layG g 25 c = ownT g c from layG_T hc]; exact bkTc_bd hO (by decide) c hc)) ?_
  refine z_istore (ls' := [qR m, qI (n : Int), qI b, qI 0, qI 0, qI (rnT ((layG g) 25) n 0 b)]) d_X12_fireOf_11 (by decide) rfl ?_
  refine z_iload d_X12_fireOf_13 rfl ?_
  refine z_if_ne 23 d_X12_fireOf_15 (by decide) (fun hc1 => absurd hc1 (by decide)) (fun hc1 => ?_)
  refine z_iload d_X12_fireOf_18 rfl ?_
  refine z_goto 49 d_X12_fireOf_20 (by decide) ?_
  exact z_iret d_X12_fireOf_49 rfl er eh
set_option maxRecDepth 20000 in
set_option maxHeartbeats 4000000 in
theorem c_fireOf01 {h : qH} {m : Nat} {f : Nat → Int} {g : Nat → Nat → Int} {n : Nat} (b : Int) (hm : 2 ≤ m) (hn : 1 ≤ n ∧ n ≤ 32) (hO : bkOk (g 2) (g 5)) : qEx M_X12_fireOf 0 [qR m, qI (n : Int), qI b, qI 0, qI 1, qU] [] (rput h m f g) (some (qI (cnt (fun k => (rnE (layG g 25) n 0 b) k = 7) n))) (rput h m f (scr (layG g) n (rnE (layG g 25) n 0 b))) := by
  refine q_gen (fun r hr er eh => ?_)
  refine z_aload_n d_X12_fireOf_0 rfl rfl ?_
  refine z_cv0 (M1 := M_X12_laysOwn) d_X12_fireOf_1 lv_X12_275 k_X12_laysOwn [] rfl rfl rput_o ⟨_, _, rfl⟩ (Nat.le_of_ble_eq_true rfl) (by decide) (by decide) (Nat.le_of_ble_eq_true rfl) (c_laysOwn hm) ?_
  refine z_aload_n d_X12_fireOf_4 rfl rfl ?_
  refine z_iload_n d_X12_fireOf_5 rfl rfl ?_
  refine z_iload_n d_X12_fireOf_6 rfl rfl ?_
  refine z_iload_n d_X12_fireOf_7 rfl rfl ?_
  refine z_cv (M1 := M_X12_runs) d_X12_fireOf_8 lv_X12_340 k_X12_runs [qI (n : Int), qI b, qI 0] rfl rfl rput_o ⟨_, _, rfl⟩ (Nat.le_of_ble_eq_true rfl) (by decide) (by decide) (Nat.le_of_ble_eq_true rfl) (c_runs0 (n := n) b hm (by omega) (fun c hc => by rw [show layG g 25 c = ownT g c from layG_T hc]; exact bkTc_bd hO (by decide) c hc)) ?_
  refine z_istore (ls' := [qR m, qI (n : Int), qI b, qI 0, qI 1, qI (rnT ((layG g) 25) n 0 b)]) d_X12_fireOf_11 (by decide) rfl ?_
  refine z_iload d_X12_fireOf_13 rfl ?_
  refine z_if_ne 23 d_X12_fireOf_15 (by decide) (fun hc1 => ?_) (fun hc1 => absurd (by decide) hc1)
  refine z_iload d_X12_fireOf_23 rfl ?_
  refine z_iconst d_X12_fireOf_25 (by decide) ?_
  refine z_icmp_ne 40 d_X12_fireOf_26 (by decide) (fun hc2 => absurd hc2 (by decide)) (fun hc2 => ?_)
  refine z_aload_n d_X12_fireOf_29 rfl rfl ?_
  refine z_getf (v := qR (m + 28)) d_X12_fireOf_30 fl_X12_95 rput_o rfl ?_
  refine z_iload_n d_X12_fireOf_33 rfl rfl ?_
  refine z_cs (M1 := M_X12_litIn) d_X12_fireOf_34 ls_X12_302 k_X12_litIn [qR (m + 28), qI (n : Int)] rfl rfl (Nat.le_of_ble_eq_true rfl) (by decide) (by decide) (Nat.le_of_ble_eq_true rfl) (c_litIn n (rput_a2 28 (t := 0) (n := 32) (F := ((scr (layG g) n (rnE ((layG g) 25) n 0 b)) 28)) rfl rfl rfl (by decide) (by decide)) (by omega) (by decide)) ?_
  refine z_eq rfl (qc (qi (show (cnt (fun q9 => ((scr (layG g) n (rnE ((layG g) 25) n 0 b)) 28) q9 = 7) n) = (cnt (fun k => (rnE (layG g 25) n 0 b) k = 7) n) from cnt_congr (fun k hk => by rw [show scr (layG g) n _ 28 k = _ from qmx_lt hk]))) rfl) rfl ?_
  refine z_goto 49 d_X12_fireOf_37 (by decide) ?_
  exact z_iret d_X12_fireOf_49 rfl er eh
set_option maxRecDepth 20000 in
set_option maxHeartbeats 4000000 in
theorem c_fireOf02 {h : qH} {m : Nat} {f : Nat → Int} {g : Nat → Nat → Int} {n : Nat} (b : Int) (hm : 2 ≤ m) (hn : 1 ≤ n ∧ n ≤ 32) (hO : bkOk (g 2) (g 5)) : qEx M_X12_fireOf 0 [qR m, qI (n : Int), qI b, qI 0, qI 2, qU] [] (rput h m f g) (some (qI (fst (fun k => ¬ (rnE (layG g 25) n 0 b) k = 7) n))) (rput h m f (scr (layG g) n (rnE (layG g 25) n 0 b))) := by
  refine q_gen (fun r hr er eh => ?_)
  refine z_aload_n d_X12_fireOf_0 rfl rfl ?_
  refine z_cv0 (M1 := M_X12_laysOwn) d_X12_fireOf_1 lv_X12_275 k_X12_laysOwn [] rfl rfl rput_o ⟨_, _, rfl⟩ (Nat.le_of_ble_eq_true rfl) (by decide) (by decide) (Nat.le_of_ble_eq_true rfl) (c_laysOwn hm) ?_
  refine z_aload_n d_X12_fireOf_4 rfl rfl ?_
  refine z_iload_n d_X12_fireOf_5 rfl rfl ?_
  refine z_iload_n d_X12_fireOf_6 rfl rfl ?_
  refine z_iload_n d_X12_fireOf_7 rfl rfl ?_
  refine z_cv (M1 := M_X12_runs) d_X12_fireOf_8 lv_X12_340 k_X12_runs [qI (n : Int), qI b, qI 0] rfl rfl rput_o ⟨_, _, rfl⟩ (Nat.le_of_ble_eq_true rfl) (by decide) (by decide) (Nat.le_of_ble_eq_true rfl) (c_runs0 (n := n) b hm (by omega) (fun c hc => by rw [show layG g 25 c = ownT g c from layG_T hc]; exact bkTc_bd hO (by decide) c hc)) ?_
  refine z_istore (ls' := [qR m, qI (n : Int), qI b, qI 0, qI 2, qI (rnT ((layG g) 25) n 0 b)]) d_X12_fireOf_11 (by decide) rfl ?_
  refine z_iload d_X12_fireOf_13 rfl ?_
  refine z_if_ne 23 d_X12_fireOf_15 (by decide) (fun hc1 => ?_) (fun hc1 => absurd (by decide) hc1)
  refine z_iload d_X12_fireOf_23 rfl ?_
  refine z_iconst d_X12_fireOf_25 (by decide) ?_
  refine z_icmp_ne 40 d_X12_fireOf_26 (by decide) (fun hc2 => ?_) (fun hc2 => absurd (by decide) hc2)
  refine z_aload_n d_X12_fireOf_40 rfl rfl ?_
  refine z_getf (v := qR (m + 28)) d_X12_fireOf_41 fl_X12_95 rput_o rfl ?_
  refine z_iload_n d_X12_fireOf_44 rfl rfl ?_
  refine z_iconst d_X12_fireOf_45 (by decide) ?_
  refine z_cs (M1 := M_X12_firstOf) d_X12_fireOf_46 ls_X12_306 k_X12_firstOf [qR (m + 28), qI (n : Int), qI 0] rfl rfl (Nat.le_of_ble_eq_true rfl) (by decide) (by decide) (Nat.le_of_ble_eq_true rfl) (c_firstDark n (rput_a2 28 (t := 0) (n := 32) (F := ((scr (layG g) n (rnE ((layG g) 25) n 0 b)) 28)) rfl rfl rfl (by decide) (by decide)) (by omega) (by decide)) ?_
  refine z_eq rfl (qc (qi (show (fst (fun q9 => ¬ ((scr (layG g) n (rnE ((layG g) 25) n 0 b)) 28) q9 = 7) n) = (fst (fun k => ¬ (rnE (layG g 25) n 0 b) k = 7) n) from fst_congr (fun k hk => by rw [show scr (layG g) n _ 28 k = _ from qmx_lt hk]))) rfl) rfl ?_
  exact z_iret d_X12_fireOf_49 rfl er eh
set_option maxRecDepth 20000 in
set_option maxHeartbeats 4000000 in
theorem c_fireOf10 {h : qH} {m : Nat} {f : Nat → Int} {g : Nat → Nat → Int} {n : Nat} (b : Int) (hm : 2 ≤ m) (hn : 1 ≤ n ∧ n ≤ 32) (hO : bkOk (g 2) (g 5)) : qEx M_X12_fireOf 0 [qR m, qI (n : Int), qI b, qI 1, qI 0, qU] [] (rput h m f g) (some (qI (rnT (layG g 25) n 1 b))) (rput h m f (scr (layG g) n (rnE (layG g 25) n 1 b))) := by
  refine q_gen (fun r hr er eh => ?_)
  refine z_aload_n d_X12_fireOf_0 rfl rfl ?_
  refine z_cv0 (M1 := M_X12_laysOwn) d_X12_fireOf_1 lv_X12_275 k_X12_laysOwn [] rfl rfl rput_o ⟨_, _, rfl⟩ (Nat.le_of_ble_eq_true rfl) (by decide) (by decide) (Nat.le_of_ble_eq_true rfl) (c_laysOwn hm) ?_
  refine z_aload_n d_X12_fireOf_4 rfl rfl ?_
  refine z_iload_n d_X12_fireOf_5 rfl rfl ?_
  refine z_iload_n d_X12_fireOf_6 rfl rfl ?_
  refine z_iload_n d_X12_fireOf_7 rfl rfl ?_
  refine z_cv (M1 := M_X12_runs) d_X12_fireOf_8 lv_X12_340 k_X12_runs [qI (n : Int), qI b, qI 1] rfl rfl rput_o ⟨_, _, rfl⟩ (Nat.le_of_ble_eq_true rfl) (by decide) (by decide) (Nat.le_of_ble_eq_true rfl) (c_runs1 (n := n) b hm (by omega) (fun c hc => by rw [show layG g 25 c = ownT g c from layG_T hc]; exact bkTc_bd hO (by decide) c hc)) ?_
  refine z_istore (ls' := [qR m, qI (n : Int), qI b, qI 1, qI 0, qI (rnT ((layG g) 25) n 1 b)]) d_X12_fireOf_11 (by decide) rfl ?_
  refine z_iload d_X12_fireOf_13 rfl ?_
  refine z_if_ne 23 d_X12_fireOf_15 (by decide) (fun hc1 => absurd hc1 (by decide)) (fun hc1 => ?_)
  refine z_iload d_X12_fireOf_18 rfl ?_
  refine z_goto 49 d_X12_fireOf_20 (by decide) ?_
  exact z_iret d_X12_fireOf_49 rfl er eh
set_option maxRecDepth 20000 in
set_option maxHeartbeats 4000000 in
theorem c_fireOf11 {h : qH} {m : Nat} {f : Nat → Int} {g : Nat → Nat → Int} {n : Nat} (b : Int) (hm : 2 ≤ m) (hn : 1 ≤ n ∧ n ≤ 32) (hO : bkOk (g 2) (g 5)) : qEx M_X12_fireOf 0 [qR m, qI (n : Int), qI b, qI 1, qI 1, qU] [] (rput h m f g) (some (qI (cnt (fun k => (rnE (layG g 25) n 1 b) k = 7) n))) (rput h m f (scr (layG g) n (rnE (layG g 25) n 1 b))) := by
  refine q_gen (fun r hr er eh => ?_)
  refine z_aload_n d_X12_fireOf_0 rfl rfl ?_
  refine z_cv0 (M1 := M_X12_laysOwn) d_X12_fireOf_1 lv_X12_275 k_X12_laysOwn [] rfl rfl rput_o ⟨_, _, rfl⟩ (Nat.le_of_ble_eq_true rfl) (by decide) (by decide) (Nat.le_of_ble_eq_true rfl) (c_laysOwn hm) ?_
  refine z_aload_n d_X12_fireOf_4 rfl rfl ?_
  refine z_iload_n d_X12_fireOf_5 rfl rfl ?_
  refine z_iload_n d_X12_fireOf_6 rfl rfl ?_
  refine z_iload_n d_X12_fireOf_7 rfl rfl ?_
  refine z_cv (M1 := M_X12_runs) d_X12_fireOf_8 lv_X12_340 k_X12_runs [qI (n : Int), qI b, qI 1] rfl rfl rput_o ⟨_, _, rfl⟩ (Nat.le_of_ble_eq_true rfl) (by decide) (by decide) (Nat.le_of_ble_eq_true rfl) (c_runs1 (n := n) b hm (by omega) (fun c hc => by rw [show layG g 25 c = ownT g c from layG_T hc]; exact bkTc_bd hO (by decide) c hc)) ?_
  refine z_istore (ls' := [qR m, qI (n : Int), qI b, qI 1, qI 1, qI (rnT ((layG g) 25) n 1 b)]) d_X12_fireOf_11 (by decide) rfl ?_
  refine z_iload d_X12_fireOf_13 rfl ?_
  refine z_if_ne 23 d_X12_fireOf_15 (by decide) (fun hc1 => ?_) (fun hc1 => absurd (by decide) hc1)
  refine z_iload d_X12_fireOf_23 rfl ?_
  refine z_iconst d_X12_fireOf_25 (by decide) ?_
  refine z_icmp_ne 40 d_X12_fireOf_26 (by decide) (fun hc2 => absurd hc2 (by decide)) (fun hc2 => ?_)
  refine z_aload_n d_X12_fireOf_29 rfl rfl ?_
  refine z_getf (v := qR (m + 28)) d_X12_fireOf_30 fl_X12_95 rput_o rfl ?_
  refine z_iload_n d_X12_fireOf_33 rfl rfl ?_
  refine z_cs (M1 := M_X12_litIn) d_X12_fireOf_34 ls_X12_302 k_X12_litIn [qR (m + 28), qI (n : Int)] rfl rfl (Nat.le_of_ble_eq_true rfl) (by decide) (by decide) (Nat.le_of_ble_eq_true rfl) (c_litIn n (rput_a2 28 (t := 0) (n := 32) (F := ((scr (layG g) n (rnE ((layG g) 25) n 1 b)) 28)) rfl rfl rfl (by decide) (by decide)) (by omega) (by decide)) ?_
  refine z_eq rfl (qc (qi (show (cnt (fun q9 => ((scr (layG g) n (rnE ((layG g) 25) n 1 b)) 28) q9 = 7) n) = (cnt (fun k => (rnE (layG g 25) n 1 b) k = 7) n) from cnt_congr (fun k hk => by rw [show scr (layG g) n _ 28 k = _ from qmx_lt hk]))) rfl) rfl ?_
  refine z_goto 49 d_X12_fireOf_37 (by decide) ?_
  exact z_iret d_X12_fireOf_49 rfl er eh
set_option maxRecDepth 20000 in
set_option maxHeartbeats 4000000 in
theorem c_fireOf12 {h : qH} {m : Nat} {f : Nat → Int} {g : Nat → Nat → Int} {n : Nat} (b : Int) (hm : 2 ≤ m) (hn : 1 ≤ n ∧ n ≤ 32) (hO : bkOk (g 2) (g 5)) : qEx M_X12_fireOf 0 [qR m, qI (n : Int), qI b, qI 1, qI 2, qU] [] (rput h m f g) (some (qI (fst (fun k => ¬ (rnE (layG g 25) n 1 b) k = 7) n))) (rput h m f (scr (layG g) n (rnE (layG g 25) n 1 b))) := by
  refine q_gen (fun r hr er eh => ?_)
  refine z_aload_n d_X12_fireOf_0 rfl rfl ?_
  refine z_cv0 (M1 := M_X12_laysOwn) d_X12_fireOf_1 lv_X12_275 k_X12_laysOwn [] rfl rfl rput_o ⟨_, _, rfl⟩ (Nat.le_of_ble_eq_true rfl) (by decide) (by decide) (Nat.le_of_ble_eq_true rfl) (c_laysOwn hm) ?_
  refine z_aload_n d_X12_fireOf_4 rfl rfl ?_
  refine z_iload_n d_X12_fireOf_5 rfl rfl ?_
  refine z_iload_n d_X12_fireOf_6 rfl rfl ?_
  refine z_iload_n d_X12_fireOf_7 rfl rfl ?_
  refine z_cv (M1 := M_X12_runs) d_X12_fireOf_8 lv_X12_340 k_X12_runs [qI (n : Int), qI b, qI 1] rfl rfl rput_o ⟨_, _, rfl⟩ (Nat.le_of_ble_eq_true rfl) (by decide) (by decide) (Nat.le_of_ble_eq_true rfl) (c_runs1 (n := n) b hm (by omega) (fun c hc => by rw [show layG g 25 c = ownT g c from layG_T hc]; exact bkTc_bd hO (by decide) c hc)) ?_
  refine z_istore (ls' := [qR m, qI (n : Int), qI b, qI 1, qI 2, qI (rnT ((layG g) 25) n 1 b)]) d_X12_fireOf_11 (by decide) rfl ?_
  refine z_iload d_X12_fireOf_13 rfl ?_
  refine z_if_ne 23 d_X12_fireOf_15 (by decide) (fun hc1 => ?_) (fun hc1 => absurd (by decide) hc1)
  refine z_iload d_X12_fireOf_23 rfl ?_
  refine z_iconst d_X12_fireOf_25 (by decide) ?_
  refine z_icmp_ne 40 d_X12_fireOf_26 (by decide) (fun hc2 => ?_) (fun hc2 => absurd (by decide) hc2)
  refine z_aload_n d_X12_fireOf_40 rfl rfl ?_
  refine z_getf (v := qR (m + 28)) d_X12_fireOf_41 fl_X12_95 rput_o rfl ?_
  refine z_iload_n d_X12_fireOf_44 rfl rfl ?_
  refine z_iconst d_X12_fireOf_45 (by decide) ?_
  refine z_cs (M1 := M_X12_firstOf) d_X12_fireOf_46 ls_X12_306 k_X12_firstOf [qR (m + 28), qI (n : Int), qI 0] rfl rfl (Nat.le_of_ble_eq_true rfl) (by decide) (by decide) (Nat.le_of_ble_eq_true rfl) (c_firstDark n (rput_a2 28 (t := 0) (n := 32) (F := ((scr (layG g) n (rnE ((layG g) 25) n 1 b)) 28)) rfl rfl rfl (by decide) (by decide)) (by omega) (by decide)) ?_
  refine z_eq rfl (qc (qi (show (fst (fun q9 => ¬ ((scr (layG g) n (rnE ((layG g) 25) n 1 b)) 28) q9 = 7) n) = (fst (fun k => ¬ (rnE (layG g 25) n 1 b) k = 7) n) from fst_congr (fun k hk => by rw [show scr (layG g) n _ 28 k = _ from qmx_lt hk]))) rfl) rfl ?_
  exact z_iret d_X12_fireOf_49 rfl er eh
