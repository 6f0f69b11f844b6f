/-! ===== CONTRACTS: the reference: isGood, firstBad, laysOwn, fireOf, fires, ring, works, soon ===== -/
set_option maxRecDepth 20000 in
set_option maxHeartbeats 4000000 in
theorem c_isGood {h : qH} {m : Nat} {f : Nat → Int} {g : Nat → Nat → Int} {n : Nat} (hm : 2 ≤ m) (hn : 1 ≤ n ∧ n ≤ 32) (hT : ∀ c, c < 648 → 0 ≤ g 25 c ∧ g 25 c ≤ 7) : qEx M_X12_isGood 0 [qR m, qI (n : Int)] [] (rput h m f g) (some (qI (qb (goodR (g 25) n)))) (rput h m f (scr g n (rnE (g 25) n 0 0))) := by
  refine q_gen (fun r hr er eh => ?_)
  refine z_aload_n d_X12_isGood_0 rfl rfl ?_
  refine z_iload_n d_X12_isGood_1 rfl rfl ?_
  refine z_iconst d_X12_isGood_2 (by decide) ?_
  refine z_iconst d_X12_isGood_3 (by decide) ?_
  refine z_cv (M1 := M_X12_runs) d_X12_isGood_4 lv_X12_340 k_X12_runs [qI (n : Int), qI 0, qI 0] rfl rfl rput_o ⟨_, _, rfl⟩ (Nat.le_of_ble_eq_true rfl) (by decide) (by decide) (Nat.le_of_ble_eq_true rfl) (c_runs0 (n := n) 0 hm (by omega) hT) ?_
  refine z_iconst d_X12_isGood_7 (by decide) ?_
  refine z_icmp_eq 27 d_X12_isGood_8 (by decide) (fun q1 => ?_) (fun q1 => ?_)
  · refine z_iconst d_X12_isGood_27 (by decide) ?_
    exact z_zret d_X12_isGood_28 rfl (by first | exact qb_01 _ | decide | omega) (qer er (qb_f (fun z => by first | exact z.1 q1 | exact q2 z.2))) eh
  · refine z_aload_n d_X12_isGood_11 rfl rfl ?_
    refine z_getf (v := qR (m + 28)) d_X12_isGood_12 fl_X12_95 rput_o rfl ?_
    refine z_iload_n d_X12_isGood_15 rfl rfl ?_
    refine z_cs (M1 := M_X12_litIn) d_X12_isGood_16 ls_X12_302 k_X12_litIn [qR (m + 28), qI (n : Int)] rfl rfl (Nat.le_of_ble_eq_true rfl) (by decide) (by decide) (Nat.le_of_ble_eq_true rfl) (c_litIn n (rput_a2 28 (t := 0) (n := 32) (F := ((scr g n (rnE (g 25) n 0 0)) 28)) rfl rfl rfl (by decide) (by decide)) (by omega) (by decide)) ?_
    refine z_eq rfl (qc (qi (cnt_congr (fun k hk => by rw [show scr g n (rnE (g 25) n 0 0) 28 k = rnE (g 25) n 0 0 k from qmx_lt hk]))) rfl) rfl ?_
    refine z_iload_n d_X12_isGood_19 rfl rfl ?_
    refine z_icmp_ne 27 d_X12_isGood_20 (by decide) (fun q2 => ?_) (fun q2 => ?_)
    · refine z_iconst d_X12_isGood_27 (by decide) ?_
      exact z_zret d_X12_isGood_28 rfl (by first | exact qb_01 _ | decide | omega) (qer er (qb_f (fun z => by first | exact z.1 q1 | exact q2 z.2))) eh
    · refine z_iconst d_X12_isGood_23 (by decide) ?_
      refine z_goto 28 d_X12_isGood_24 (by decide) ?_
      exact z_zret d_X12_isGood_28 rfl (by first | exact qb_01 _ | decide | omega) (qer er (qb_t ⟨q1, Classical.not_not.mp q2⟩)) eh
set_option maxRecDepth 20000 in
set_option maxHeartbeats 4000000 in
theorem c_firstBad {h : qH} {m : Nat} {f : Nat → Int} {g : Nat → Nat → Int} {to : Nat} (hm : 2 ≤ m) (ht : to ≤ 24) (hT : ∀ c, c < 648 → 0 ≤ g 25 c ∧ g 25 c ≤ 7) : qEx M_X12_firstBad 0 [qR m, qI (to : Int), qU] [] (rput h m f g) (some (qI (fbR (g 25) to))) (rput h m f (scr g (fbN (g 25) to) (rnE (g 25) (fbN (g 25) to) 0 0))) := by
  refine q_gen (fun r hr er eh => ?_)
  refine z_iconst d_X12_firstBad_0 (by decide) ?_
  refine z_istore_n (ls' := [qR m, qI (to : Int), qI 1]) d_X12_firstBad_1 rfl (by decide) rfl ?_
  refine z_eq (qc rfl (qc rfl (qc (qi (rfl)) rfl))) rfl (rput_cg rfl scr_0.symm) (z_for to (fun i => [qR m, qI (to : Int), qI ((i : Int) + 1)]) (fun i => (rput h m f (scr g i (rnE (g 25) i 0 0)))) (fun i => ∀ k, k < i → goodR (g 25) (k + 1)) (fun k hk => absurd hk (by omega)) (fun i hii hp kki => ?_) (fun hp => ?_))
  · show qEx M_X12_firstBad 2 [qR m, qI (to : Int), qI ((i : Int) + 1)] [] (rput h m f (scr g i (rnE (g 25) i 0 0))) r hr
    refine z_iload_n d_X12_firstBad_2 rfl rfl ?_
    refine z_iload_n d_X12_firstBad_3 rfl rfl ?_
    refine z_icmp_gt 23 d_X12_firstBad_4 (by decide) (fun hc1 => absurd hc1 (by omega)) (fun hc1 => ?_)
    refine z_aload_n d_X12_firstBad_7 rfl rfl ?_
    refine z_iload_n d_X12_firstBad_8 rfl rfl ?_
    refine z_cv (M1 := M_X12_isGood) d_X12_firstBad_9 lv_X12_344 k_X12_isGood [qI ((i : Int) + 1)] rfl rfl rput_o ⟨_, _, rfl⟩ (Nat.le_of_ble_eq_true rfl) (by decide) (by decide) (Nat.le_of_ble_eq_true rfl) (c_isGood (n := (i + 1)) hm (by omega) hT) ?_
    refine z_ifneB 17 d_X12_firstBad_12 (by decide) (fun q1 => ?_) (fun q1 => ?_)
    · refine z_iinc (ls' := [qR m, qI (to : Int), qI (((i : Int) + 1) + 1)]) d_X12_firstBad_17 rfl (by decide) (by omega) rfl ?_
      refine z_goto 2 d_X12_firstBad_20 (by decide) ?_
      exact z_eq (qc rfl (qc rfl (qc (qi (by omega)) rfl))) rfl (rput_cg rfl (scr_scr (by omega))) (kki (q_lts hp q1))
    · refine z_iload_n d_X12_firstBad_15 rfl rfl ?_
      exact z_iret d_X12_firstBad_16 rfl (qer er (by unfold fbR; rw [fb_f hii hp q1, qif_f (by omega)])) (eh.trans (rput_cg rfl (by unfold fbN; rw [fb_f hii hp q1, if_neg (by omega), Int.toNat_natCast, scr_scr (by omega)])))
  · show qEx M_X12_firstBad 2 [qR m, qI (to : Int), qI ((to : Int) + 1)] [] (rput h m f (scr g to (rnE (g 25) to 0 0))) r hr
    refine z_iload_n d_X12_firstBad_2 rfl rfl ?_
    refine z_iload_n d_X12_firstBad_3 rfl rfl ?_
    refine z_icmp_gt 23 d_X12_firstBad_4 (by decide) (fun hc2 => ?_) (fun hc2 => absurd hc2 (by omega))
    refine z_iconst d_X12_firstBad_23 (by decide) ?_
    exact z_iret d_X12_firstBad_24 rfl (qer er (by unfold fbR; rw [fb_n hp, qif_t rfl])) (eh.trans (rput_cg rfl (by unfold fbN; rw [fb_n hp, if_pos rfl])))
