/-! ===== CONTRACTS: a wall goes on, is changed, copied, built ===== -/
theorem rcs_cg2 {N N' : Nat → Int} {n k : Nat} (hn : n ≤ 32) (hk : k < n) (h : ∀ j, j < 162 → N j = N' j) : rcs N n k = rcs N' n k := by
  unfold rcs
  rw [h 161 (by omega)]
  exact qcs_cg hk (fun j hj => h _ (by omega)) (fun j hj => by rw [h _ (by omega)]) (fun j hj => h _ (by omega)) (fun j hj => h _ (by omega))
theorem rnx_cg2 {T T' N N' : Nat → Int} {n k : Nat} (hn : n ≤ 32) (hk : k < n) (h : ∀ j, j < 162 → N j = N' j) (hB : ∀ j, j < 64 → 0 ≤ N' j ∧ N' j ≤ 7) (hT : ∀ c, c < 648 → T c = T' c) : rnx T N n k = rnx T' N' n k := by
  have hb := rcs_bd hn hk hB
  unfold rnx rak
  rw [rcs_cg2 hn hk h, h k (by omega), h (64 + k) (by omega), hT _ (by omega)]
theorem rdc_cg2 {D D' N N' : Nat → Int} {n k : Nat} (hn : n ≤ 32) (hk : k < n) (h : ∀ j, j < 162 → N j = N' j) (hB : ∀ j, j < 64 → 0 ≤ N' j ∧ N' j ≤ 7) (hD : ∀ c, c < 648 → D c = D' c) : rdc D N n k ↔ rdc D' N' n k := by
  have hb := rcs_bd hn hk hB
  unfold rdc rak
  rw [rcs_cg2 hn hk h, h k (by omega), h (64 + k) (by omega), hD _ (by omega)]
set_option maxRecDepth 20000 in
set_option maxHeartbeats 4000000 in
theorem c_wlAns {h : qH} {F G : Nat → Nat → Int} {wl b n : Nat} {N : Nat → Int} (k : Nat) (hwb : 2 ≤ wl) (hwk : xk wl = 10) (hb2 : 2 ≤ b) (hb : xk b = 0) (hdb : b + 23 < wl ∨ wl + 4 < b) (hW : wlR F G wl N) (hO : wOk N) (hN : N 160 = (n : Int)) (hk : k < n) : qEx M_X10_answerFor 0 [qR wl, qI (k : Int), qR b, qU, qU] [] (xput h F G) (some (qI (rnx (G (b + 2)) N n k))) (xput h (gup F wl (qup (F wl) 9 (F wl 9 + qb (rdc (G (b + 3)) N n k)))) G) := by
  refine q_gen (fun r hr er eh => ?_)
  have hn32 : n ≤ 32 := by have := wOk_n hO; omega
  have h163 := hO.2
  have hc := rcs_bd (N := N) hn32 hk (fun j hj => wOk_m hO hj)
  have hmk := wOk_m hO (j := k) (by omega)
  have hdd := wOk_d hO (j := 64 + k) (by omega) (by omega)
  have hl9 := saw_bd (late := N (96 + k) = 1) (mi := N) (wa := fun j => N (32 + j)) (snL_bd (ring := (N 161 ≠ 0)) (fun j => N (128 + j)) hk) (fun j hj => wOk_m hO (by omega)) (fun j hj => wOk_m hO (by omega))
  have hr9 := saw_bd (late := N (96 + k) = 1) (mi := N) (wa := fun j => N (32 + j)) (snR_bd (ring := (N 161 ≠ 0)) (fun j => N (128 + j)) hk) (fun j hj => wOk_m hO (by omega)) (fun j hj => wOk_m hO (by omega))
  have h9 : F wl 9 = N 163 := hW.1.2.2.2.1
  refine z_aload_n d_X10_answerFor_0 rfl rfl ?_
  refine z_getf (v := qR (wl + 1)) d_X10_answerFor_1 fl_X10_19 (xput_ob (c := (F wl)) (wlx_in hwb hwk) rfl (xsh_10 hwk)) rfl ?_
  refine z_iload_n d_X10_answerFor_4 rfl rfl ?_
  refine z_ild k d_X10_answerFor_5 (xput_ar (g := (G (wl + 1))) (wlx_1 hwb hwk) rfl) rfl (by omega) ?_
  refine z_eq rfl (qc (qi ((hW.2.1 k (by omega)).1)) rfl) rfl ?_
  refine z_istore_n (ls' := [qR wl, qI (k : Int), qR b, qI (N k), qU]) d_X10_answerFor_6 rfl (by decide) rfl ?_
  refine z_iload_n d_X10_answerFor_7 rfl rfl ?_
  refine z_bipush d_X10_answerFor_8 (by decide) ?_
  refine z_icmp_eq 21 d_X10_answerFor_10 (by decide) (fun q1 => ?_) (fun q1 => ?_)
  · refine z_iload_n d_X10_answerFor_21 rfl rfl ?_
    exact z_iret d_X10_answerFor_22 rfl (qer er (qif_f (fun z => z.2 q1))) (eh.trans (xput_cg (gup_self (qup_self (show F wl 9 = F wl 9 + qb (rdc (G (b + 3)) N n k) by rw [qb_f (fun z => z.1.2 q1), Int.add_zero])).symm) rfl))
  · refine z_aload_n d_X10_answerFor_13 rfl rfl ?_
    refine z_iload_n d_X10_answerFor_14 rfl rfl ?_
    refine z_cv (M1 := M_X10_isDeaf) d_X10_answerFor_15 lv_X10_85 k_X10_isDeaf [qI (k : Int)] rfl rfl (xput_ob (c := (F wl)) (wlx_in hwb hwk) rfl (xsh_10 hwk)) ⟨_, _, rfl⟩ (Nat.le_of_ble_eq_true rfl) (by decide) (by decide) (Nat.le_of_ble_eq_true rfl) (c_wlDeaf k hwb hwk hW hO hN (by omega)) ?_
    refine z_ifeqB 23 d_X10_answerFor_18 (by decide) (fun q2 => ?_) (fun q2 => ?_)
    · have hak : rak N k := ⟨by omega, q1⟩
      refine z_iload_n d_X10_answerFor_23 rfl rfl ?_
      refine z_aload_n d_X10_answerFor_24 rfl rfl ?_
      refine z_iload_n d_X10_answerFor_25 rfl rfl ?_
      refine z_cv (M1 := M_X10_mindSeenLeft) d_X10_answerFor_26 lv_X10_88 k_X10_mindSeenLeft [qI (k : Int)] rfl rfl (xput_ob (c := (F wl)) (wlx_in hwb hwk) rfl (xsh_10 hwk)) ⟨_, _, rfl⟩ (Nat.le_of_ble_eq_true rfl) (by decide) (by decide) (Nat.le_of_ble_eq_true rfl) (c_wlSeeL k hwb hwk hW hO hN hk) ?_
      refine z_aload_n d_X10_answerFor_29 rfl rfl ?_
      refine z_iload_n d_X10_answerFor_30 rfl rfl ?_
      refine z_cv (M1 := M_X10_mindSeenRight) d_X10_answerFor_31 lv_X10_91 k_X10_mindSeenRight [qI (k : Int)] rfl rfl (xput_ob (c := (F wl)) (wlx_in hwb hwk) rfl (xsh_10 hwk)) ⟨_, _, rfl⟩ (Nat.le_of_ble_eq_true rfl) (by decide) (by decide) (Nat.le_of_ble_eq_true rfl) (c_wlSeeR k hwb hwk hW hO hN hk) ?_
      refine z_cs (M1 := M_X11_caseOf) d_X10_answerFor_34 ls_X10_94 k_X11_caseOf [qI (N k), qI (saw (snL n (N 161 ≠ 0) (fun j => N (128 + j)) k) (N (96 + k) = 1) N (fun j => N (32 + j))), qI (saw (snR n (N 161 ≠ 0) (fun j => N (128 + j)) k) (N (96 + k) = 1) N (fun j => N (32 + j)))] rfl rfl (Nat.le_of_ble_eq_true rfl) (by decide) (by decide) (Nat.le_of_ble_eq_true rfl) (z_end (c_caseOf (N k) (saw (snL n (N 161 ≠ 0) (fun j => N (128 + j)) k) (N (96 + k) = 1) N (fun j => N (32 + j))) (saw (snR n (N 161 ≠ 0) (fun j => N (128 + j)) k) (N (96 + k) = 1) N (fun j => N (32 + j))) (by omega) (by omega) (by omega)) (show _ = some (qI (rcs N n k)) from rfl) rfl) ?_
      refine z_istore (ls' := [qR wl, qI (k : Int), qR b, qI (N k), qI (rcs N n k)]) d_X10_answerFor_37 (by decide) rfl ?_
      refine z_aload_n d_X10_answerFor_39 rfl rfl ?_
      refine z_getf (v := qR (b + 3)) d_X10_answerFor_40 fl_X10_98 (xput_ob (c := (F b)) (bkx_in hb2 hb) rfl (xsh_0 hb)) rfl ?_
      refine z_iload d_X10_answerFor_43 rfl ?_
      refine z_ild ((rcs N n k).toNat) d_X10_answerFor_45 (xput_ar (g := (G (b + 3))) (bkx_3 hb2 hb) rfl) (by omega) (by omega) ?_
      refine z_iconst d_X10_answerFor_46 (by decide) ?_
      refine z_icmp_eq 60 d_X10_answerFor_47 (by decide) (fun q3 => ?_) (fun q3 => ?_)
      · refine z_aload_n d_X10_answerFor_60 rfl rfl ?_
        refine z_getf (v := qR (b + 2)) d_X10_answerFor_61 fl_X10_103 (xput_ob (c := (F b)) (bkx_in hb2 hb) rfl (xsh_0 hb)) rfl ?_
        refine z_iload d_X10_answerFor_64 rfl ?_
        refine z_ild ((rcs N n k).toNat) d_X10_answerFor_66 (xput_ar (g := (G (b + 2))) (bkx_2 hb2 hb) rfl) (by omega) (by omega) ?_
        exact z_iret d_X10_answerFor_67 rfl (qer er (qif_t hak)) (eh.trans (xput_cg (gup_self (qup_self (show F wl 9 = F wl 9 + qb (rdc (G (b + 3)) N n k) by rw [qb_f (fun z => z.2 q3), Int.add_zero])).symm) rfl))
      · refine z_aload_n d_X10_answerFor_50 rfl rfl ?_
        refine z_dup d_X10_answerFor_51 rfl ?_
        refine z_getf (v := qI ((F wl) 9)) d_X10_answerFor_52 fl_X10_41 (xput_ob (c := (F wl)) (wlx_in hwb hwk) rfl (xsh_10 hwk)) rfl ?_
        refine z_iconst d_X10_answerFor_55 (by decide) ?_
        refine z_iadd d_X10_answerFor_56 (by omega) ?_
        refine z_putf (fs' := [qI ((F wl) 0), qI ((F wl) 1), qR (wl + 1), qR (wl + 2), qR (wl + 3), qR (wl + 4), qI ((F wl) 6), qI ((F wl) 7), qI ((F wl) 8), qI (((F wl) 9) + 1), qI ((F wl) 10), qI ((F wl) 11)]) d_X10_answerFor_57 fp_X10_41 (xput_ob (c := (F wl)) (wlx_in hwb hwk) rfl (xsh_10 hwk)) (fun _ => rfl) (fun _ => rfl) (Nat.le_of_ble_eq_true rfl) rfl ?_
        refine z_eq rfl rfl (xput_sf (c := (qup (F wl) 9 (((F wl) 9) + 1))) (wlx_in hwb hwk) (xsh_10 hwk)) ?_
        refine z_aload_n d_X10_answerFor_60 rfl rfl ?_
        refine z_getf (v := qR (b + 2)) d_X10_answerFor_61 fl_X10_103 (xput_ob (c := (F b)) (bkx_in hb2 hb) (gup_ne (by omega)) (xsh_0 hb)) rfl ?_
        refine z_iload d_X10_answerFor_64 rfl ?_
        refine z_ild ((rcs N n k).toNat) d_X10_answerFor_66 (xput_ar (g := (G (b + 2))) (bkx_2 hb2 hb) rfl) (by omega) (by omega) ?_
        exact z_iret d_X10_answerFor_67 rfl (qer er (qif_t hak)) (eh.trans (xput_cg (by rw [qb_t (show rdc (G (b + 3)) N n k from ⟨hak, q3⟩)]) rfl))
    · refine z_iload_n d_X10_answerFor_21 rfl rfl ?_
      exact z_iret d_X10_answerFor_22 rfl (qer er (qif_f (fun z => absurd z.1 (by rw [q2]; decide)))) (eh.trans (xput_cg (gup_self (qup_self (show F wl 9 = F wl 9 + qb (rdc (G (b + 3)) N n k) by rw [qb_f (fun z => absurd z.1.1 (by rw [q2]; decide)), Int.add_zero])).symm) rfl))
theorem wOk_I {N : Nat → Int} {i : Nat} {p : Nat → Prop} (hO : wOk N) (h : N 163 + 32 ≤ 1000000) (hi : i ≤ 32) : wOk (qup N 163 (N 163 + cnt p i)) := by
  have := cnt_bd p i
  have h2 := hO.2
  refine ⟨fun j hj => by rw [qup_ne (by omega)]; exact hO.1 j hj, ?_⟩
  rw [qup_eq]
  omega
theorem wlI {F G : Nat → Nat → Int} {wl : Nat} {N c : Nat → Int} {v : Int} (hW : wlR F G wl N) : wlR (gup F wl (qup (F wl) 9 v)) (gup G (wl + 4) c) wl (qup N 163 v) := by
  obtain ⟨⟨a, b, d, e, f, g⟩, h2, h3⟩ := hW
  unfold wlR
  rw [gup_eq, gup_ne (show wl + 1 ≠ wl + 4 by omega), gup_ne (show wl + 2 ≠ wl + 4 by omega), gup_ne (show wl + 3 ≠ wl + 4 by omega)]
  refine ⟨⟨a, b, d, rfl, f, g⟩, fun k hk => ?_, fun k hk => ?_⟩
  · rw [qup_ne (show k ≠ 163 by omega), qup_ne (show 32 + k ≠ 163 by omega), qup_ne (show 128 + k ≠ 163 by omega)]; exact h2 k hk
  · rw [qup_ne (show 64 + k ≠ 163 by omega), qup_ne (show 96 + k ≠ 163 by omega)]; exact h3 k hk
set_option maxRecDepth 20000 in
set_option maxHeartbeats 4000000 in
theorem c_wlGo0 {h : qH} {F G : Nat → Nat → Int} {wl b n : Nat} {N : Nat → Int} (hwb : 2 ≤ wl) (hwk : xk wl = 10) (hb2 : 2 ≤ b) (hb : xk b = 0) (hdb : b + 23 < wl ∨ wl + 4 < b) (hW : wlR F G wl N) (hO : wOk N) (hN : N 160 = (n : Int)) (hA : N 163 + 32 ≤ 1000000) : qEx M_X10_goOn 0 [qR wl, qR b, qU] [] (xput h F G) none (xput h (gup F wl (qup (F wl) 9 (N 163 + cnt (rdc (G (b + 3)) N n) n))) (gup (gup (gup G (wl + 4) (qmx n (rnx (G (b + 2)) N n) (G (wl + 4)))) (wl + 2) (qcpy (G (wl + 1)) (G (wl + 2)) (Int.toNat 0) (Int.toNat 0) (Int.toNat (n : Int)))) (wl + 1) (qcpy (qmx n (rnx (G (b + 2)) N n) (G (wl + 4))) (G (wl + 1)) (Int.toNat 0) (Int.toNat 0) (Int.toNat (n : Int))))) := by
  refine q_gen (fun r hr er eh => ?_)
  have hn32 : n ≤ 32 := by have := wOk_n hO; omega
  have h163 := hO.2
  refine z_iconst d_X10_goOn_0 (by decide) ?_
  refine z_istore_n (ls' := [qR wl, qR b, qI 0]) d_X10_goOn_1 rfl (by decide) rfl ?_
  refine z_eq (qc rfl (qc rfl (qc (qi (rfl)) rfl))) rfl (xput_cg (gup_self (qup_self (show F wl 9 = N 163 + (0 : Int) by rw [hW.1.2.2.2.1, Int.add_zero])).symm).symm (by rw [qmx_0, gup_self rfl])) (z_for n (fun i => [qR wl, qR b, qI (i : Int)]) (fun i => (xput h (gup F wl (qup (F wl) 9 (N 163 + cnt (rdc (G (b + 3)) N n) i))) (gup G (wl + 4) (qmx i (rnx (G (b + 2)) N n) (G (wl + 4)))))) (fun i => True) trivial (fun i hii hp kki => ?_) (fun hp => ?_))
  · show qEx M_X10_goOn 2 [qR wl, qR b, qI (i : Int)] [] (xput h (gup F wl (qup (F wl) 9 (N 163 + cnt (rdc (G (b + 3)) N n) i))) (gup G (wl + 4) (qmx i (rnx (G (b + 2)) N n) (G (wl + 4))))) r hr
    have hcn := cnt_bd (rdc (G (b + 3)) N n) i
    refine z_iload_n d_X10_goOn_2 rfl rfl ?_
    refine z_aload_n d_X10_goOn_3 rfl rfl ?_
    refine z_getf (v := qI ((qup (F wl) 9 (N 163 + cnt (rdc (G (b + 3)) N n) i)) 0)) d_X10_goOn_4 fl_X10_9 (xput_ob (c := (qup (F wl) 9 (N 163 + cnt (rdc (G (b + 3)) N n) i))) (wlx_in hwb hwk) (gup_eq _ _) (xsh_10 hwk)) rfl ?_
    refine z_eq rfl (qc (qi (hW.1.1.trans hN)) rfl) rfl ?_
    refine z_icmp_ge 28 d_X10_goOn_7 (by decide) (fun hc1 => absurd hc1 (by omega)) (fun hc1 => ?_)
    refine z_aload_n d_X10_goOn_10 rfl rfl ?_
    refine z_getf (v := qR (wl + 4)) d_X10_goOn_11 fl_X10_29 (xput_ob (c := (qup (F wl) 9 (N 163 + cnt (rdc (G (b + 3)) N n) i))) (wlx_in hwb hwk) (gup_eq _ _) (xsh_10 hwk)) rfl ?_
    refine z_iload_n d_X10_goOn_14 rfl rfl ?_
    refine z_aload_n d_X10_goOn_15 rfl rfl ?_
    refine z_iload_n d_X10_goOn_16 rfl rfl ?_
    refine z_aload_n d_X10_goOn_17 rfl rfl ?_
    refine z_cv (M1 := M_X10_answerFor) d_X10_goOn_18 lv_X10_81 k_X10_answerFor [qI (i : Int), qR b] rfl rfl (xput_ob (c := (qup (F wl) 9 (N 163 + cnt (rdc (G (b + 3)) N n) i))) (wlx_in hwb hwk) (gup_eq _ _) (xsh_10 hwk)) ⟨_, _, rfl⟩ (Nat.le_of_ble_eq_true rfl) (by decide) (by decide) (Nat.le_of_ble_eq_true rfl) (z_end (c_wlAns (h := h) (F := (gup F wl (qup (F wl) 9 (N 163 + cnt (rdc (G (b + 3)) N n) i)))) (G := (gup G (wl + 4) (qmx i (rnx (G (b + 2)) N n) (G (wl + 4))))) (N := (qup N 163 (N 163 + cnt (rdc (G (b + 3)) N n) i))) i hwb hwk hb2 hb hdb (wlI hW) (wOk_I hO hA (by omega)) hN hii) (show _ = some (qI (rnx (G (b + 2)) N n i)) from congrArg (fun z => some (qI z)) (rnx_cg2 hn32 hii (fun j hj => qup_ne (by omega)) (fun j hj => wOk_m hO hj) (fun c _ => by rw [gup_ne (by omega)]))) (show _ = xput h (gup (gup F wl (qup (F wl) 9 (N 163 + cnt (rdc (G (b + 3)) N n) i))) wl (qup (qup (F wl) 9 (N 163 + cnt (rdc (G (b + 3)) N n) i)) 9 ((N 163 + cnt (rdc (G (b + 3)) N n) i) + qb (rdc (G (b + 3)) N n i)))) (gup G (wl + 4) (qmx i (rnx (G (b + 2)) N n) (G (wl + 4)))) from xput_cg (gup_cg rfl (by rw [gup_eq, qup_eq, qb_congr (rdc_cg2 (N' := N) (D' := (G (b + 3))) hn32 hii (fun j hj => qup_ne (by omega)) (fun j hj => wOk_m hO hj) (fun c _ => by rw [gup_ne (by omega)]))])) rfl)) ?_
    refine z_eq rfl rfl (xput_cg (gup_gup _ _ _) rfl) ?_
    refine z_ist i d_X10_goOn_21 (xput_ar (g := (qmx i (rnx (G (b + 2)) N n) (G (wl + 4)))) (wlx_4 hwb hwk) (gup_eq _ _)) (by omega) rfl (by omega) ?_
    refine z_eq rfl rfl ((xput_sa (wlx_4 hwb hwk)).trans (xput_cg rfl (gup_gup _ _ _))) ?_
    refine z_iinc (ls' := [qR wl, qR b, qI ((i : Int) + 1)]) d_X10_goOn_22 rfl (by decide) (by omega) rfl ?_
    refine z_goto 2 d_X10_goOn_25 (by decide) ?_
    exact z_eq (qc rfl (qc rfl (qc (qi (by omega)) rfl))) rfl (xput_cg (gup_cg rfl (by rw [qup_qup, Int.add_assoc]; rfl)) (gup_cg rfl (qmx_s _ _ _))) (kki trivial)
  · show qEx M_X10_goOn 2 [qR wl, qR b, qI (n : Int)] [] (xput h (gup F wl (qup (F wl) 9 (N 163 + cnt (rdc (G (b + 3)) N n) n))) (gup G (wl + 4) (qmx n (rnx (G (b + 2)) N n) (G (wl + 4))))) r hr
    refine z_iload_n d_X10_goOn_2 rfl rfl ?_
    refine z_aload_n d_X10_goOn_3 rfl rfl ?_
    refine z_getf (v := qI ((qup (F wl) 9 (N 163 + cnt (rdc (G (b + 3)) N n) n)) 0)) d_X10_goOn_4 fl_X10_9 (xput_ob (c := (qup (F wl) 9 (N 163 + cnt (rdc (G (b + 3)) N n) n))) (wlx_in hwb hwk) (gup_eq _ _) (xsh_10 hwk)) rfl ?_
    refine z_eq rfl (qc (qi (hW.1.1.trans hN)) rfl) rfl ?_
    refine z_icmp_ge 28 d_X10_goOn_7 (by decide) (fun hc2 => ?_) (fun hc2 => absurd hc2 (by omega))
    refine z_aload_n d_X10_goOn_28 rfl rfl ?_
    refine z_getf (v := qR (wl + 1)) d_X10_goOn_29 fl_X10_19 (xput_ob (c := (qup (F wl) 9 (N 163 + cnt (rdc (G (b + 3)) N n) n))) (wlx_in hwb hwk) (gup_eq _ _) (xsh_10 hwk)) rfl ?_
    refine z_iconst d_X10_goOn_32 (by decide) ?_
    refine z_aload_n d_X10_goOn_33 rfl rfl ?_
    refine z_getf (v := qR (wl + 2)) d_X10_goOn_34 fl_X10_23 (xput_ob (c := (qup (F wl) 9 (N 163 + cnt (rdc (G (b + 3)) N n) n))) (wlx_in hwb hwk) (gup_eq _ _) (xsh_10 hwk)) rfl ?_
    refine z_iconst d_X10_goOn_37 (by decide) ?_
    refine z_aload_n d_X10_goOn_38 rfl rfl ?_
    refine z_getf (v := qI ((qup (F wl) 9 (N 163 + cnt (rdc (G (b + 3)) N n) n)) 0)) d_X10_goOn_39 fl_X10_9 (xput_ob (c := (qup (F wl) 9 (N 163 + cnt (rdc (G (b + 3)) N n) n))) (wlx_in hwb hwk) (gup_eq _ _) (xsh_10 hwk)) rfl ?_
    refine z_eq rfl (qc (qi (hW.1.1.trans hN)) rfl) rfl ?_
    refine z_copy d_X10_goOn_42 lc_X10_56 (by decide) (Nat.le_of_ble_eq_true rfl) (xput_ar (g := (G (wl + 1))) (wlx_1 hwb hwk) (gup_ne (by omega))) (xput_ar (g := (G (wl + 2))) (wlx_2 hwb hwk) (gup_ne (by omega))) (by omega) (by omega) (by omega) (by omega) (by omega) (by omega) (by omega) ?_
    refine z_eq rfl rfl (xput_sa (wlx_2 hwb hwk)) ?_
    refine z_aload_n d_X10_goOn_45 rfl rfl ?_
    refine z_getf (v := qR (wl + 4)) d_X10_goOn_46 fl_X10_29 (xput_ob (c := (qup (F wl) 9 (N 163 + cnt (rdc (G (b + 3)) N n) n))) (wlx_in hwb hwk) (gup_eq _ _) (xsh_10 hwk)) rfl ?_
    refine z_iconst d_X10_goOn_49 (by decide) ?_
    refine z_aload_n d_X10_goOn_50 rfl rfl ?_
    refine z_getf (v := qR (wl + 1)) d_X10_goOn_51 fl_X10_19 (xput_ob (c := (qup (F wl) 9 (N 163 + cnt (rdc (G (b + 3)) N n) n))) (wlx_in hwb hwk) (gup_eq _ _) (xsh_10 hwk)) rfl ?_
    refine z_iconst d_X10_goOn_54 (by decide) ?_
    refine z_aload_n d_X10_goOn_55 rfl rfl ?_
    refine z_getf (v := qI ((qup (F wl) 9 (N 163 + cnt (rdc (G (b + 3)) N n) n)) 0)) d_X10_goOn_56 fl_X10_9 (xput_ob (c := (qup (F wl) 9 (N 163 + cnt (rdc (G (b + 3)) N n) n))) (wlx_in hwb hwk) (gup_eq _ _) (xsh_10 hwk)) rfl ?_
    refine z_eq rfl (qc (qi (hW.1.1.trans hN)) rfl) rfl ?_
    refine z_copy d_X10_goOn_59 lc_X10_56 (by decide) (Nat.le_of_ble_eq_true rfl) (xput_ar (g := (qmx n (rnx (G (b + 2)) N n) (G (wl + 4)))) (wlx_4 hwb hwk) ((gup_ne (by omega)).trans (gup_eq _ _))) (xput_ar (g := (G (wl + 1))) (wlx_1 hwb hwk) ((gup_ne (by omega)).trans (gup_ne (by omega)))) (by omega) (by omega) (by omega) (by omega) (by omega) (by omega) (by omega) ?_
    refine z_eq rfl rfl (xput_sa (wlx_1 hwb hwk)) ?_
    exact z_vret d_X10_goOn_62 rfl er eh
