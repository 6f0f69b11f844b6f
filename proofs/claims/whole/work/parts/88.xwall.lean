/-! ===== CONTRACTS: a wall ===== -/
/-- the wall at wl is as the row N says -/
def wlR (F G : Nat → Nat → Int) (wl : Nat) (N : Nat → Int) : Prop := (F wl 0 = N 160 ∧ F wl 1 = N 161 ∧ F wl 8 = N 162 ∧ F wl 9 = N 163 ∧ F wl 10 = N 164 ∧ F wl 11 = N 165) ∧ (∀ k, k < 32 → G (wl + 1) k = N k ∧ G (wl + 2) k = N (32 + k) ∧ G (wl + 3) k = N (128 + k)) ∧ ∀ k, k < 32 → (tb (F wl 6) k = true ↔ N (64 + k) = 1) ∧ (tb (F wl 7) k = true ↔ N (96 + k) = 1)
theorem wlR_cg {F G F' G' : Nat → Nat → Int} {wl : Nat} {N : Nat → Int} (h : wlR F G wl N) (e0 : F' wl = F wl) (e1 : G' (wl + 1) = G (wl + 1)) (e2 : G' (wl + 2) = G (wl + 2)) (e3 : G' (wl + 3) = G (wl + 3)) : wlR F' G' wl N := by
  unfold wlR
  rw [e0, e1, e2, e3]
  exact h
theorem wlR_N {F G : Nat → Nat → Int} {wl : Nat} {N N' : Nat → Int} (h : wlR F G wl N) (e : ∀ j, j < 166 → N j = N' j) : wlR F G wl N' := by
  obtain ⟨⟨a, b, c, d, f, g⟩, h2, h3⟩ := h
  refine ⟨⟨?_, ?_, ?_, ?_, ?_, ?_⟩, fun k hk => ?_, fun k hk => ?_⟩
  · rw [a, e _ (by decide)]
  · rw [b, e _ (by decide)]
  · rw [c, e _ (by decide)]
  · rw [d, e _ (by decide)]
  · rw [f, e _ (by decide)]
  · rw [g, e _ (by decide)]
  · rw [← e k (by omega), ← e (32 + k) (by omega), ← e (128 + k) (by omega)]; exact h2 k hk
  · rw [← e (64 + k) (by omega), ← e (96 + k) (by omega)]; exact h3 k hk
/-- the row's numbers are in bounds; how often was asked may be more than on a wall of the reference -/
def wOk (N : Nat → Int) : Prop := (∀ j, j < 163 → rwLo j ≤ N j ∧ N j ≤ rwHi j) ∧ 0 ≤ N 163 ∧ N 163 ≤ 1000000
theorem wOk_of {N : Nat → Int} (h : rwOk N) : wOk N := ⟨fun j hj => h.1 j (by omega), by have := rw_at (a := 0) (b := 319968) h (j := 163) (by decide) rfl rfl; omega⟩
theorem wOk_n {N : Nat → Int} (h : wOk N) : 0 ≤ N 160 ∧ N 160 ≤ 32 := h.1 160 (by decide)
theorem wOk_m {N : Nat → Int} (h : wOk N) {j : Nat} (hj : j < 64) : 0 ≤ N j ∧ N j ≤ 7 := by
  have := h.1 j (by omega)
  rwa [rw_lo (by omega), rw_h7 hj] at this
theorem wOk_d {N : Nat → Int} (h : wOk N) {j : Nat} (h1 : 64 ≤ j) (h2 : j < 128) : 0 ≤ N j ∧ N j ≤ 1 := by
  have := h.1 j (by omega)
  rwa [rw_lo (by omega), rw_h1 h1 h2] at this
theorem ubit {x : Int} {k : Nat} (hk : k < 32) : qAnd (qUshr x (k : Int)) 1 = 0 ↔ ¬ tb x k = true := by
  rw [q_hasUB x hk]
  have := qb_01 (tb x k = true)
  constructor
  · intro h z; rw [qb_t z] at h; exact absurd h (by decide)
  · intro h; exact qb_f h
theorem and2 {x : Int} : qAnd x 2 = 0 ↔ ¬ tb x 1 = true := by
  constructor
  · intro h z
    have := tb_and x 2 1
    rw [h, tb_0, z] at this
    exact absurd this (by decide)
  · intro h
    refine tb_ext (qAnd_R _ _) (by unfold R32; omega) (fun k hk => ?_)
    rw [tb_and, tb_0]
    by_cases e : k = 1
    · subst e; rw [Bool.not_eq_true] at h; rw [h]; rfl
    · have : tb 2 k = false := by
        rw [show (2 : Int) = qShl 1 ((1 : Nat) : Int) by decide, tb_bit (by decide)]
        simp [e]
      rw [this, Bool.and_false]
theorem and1 {x : Int} : qAnd x 1 = 0 ↔ ¬ tb x 0 = true := by
  rw [qAnd1]
  cases tb x 0 <;> simp
set_option maxRecDepth 20000 in
set_option maxHeartbeats 4000000 in
theorem c_wlHas {h : qH} {F G : Nat → Nat → Int} {wl n : Nat} {N : Nat → Int} (k : Int) (hwb : 2 ≤ wl) (hwk : xk wl = 10) (hW : wlR F G wl N) (hO : wOk N) (hN : N 160 = (n : Int)) : qEx M_X10_has 0 [qR wl, qI k] [] (xput h F G) (some (qI (qb (0 ≤ k ∧ k < (n : Int))))) (xput h F G) := by
  refine q_gen (fun r hr er eh => ?_)
  have hn32 : n ≤ 32 := by have := wOk_n hO; omega
  refine z_iload_n d_X10_has_0 rfl rfl ?_
  refine z_iconst d_X10_has_1 (by decide) ?_
  refine z_aload_n d_X10_has_2 rfl rfl ?_
  refine z_getf (v := qI ((F wl) 0)) d_X10_has_3 fl_X10_9 (xput_ob (c := (F wl)) (wlx_in hwb hwk) rfl (xsh_10 hwk)) rfl ?_
  refine z_eq rfl (qc (qi (hW.1.1.trans hN)) rfl) rfl ?_
  refine z_iconst d_X10_has_6 (by decide) ?_
  refine z_isub d_X10_has_7 (by omega) ?_
  refine z_cs (M1 := M_X11_isWithin) d_X10_has_8 ls_X10_62 k_X11_isWithin [qI k, qI 0, qI ((n : Int) - 1)] rfl rfl (Nat.le_of_ble_eq_true rfl) (by decide) (by decide) (Nat.le_of_ble_eq_true rfl) (c_isWithin k 0 ((n : Int) - 1)) ?_
  exact z_zret d_X10_has_11 rfl (by first | exact qb_01 _ | decide | omega) (qer er (qb_congr (by omega))) eh
set_option maxRecDepth 20000 in
set_option maxHeartbeats 4000000 in
theorem c_wlDeaf {h : qH} {F G : Nat → Nat → Int} {wl n : Nat} {N : Nat → Int} (k : Nat) (hwb : 2 ≤ wl) (hwk : xk wl = 10) (hW : wlR F G wl N) (hO : wOk N) (hN : N 160 = (n : Int)) (hk : k < 32) : qEx M_X10_isDeaf 0 [qR wl, qI (k : Int)] [] (xput h F G) (some (qI (qb (N (64 + k) = 1)))) (xput h F G) := by
  refine q_gen (fun r hr er eh => ?_)
  have hn32 : n ≤ 32 := by have := wOk_n hO; omega
  refine z_aload_n d_X10_isDeaf_0 rfl rfl ?_
  refine z_getf (v := qI ((F wl) 6)) d_X10_isDeaf_1 fl_X10_32 (xput_ob (c := (F wl)) (wlx_in hwb hwk) rfl (xsh_10 hwk)) rfl ?_
  refine z_iload_n d_X10_isDeaf_4 rfl rfl ?_
  refine z_iushr d_X10_isDeaf_5 ?_
  refine z_iconst d_X10_isDeaf_6 (by decide) ?_
  refine z_iand d_X10_isDeaf_7 ?_
  refine z_if_eq 15 d_X10_isDeaf_8 (by decide) (fun q1 => ?_) (fun q1 => ?_)
  · refine z_iconst d_X10_isDeaf_15 (by decide) ?_
    exact z_zret d_X10_isDeaf_16 rfl (by first | exact qb_01 _ | decide | omega) (qer er (qb_f (fun z => (ubit hk).mp q1 ((hW.2.2 k hk).1.mpr z)))) eh
  · refine z_iconst d_X10_isDeaf_11 (by decide) ?_
    refine z_goto 16 d_X10_isDeaf_12 (by decide) ?_
    exact z_zret d_X10_isDeaf_16 rfl (by first | exact qb_01 _ | decide | omega) (qer er (qb_t ((hW.2.2 k hk).1.mp (Classical.not_not.mp (fun z => q1 ((ubit hk).mpr z)))))) eh
set_option maxRecDepth 20000 in
set_option maxHeartbeats 4000000 in
theorem c_wlLate {h : qH} {F G : Nat → Nat → Int} {wl n : Nat} {N : Nat → Int} (k : Nat) (hwb : 2 ≤ wl) (hwk : xk wl = 10) (hW : wlR F G wl N) (hO : wOk N) (hN : N 160 = (n : Int)) (hk : k < 32) : qEx M_X10_isLate 0 [qR wl, qI (k : Int)] [] (xput h F G) (some (qI (qb (N (96 + k) = 1)))) (xput h F G) := by
  refine q_gen (fun r hr er eh => ?_)
  have hn32 : n ≤ 32 := by have := wOk_n hO; omega
  refine z_aload_n d_X10_isLate_0 rfl rfl ?_
  refine z_getf (v := qI ((F wl) 7)) d_X10_isLate_1 fl_X10_35 (xput_ob (c := (F wl)) (wlx_in hwb hwk) rfl (xsh_10 hwk)) rfl ?_
  refine z_iload_n d_X10_isLate_4 rfl rfl ?_
  refine z_iushr d_X10_isLate_5 ?_
  refine z_iconst d_X10_isLate_6 (by decide) ?_
  refine z_iand d_X10_isLate_7 ?_
  refine z_if_eq 15 d_X10_isLate_8 (by decide) (fun q1 => ?_) (fun q1 => ?_)
  · refine z_iconst d_X10_isLate_15 (by decide) ?_
    exact z_zret d_X10_isLate_16 rfl (by first | exact qb_01 _ | decide | omega) (qer er (qb_f (fun z => (ubit hk).mp q1 ((hW.2.2 k hk).2.mpr z)))) eh
  · refine z_iconst d_X10_isLate_11 (by decide) ?_
    refine z_goto 16 d_X10_isLate_12 (by decide) ?_
    exact z_zret d_X10_isLate_16 rfl (by first | exact qb_01 _ | decide | omega) (qer er (qb_t ((hW.2.2 k hk).2.mp (Classical.not_not.mp (fun z => q1 ((ubit hk).mpr z)))))) eh
theorem nbL_bd2 {n k : Nat} {ring : Prop} (hk : k < n) : -1 ≤ nbL n ring k ∧ nbL n ring k < n := by
  unfold nbL
  exact qif_or (fun z => -1 ≤ z ∧ z < (n : Int)) (by omega) (qif_or (fun z => -1 ≤ z ∧ z < (n : Int)) (by omega) (by omega))
set_option maxRecDepth 20000 in
set_option maxHeartbeats 4000000 in
theorem c_wlSeenL {h : qH} {F G : Nat → Nat → Int} {wl n : Nat} {N : Nat → Int} (k : Nat) (hwb : 2 ≤ wl) (hwk : xk wl = 10) (hW : wlR F G wl N) (hO : wOk N) (hN : N 160 = (n : Int)) (hk : k < n) : qEx M_X10_keeperSeenLeft 0 [qR wl, qI (k : Int), qU] [] (xput h F G) (some (qI (snL n (N 161 ≠ 0) (fun j => N (128 + j)) k))) (xput h F G) := by
  refine q_gen (fun r hr er eh => ?_)
  have hn32 : n ≤ 32 := by have := wOk_n hO; omega
  refine z_iload_n d_X10_keeperSeenLeft_0 rfl rfl ?_
  suffices kJ1 : qEx M_X10_keeperSeenLeft 27 [qR wl, qI (k : Int), qU] [qI (qif ((k : Int) ≤ 0) (qif ((N 161) = 0) (-1) ((n : Int) - 1)) ((k : Int) - 1))] (xput h F G) r hr by
    refine z_if_le 10 d_X10_keeperSeenLeft_1 (by decide) (fun hc1 => ?_) (fun hc1 => ?_)
    · refine z_aload_n d_X10_keeperSeenLeft_10 rfl rfl ?_
      refine z_getf (v := qI ((F wl) 1)) d_X10_keeperSeenLeft_11 fl_X10_15 (xput_ob (c := (F wl)) (wlx_in hwb hwk) rfl (xsh_10 hwk)) rfl ?_
      refine z_eq rfl (qc (qi hW.1.2.1) rfl) rfl ?_
      suffices kJ14 : qEx M_X10_keeperSeenLeft 27 [qR wl, qI (k : Int), qU] [qI (qif ((N 161) = 0) (-1) ((n : Int) - 1))] (xput h F G) r hr by
        refine z_if_eq 26 d_X10_keeperSeenLeft_14 (by decide) (fun hc2 => ?_) (fun hc2 => ?_)
        · refine z_iconst d_X10_keeperSeenLeft_26 (by decide) ?_
          exact z_eq rfl (qc (qi (qif_t hc2).symm) rfl) rfl kJ14
        · refine z_aload_n d_X10_keeperSeenLeft_17 rfl rfl ?_
          refine z_getf (v := qI ((F wl) 0)) d_X10_keeperSeenLeft_18 fl_X10_9 (xput_ob (c := (F wl)) (wlx_in hwb hwk) rfl (xsh_10 hwk)) rfl ?_
          refine z_eq rfl (qc (qi (hW.1.1.trans hN)) rfl) rfl ?_
          refine z_iconst d_X10_keeperSeenLeft_21 (by decide) ?_
          refine z_isub d_X10_keeperSeenLeft_22 (by omega) ?_
          refine z_goto 27 d_X10_keeperSeenLeft_23 (by decide) ?_
          exact z_eq rfl (qc (qi (qif_f hc2).symm) rfl) rfl kJ14
      exact z_eq rfl (qc (qi (qif_t hc1).symm) rfl) rfl kJ1
    · refine z_iload_n d_X10_keeperSeenLeft_4 rfl rfl ?_
      refine z_iconst d_X10_keeperSeenLeft_5 (by decide) ?_
      refine z_isub d_X10_keeperSeenLeft_6 (by omega) ?_
      refine z_goto 27 d_X10_keeperSeenLeft_7 (by decide) ?_
      exact z_eq rfl (qc (qi (qif_f hc1).symm) rfl) rfl kJ1
  refine z_istore_n (ls' := [qR wl, qI (k : Int), qI (qif ((k : Int) ≤ 0) (qif ((N 161) = 0) (-1) ((n : Int) - 1)) ((k : Int) - 1))]) d_X10_keeperSeenLeft_27 rfl (by decide) rfl ?_
  refine z_eq (qc rfl (qc rfl (qc (qi (show (qif ((k : Int) ≤ 0) (qif ((N 161) = 0) (-1) ((n : Int) - 1)) ((k : Int) - 1)) = (nbL n (N 161 ≠ 0) k) from by unfold nbL; by_cases h1 : (k : Int) ≤ 0; rw [qif_t h1, qif_f (show ¬ 0 < k by omega)]; by_cases h2 : N 161 = 0; rw [qif_t h2, qif_f (fun z => z h2)]; rw [qif_f h2, qif_t h2]; rw [qif_f h1, qif_t (show 0 < k by omega)])) rfl))) rfl rfl ?_
  have hnb := nbL_bd2 (ring := (N 161 ≠ 0)) hk
  refine z_iload_n d_X10_keeperSeenLeft_28 rfl rfl ?_
  refine z_iconst d_X10_keeperSeenLeft_29 (by decide) ?_
  refine z_icmp_eq 44 d_X10_keeperSeenLeft_30 (by decide) (fun q1 => ?_) (fun q1 => ?_)
  · refine z_iconst d_X10_keeperSeenLeft_44 (by decide) ?_
    refine z_goto 49 d_X10_keeperSeenLeft_45 (by decide) ?_
    exact z_iret d_X10_keeperSeenLeft_49 rfl (qer er (qif_t (Or.inl q1))) eh
  · refine z_aload_n d_X10_keeperSeenLeft_33 rfl rfl ?_
    refine z_getf (v := qR (wl + 3)) d_X10_keeperSeenLeft_34 fl_X10_26 (xput_ob (c := (F wl)) (wlx_in hwb hwk) rfl (xsh_10 hwk)) rfl ?_
    refine z_iload_n d_X10_keeperSeenLeft_37 rfl rfl ?_
    refine z_ild ((nbL n (N 161 ≠ 0) k).toNat) d_X10_keeperSeenLeft_38 (xput_ar (g := (G (wl + 3))) (wlx_3 hwb hwk) rfl) (by omega) (by omega) ?_
    refine z_iconst d_X10_keeperSeenLeft_39 (by decide) ?_
    refine z_iand d_X10_keeperSeenLeft_40 ?_
    refine z_if_eq 48 d_X10_keeperSeenLeft_41 (by decide) (fun q2 => ?_) (fun q2 => ?_)
    · refine z_iload_n d_X10_keeperSeenLeft_48 rfl rfl ?_
      exact z_iret d_X10_keeperSeenLeft_49 rfl (qer er (qif_f (fun z => z.elim q1 (fun y => and2.mp q2 (by rw [(hW.2.1 _ (by omega)).2.2]; exact y))))) eh
    · refine z_iconst d_X10_keeperSeenLeft_44 (by decide) ?_
      refine z_goto 49 d_X10_keeperSeenLeft_45 (by decide) ?_
      exact z_iret d_X10_keeperSeenLeft_49 rfl (qer er (qif_t (Or.inr (show tb (N (128 + (nbL n (N 161 ≠ 0) k).toNat)) 1 = true by rw [← (hW.2.1 _ (by omega)).2.2]; exact Classical.not_not.mp (fun z => q2 (and2.mpr z)))))) eh
set_option maxRecDepth 20000 in
set_option maxHeartbeats 4000000 in
theorem c_wlSeenR {h : qH} {F G : Nat → Nat → Int} {wl n : Nat} {N : Nat → Int} (k : Nat) (hwb : 2 ≤ wl) (hwk : xk wl = 10) (hW : wlR F G wl N) (hO : wOk N) (hN : N 160 = (n : Int)) (hk : k < n) : qEx M_X10_keeperSeenRight 0 [qR wl, qI (k : Int), qU] [] (xput h F G) (some (qI (snR n (N 161 ≠ 0) (fun j => N (128 + j)) k))) (xput h F G) := by
  refine q_gen (fun r hr er eh => ?_)
  have hn32 : n ≤ 32 := by have := wOk_n hO; omega
  refine z_iload_n d_X10_keeperSeenRight_0 rfl rfl ?_
  refine z_aload_n d_X10_keeperSeenRight_1 rfl rfl ?_
  refine z_getf (v := qI ((F wl) 0)) d_X10_keeperSeenRight_2 fl_X10_9 (xput_ob (c := (F wl)) (wlx_in hwb hwk) rfl (xsh_10 hwk)) rfl ?_
  refine z_eq rfl (qc (qi (hW.1.1.trans hN)) rfl) rfl ?_
  refine z_iconst d_X10_keeperSeenRight_5 (by decide) ?_
  refine z_isub d_X10_keeperSeenRight_6 (by omega) ?_
  suffices kJ7 : qEx M_X10_keeperSeenRight 28 [qR wl, qI (k : Int), qU] [qI (qif ((k : Int) ≥ ((n : Int) - 1)) (qif ((N 161) = 0) (-1) 0) ((k : Int) + 1))] (xput h F G) r hr by
    refine z_icmp_ge 16 d_X10_keeperSeenRight_7 (by decide) (fun hc1 => ?_) (fun hc1 => ?_)
    · refine z_aload_n d_X10_keeperSeenRight_16 rfl rfl ?_
      refine z_getf (v := qI ((F wl) 1)) d_X10_keeperSeenRight_17 fl_X10_15 (xput_ob (c := (F wl)) (wlx_in hwb hwk) rfl (xsh_10 hwk)) rfl ?_
      refine z_eq rfl (qc (qi hW.1.2.1) rfl) rfl ?_
      suffices kJ20 : qEx M_X10_keeperSeenRight 28 [qR wl, qI (k : Int), qU] [qI (qif ((N 161) = 0) (-1) 0)] (xput h F G) r hr by
        refine z_if_eq 27 d_X10_keeperSeenRight_20 (by decide) (fun hc2 => ?_) (fun hc2 => ?_)
        · refine z_iconst d_X10_keeperSeenRight_27 (by decide) ?_
          exact z_eq rfl (qc (qi (qif_t hc2).symm) rfl) rfl kJ20
        · refine z_iconst d_X10_keeperSeenRight_23 (by decide) ?_
          refine z_goto 28 d_X10_keeperSeenRight_24 (by decide) ?_
          exact z_eq rfl (qc (qi (qif_f hc2).symm) rfl) rfl kJ20
      exact z_eq rfl (qc (qi (qif_t hc1).symm) rfl) rfl kJ7
    · refine z_iload_n d_X10_keeperSeenRight_10 rfl rfl ?_
      refine z_iconst d_X10_keeperSeenRight_11 (by decide) ?_
      refine z_iadd d_X10_keeperSeenRight_12 (by omega) ?_
      refine z_goto 28 d_X10_keeperSeenRight_13 (by decide) ?_
      exact z_eq rfl (qc (qi (qif_f hc1).symm) rfl) rfl kJ7
  refine z_istore_n (ls' := [qR wl, qI (k : Int), qI (qif ((k : Int) ≥ ((n : Int) - 1)) (qif ((N 161) = 0) (-1) 0) ((k : Int) + 1))]) d_X10_keeperSeenRight_28 rfl (by decide) rfl ?_
  refine z_eq (qc rfl (qc rfl (qc (qi (show (qif ((k : Int) ≥ ((n : Int) - 1)) (qif ((N 161) = 0) (-1) 0) ((k : Int) + 1)) = (nbR n (N 161 ≠ 0) k) from by unfold nbR; by_cases h1 : (k : Int) ≥ (n : Int) - 1; rw [qif_t h1, qif_f (show ¬ k + 1 < n by omega)]; by_cases h2 : N 161 = 0; rw [qif_t h2, qif_f (fun z => z h2)]; rw [qif_f h2, qif_t h2]; rw [qif_f h1, qif_t (show k + 1 < n by omega)])) rfl))) rfl rfl ?_
  refine z_aload_n d_X10_keeperSeenRight_29 rfl rfl ?_
  refine z_getf (v := qR (wl + 3)) d_X10_keeperSeenRight_30 fl_X10_26 (xput_ob (c := (F wl)) (wlx_in hwb hwk) rfl (xsh_10 hwk)) rfl ?_
  refine z_iload_n d_X10_keeperSeenRight_33 rfl rfl ?_
  refine z_ild k d_X10_keeperSeenRight_34 (xput_ar (g := (G (wl + 3))) (wlx_3 hwb hwk) rfl) rfl (by omega) ?_
  refine z_iconst d_X10_keeperSeenRight_35 (by decide) ?_
  refine z_iand d_X10_keeperSeenRight_36 ?_
  refine z_if_eq 44 d_X10_keeperSeenRight_37 (by decide) (fun q2 => ?_) (fun q2 => ?_)
  · refine z_iload_n d_X10_keeperSeenRight_44 rfl rfl ?_
    exact z_iret d_X10_keeperSeenRight_45 rfl (qer er (by unfold snR; by_cases z : (nbR n (N 161 ≠ 0) k) = -1; rw [qif_t (Or.inl z), z]; rw [qif_f (fun y => y.elim z (fun x => and1.mp q2 (by rw [(hW.2.1 k (by omega)).2.2]; exact x)))])) eh
  · refine z_iconst d_X10_keeperSeenRight_40 (by decide) ?_
    refine z_goto 45 d_X10_keeperSeenRight_41 (by decide) ?_
    exact z_iret d_X10_keeperSeenRight_45 rfl (qer er (qif_t (Or.inr (show tb (N (128 + k)) 0 = true by rw [← (hW.2.1 k (by omega)).2.2]; exact Classical.not_not.mp (fun z => q2 (and1.mpr z)))))) eh
set_option maxRecDepth 20000 in
set_option maxHeartbeats 4000000 in
theorem c_wlMind {h : qH} {F G : Nat → Nat → Int} {wl n : Nat} {N : Nat → Int} (k : Nat) (t : Int) (hwb : 2 ≤ wl) (hwk : xk wl = 10) (hW : wlR F G wl N) (hO : wOk N) (hN : N 160 = (n : Int)) (hk : k < 32) (ht : -1 ≤ t ∧ t < 32) : qEx M_X10_mindOfSeen 0 [qR wl, qI (k : Int), qI t] [] (xput h F G) (some (qI (saw t (N (96 + k) = 1) N (fun j => N (32 + j))))) (xput h F G) := by
  refine q_gen (fun r hr er eh => ?_)
  have hn32 : n ≤ 32 := by have := wOk_n hO; omega
  refine z_iload_n d_X10_mindOfSeen_0 rfl rfl ?_
  refine z_iconst d_X10_mindOfSeen_1 (by decide) ?_
  refine z_icmp_ne 8 d_X10_mindOfSeen_2 (by decide) (fun q1 => ?_) (fun q1 => ?_)
  · refine z_aload_n d_X10_mindOfSeen_8 rfl rfl ?_
    refine z_iload_n d_X10_mindOfSeen_9 rfl rfl ?_
    refine z_cv (M1 := M_X10_isLate) d_X10_mindOfSeen_10 lv_X10_77 k_X10_isLate [qI (k : Int)] rfl rfl (xput_ob (c := (F wl)) (wlx_in hwb hwk) rfl (xsh_10 hwk)) ⟨_, _, rfl⟩ (Nat.le_of_ble_eq_true rfl) (by decide) (by decide) (Nat.le_of_ble_eq_true rfl) (c_wlLate k hwb hwk hW hO hN (by omega)) ?_
    refine z_ifeqB 25 d_X10_mindOfSeen_13 (by decide) (fun q2 => ?_) (fun q2 => ?_)
    · refine z_aload_n d_X10_mindOfSeen_25 rfl rfl ?_
      refine z_getf (v := qR (wl + 1)) d_X10_mindOfSeen_26 fl_X10_19 (xput_ob (c := (F wl)) (wlx_in hwb hwk) rfl (xsh_10 hwk)) rfl ?_
      refine z_iload_n d_X10_mindOfSeen_29 rfl rfl ?_
      refine z_ild t.toNat d_X10_mindOfSeen_30 (xput_ar (g := (G (wl + 1))) (wlx_1 hwb hwk) rfl) (by omega) (by omega) ?_
      exact z_iret d_X10_mindOfSeen_31 rfl (qer er (by unfold saw; rw [qif_f q1, qif_f q2]; exact (hW.2.1 _ (by omega)).1.symm)) eh
    · refine z_aload_n d_X10_mindOfSeen_16 rfl rfl ?_
      refine z_getf (v := qR (wl + 2)) d_X10_mindOfSeen_17 fl_X10_23 (xput_ob (c := (F wl)) (wlx_in hwb hwk) rfl (xsh_10 hwk)) rfl ?_
      refine z_iload_n d_X10_mindOfSeen_20 rfl rfl ?_
      refine z_ild t.toNat d_X10_mindOfSeen_21 (xput_ar (g := (G (wl + 2))) (wlx_2 hwb hwk) rfl) (by omega) (by omega) ?_
      refine z_goto 31 d_X10_mindOfSeen_22 (by decide) ?_
      exact z_iret d_X10_mindOfSeen_31 rfl (qer er (by unfold saw; rw [qif_f q1, qif_t q2]; exact (hW.2.1 _ (by omega)).2.1.symm)) eh
  · refine z_bipush d_X10_mindOfSeen_5 (by decide) ?_
    exact z_iret d_X10_mindOfSeen_7 rfl (qer er (qif_t (Classical.not_not.mp q1))) eh
set_option maxRecDepth 20000 in
set_option maxHeartbeats 4000000 in
theorem c_wlSeeL {h : qH} {F G : Nat → Nat → Int} {wl n : Nat} {N : Nat → Int} (k : Nat) (hwb : 2 ≤ wl) (hwk : xk wl = 10) (hW : wlR F G wl N) (hO : wOk N) (hN : N 160 = (n : Int)) (hk : k < n) : qEx M_X10_mindSeenLeft 0 [qR wl, qI (k : Int)] [] (xput h F G) (some (qI (saw (snL n (N 161 ≠ 0) (fun j => N (128 + j)) k) (N (96 + k) = 1) N (fun j => N (32 + j))))) (xput h F G) := by
  refine q_gen (fun r hr er eh => ?_)
  have hn32 : n ≤ 32 := by have := wOk_n hO; omega
  refine z_aload_n d_X10_mindSeenLeft_0 rfl rfl ?_
  refine z_iload_n d_X10_mindSeenLeft_1 rfl rfl ?_
  refine z_aload_n d_X10_mindSeenLeft_2 rfl rfl ?_
  refine z_iload_n d_X10_mindSeenLeft_3 rfl rfl ?_
  refine z_cv (M1 := M_X10_keeperSeenLeft) d_X10_mindSeenLeft_4 lv_X10_66 k_X10_keeperSeenLeft [qI (k : Int)] rfl rfl (xput_ob (c := (F wl)) (wlx_in hwb hwk) rfl (xsh_10 hwk)) ⟨_, _, rfl⟩ (Nat.le_of_ble_eq_true rfl) (by decide) (by decide) (Nat.le_of_ble_eq_true rfl) (c_wlSeenL k hwb hwk hW hO hN hk) ?_
  refine z_cv (M1 := M_X10_mindOfSeen) d_X10_mindSeenLeft_7 lv_X10_70 k_X10_mindOfSeen [qI (k : Int), qI (snL n (N 161 ≠ 0) (fun j => N (128 + j)) k)] rfl rfl (xput_ob (c := (F wl)) (wlx_in hwb hwk) rfl (xsh_10 hwk)) ⟨_, _, rfl⟩ (Nat.le_of_ble_eq_true rfl) (by decide) (by decide) (Nat.le_of_ble_eq_true rfl) (c_wlMind k (snL n (N 161 ≠ 0) (fun j => N (128 + j)) k) hwb hwk hW hO hN (by omega) (by have := snL_bd (ring := (N 161 ≠ 0)) (fun j => N (128 + j)) hk; omega)) ?_
  exact z_iret d_X10_mindSeenLeft_10 rfl er eh
set_option maxRecDepth 20000 in
set_option maxHeartbeats 4000000 in
theorem c_wlSeeR {h : qH} {F G : Nat → Nat → Int} {wl n : Nat} {N : Nat → Int} (k : Nat) (hwb : 2 ≤ wl) (hwk : xk wl = 10) (hW : wlR F G wl N) (hO : wOk N) (hN : N 160 = (n : Int)) (hk : k < n) : qEx M_X10_mindSeenRight 0 [qR wl, qI (k : Int)] [] (xput h F G) (some (qI (saw (snR n (N 161 ≠ 0) (fun j => N (128 + j)) k) (N (96 + k) = 1) N (fun j => N (32 + j))))) (xput h F G) := by
  refine q_gen (fun r hr er eh => ?_)
  have hn32 : n ≤ 32 := by have := wOk_n hO; omega
  refine z_aload_n d_X10_mindSeenRight_0 rfl rfl ?_
  refine z_iload_n d_X10_mindSeenRight_1 rfl rfl ?_
  refine z_aload_n d_X10_mindSeenRight_2 rfl rfl ?_
  refine z_iload_n d_X10_mindSeenRight_3 rfl rfl ?_
  refine z_cv (M1 := M_X10_keeperSeenRight) d_X10_mindSeenRight_4 lv_X10_74 k_X10_keeperSeenRight [qI (k : Int)] rfl rfl (xput_ob (c := (F wl)) (wlx_in hwb hwk) rfl (xsh_10 hwk)) ⟨_, _, rfl⟩ (Nat.le_of_ble_eq_true rfl) (by decide) (by decide) (Nat.le_of_ble_eq_true rfl) (c_wlSeenR k hwb hwk hW hO hN hk) ?_
  refine z_cv (M1 := M_X10_mindOfSeen) d_X10_mindSeenRight_7 lv_X10_70 k_X10_mindOfSeen [qI (k : Int), qI (snR n (N 161 ≠ 0) (fun j => N (128 + j)) k)] rfl rfl (xput_ob (c := (F wl)) (wlx_in hwb hwk) rfl (xsh_10 hwk)) ⟨_, _, rfl⟩ (Nat.le_of_ble_eq_true rfl) (by decide) (by decide) (Nat.le_of_ble_eq_true rfl) (c_wlMind k (snR n (N 161 ≠ 0) (fun j => N (128 + j)) k) hwb hwk hW hO hN (by omega) (by have := snR_bd (ring := (N 161 ≠ 0)) (fun j => N (128 + j)) hk; omega)) ?_
  exact z_iret d_X10_mindSeenRight_10 rfl er eh
set_option maxRecDepth 20000 in
set_option maxHeartbeats 4000000 in
theorem c_wlLit {h : qH} {F G : Nat → Nat → Int} {wl n : Nat} {N : Nat → Int} (hwb : 2 ≤ wl) (hwk : xk wl = 10) (hW : wlR F G wl N) (hO : wOk N) (hN : N 160 = (n : Int)) : qEx M_X10_litCount 0 [qR wl, qU, qU] [] (xput h F G) (some (qI (cnt (fun k => N k = 7) n))) (xput h F G) := by
  refine q_gen (fun r hr er eh => ?_)
  have hn32 : n ≤ 32 := by have := wOk_n hO; omega
  refine z_iconst d_X10_litCount_0 (by decide) ?_
  refine z_istore_n (ls' := [qR wl, qI 0, qU]) d_X10_litCount_1 rfl (by decide) rfl ?_
  refine z_iconst d_X10_litCount_2 (by decide) ?_
  refine z_istore_n (ls' := [qR wl, qI 0, qI 0]) d_X10_litCount_3 rfl (by decide) rfl ?_
  refine z_eq (qc rfl (qc (qi (rfl)) (qc (qi (rfl)) rfl))) rfl rfl (z_for n (fun i => [qR wl, qI (cnt (fun k => N k = 7) i), qI (i : Int)]) (fun i => (xput h F G)) (fun i => True) trivial (fun i hii hp kki => ?_) (fun hp => ?_))
  · show qEx M_X10_litCount 4 [qR wl, qI (cnt (fun k => N k = 7) i), qI (i : Int)] [] (xput h F G) r hr
    have hcn := cnt_bd (fun k => N k = 7) i
    refine z_iload_n d_X10_litCount_4 rfl rfl ?_
    refine z_aload_n d_X10_litCount_5 rfl rfl ?_
    refine z_getf (v := qI ((F wl) 0)) d_X10_litCount_6 fl_X10_9 (xput_ob (c := (F wl)) (wlx_in hwb hwk) rfl (xsh_10 hwk)) rfl ?_
    refine z_eq rfl (qc (qi (hW.1.1.trans hN)) rfl) rfl ?_
    refine z_icmp_ge 32 d_X10_litCount_9 (by decide) (fun hc1 => absurd hc1 (by omega)) (fun hc1 => ?_)
    refine z_aload_n d_X10_litCount_12 rfl rfl ?_
    refine z_getf (v := qR (wl + 1)) d_X10_litCount_13 fl_X10_19 (xput_ob (c := (F wl)) (wlx_in hwb hwk) rfl (xsh_10 hwk)) rfl ?_
    refine z_iload_n d_X10_litCount_16 rfl rfl ?_
    refine z_ild i d_X10_litCount_17 (xput_ar (g := (G (wl + 1))) (wlx_1 hwb hwk) rfl) rfl (by omega) ?_
    refine z_eq rfl (qc (qi ((hW.2.1 i (by omega)).1)) rfl) rfl ?_
    refine z_bipush d_X10_litCount_18 (by decide) ?_
    refine z_icmp_ne 26 d_X10_litCount_20 (by decide) (fun q1 => ?_) (fun q1 => ?_)
    · refine z_iinc (ls' := [qR wl, qI (cnt (fun k => N k = 7) i), qI ((i : Int) + 1)]) d_X10_litCount_26 rfl (by decide) (by omega) rfl ?_
      refine z_goto 4 d_X10_litCount_29 (by decide) ?_
      exact z_eq (qc rfl (qc (qi ((cnt_f (p := fun k => N k = 7) q1).symm)) (qc (qi (by omega)) rfl))) rfl rfl (kki trivial)
    · refine z_iinc (ls' := [qR wl, qI ((cnt (fun k => N k = 7) i) + 1), qI (i : Int)]) d_X10_litCount_23 rfl (by decide) (by omega) rfl ?_
      refine z_iinc (ls' := [qR wl, qI ((cnt (fun k => N k = 7) i) + 1), qI ((i : Int) + 1)]) d_X10_litCount_26 rfl (by decide) (by omega) rfl ?_
      refine z_goto 4 d_X10_litCount_29 (by decide) ?_
      exact z_eq (qc rfl (qc (qi ((cnt_t (p := fun k => N k = 7) (Classical.not_not.mp q1)).symm)) (qc (qi (by omega)) rfl))) rfl rfl (kki trivial)
  · show qEx M_X10_litCount 4 [qR wl, qI (cnt (fun k => N k = 7) n), qI (n : Int)] [] (xput h F G) r hr
    refine z_iload_n d_X10_litCount_4 rfl rfl ?_
    refine z_aload_n d_X10_litCount_5 rfl rfl ?_
    refine z_getf (v := qI ((F wl) 0)) d_X10_litCount_6 fl_X10_9 (xput_ob (c := (F wl)) (wlx_in hwb hwk) rfl (xsh_10 hwk)) rfl ?_
    refine z_eq rfl (qc (qi (hW.1.1.trans hN)) rfl) rfl ?_
    refine z_icmp_ge 32 d_X10_litCount_9 (by decide) (fun hc2 => ?_) (fun hc2 => absurd hc2 (by omega))
    refine z_iload_n d_X10_litCount_32 rfl rfl ?_
    exact z_iret d_X10_litCount_33 rfl er eh
set_option maxRecDepth 20000 in
set_option maxHeartbeats 4000000 in
theorem c_wlLeast {h : qH} {F G : Nat → Nat → Int} {wl n : Nat} {N : Nat → Int} (hwb : 2 ≤ wl) (hwk : xk wl = 10) (hW : wlR F G wl N) (hO : wOk N) (hN : N 160 = (n : Int)) : qEx M_X10_leastLit 0 [qR wl, qU] [] (xput h F G) (some (qI (fst (fun k => N k = 7) n))) (xput h F G) := by
  refine q_gen (fun r hr er eh => ?_)
  have hn32 : n ≤ 32 := by have := wOk_n hO; omega
  refine z_iconst d_X10_leastLit_0 (by decide) ?_
  refine z_istore_n (ls' := [qR wl, qI 0]) d_X10_leastLit_1 rfl (by decide) rfl ?_
  refine z_eq (qc rfl (qc (qi (rfl)) rfl)) rfl rfl (z_for n (fun i => [qR wl, qI (i : Int)]) (fun i => (xput h F G)) (fun i => ∀ k, k < i → ¬ N k = 7) (fun k hk => absurd hk (by omega)) (fun i hii hp kki => ?_) (fun hp => ?_))
  · show qEx M_X10_leastLit 2 [qR wl, qI (i : Int)] [] (xput h F G) r hr
    refine z_iload_n d_X10_leastLit_2 rfl rfl ?_
    refine z_aload_n d_X10_leastLit_3 rfl rfl ?_
    refine z_getf (v := qI ((F wl) 0)) d_X10_leastLit_4 fl_X10_9 (xput_ob (c := (F wl)) (wlx_in hwb hwk) rfl (xsh_10 hwk)) rfl ?_
    refine z_eq rfl (qc (qi (hW.1.1.trans hN)) rfl) rfl ?_
    refine z_icmp_ge 29 d_X10_leastLit_7 (by decide) (fun hc1 => absurd hc1 (by omega)) (fun hc1 => ?_)
    refine z_aload_n d_X10_leastLit_10 rfl rfl ?_
    refine z_getf (v := qR (wl + 1)) d_X10_leastLit_11 fl_X10_19 (xput_ob (c := (F wl)) (wlx_in hwb hwk) rfl (xsh_10 hwk)) rfl ?_
    refine z_iload_n d_X10_leastLit_14 rfl rfl ?_
    refine z_ild i d_X10_leastLit_15 (xput_ar (g := (G (wl + 1))) (wlx_1 hwb hwk) rfl) rfl (by omega) ?_
    refine z_eq rfl (qc (qi ((hW.2.1 i (by omega)).1)) rfl) rfl ?_
    refine z_bipush d_X10_leastLit_16 (by decide) ?_
    refine z_icmp_ne 23 d_X10_leastLit_18 (by decide) (fun q1 => ?_) (fun q1 => ?_)
    · refine z_iinc (ls' := [qR wl, qI ((i : Int) + 1)]) d_X10_leastLit_23 rfl (by decide) (by omega) rfl ?_
      refine z_goto 2 d_X10_leastLit_26 (by decide) ?_
      exact z_eq (qc rfl (qc (qi (by omega)) rfl)) rfl rfl (kki (q_lts hp q1))
    · refine z_iload_n d_X10_leastLit_21 rfl rfl ?_
      exact z_iret d_X10_leastLit_22 rfl (qer er (fst_at hii hp (Classical.not_not.mp q1))) eh
  · show qEx M_X10_leastLit 2 [qR wl, qI (n : Int)] [] (xput h F G) r hr
    refine z_iload_n d_X10_leastLit_2 rfl rfl ?_
    refine z_aload_n d_X10_leastLit_3 rfl rfl ?_
    refine z_getf (v := qI ((F wl) 0)) d_X10_leastLit_4 fl_X10_9 (xput_ob (c := (F wl)) (wlx_in hwb hwk) rfl (xsh_10 hwk)) rfl ?_
    refine z_eq rfl (qc (qi (hW.1.1.trans hN)) rfl) rfl ?_
    refine z_icmp_ge 29 d_X10_leastLit_7 (by decide) (fun hc2 => ?_) (fun hc2 => absurd hc2 (by omega))
    refine z_iconst d_X10_leastLit_29 (by decide) ?_
    exact z_iret d_X10_leastLit_30 rfl (qer er (fst_none hp)) eh
