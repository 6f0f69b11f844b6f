/-! ===== CONTRACTS: more of pages and books ===== -/
noncomputable def pgA (R : Nat → Int) (c : Int) (o l r : Nat) : Int := qif (pgF R c o l r ≠ -1) (sbR R (pgF R c o l r).toNat o) o
def shP (X Y : Nat → Int) (i j : Nat) : Prop := ∃ s, s < 9 ∧ tb (X s) i = true ∧ tb (Y s) j = true
theorem sh_bit {x y : Int} {i j : Nat} (hi : i < 32) (hj : j < 32) : qAnd (qAnd (qShr x (i : Int)) (qShr y (j : Int))) 1 ≠ 0 ↔ tb x i = true ∧ tb y j = true := by
  rw [qAnd1, tb_and, tb_shr x 0 hi (by omega), tb_shr y 0 hj (by omega), Nat.zero_add, Nat.zero_add]
  cases tb x i <;> cases tb y j <;> simp
set_option maxRecDepth 20000 in
set_option maxHeartbeats 4000000 in
theorem c_pgAnswer {h : qH} {F G : Nat → Nat → Int} {p : Nat} {R : Nat → Int} {c : Int} (o l r0 : Nat) (hp2 : 2 ≤ p) (hp : xk p = 2) (hR : pgR F G p R c) (ho : o < 9) (hl : l < 9) (hr0 : r0 < 9) : qEx M_X2_answer 0 [qR p, qI (o : Int), qI (l : Int), qI (r0 : Int), qU] [] (xput h F G) (some (qI (pgA R c o l r0))) (xput h F G) := by
  refine q_gen (fun r hr er eh => ?_)
  refine z_aload_n d_X2_answer_0 rfl rfl ?_
  refine z_iload_n d_X2_answer_1 rfl rfl ?_
  refine z_iload_n d_X2_answer_2 rfl rfl ?_
  refine z_iload_n d_X2_answer_3 rfl rfl ?_
  refine z_cv (M1 := M_X2_firstFit) d_X2_answer_4 lv_X2_50 k_X2_firstFit [qI (o : Int), qI (l : Int), qI (r0 : Int)] rfl rfl (xput_ob (c := (F p)) (pgx_in hp2 hp) rfl (xsh_2 hp)) ⟨_, _, rfl⟩ (Nat.le_of_ble_eq_true rfl) (by decide) (by decide) (Nat.le_of_ble_eq_true rfl) (c_pgFit o l r0 hp2 hp hR ho hl hr0) ?_
  refine z_istore (ls' := [qR p, qI (o : Int), qI (l : Int), qI (r0 : Int), qI (pgF R c o l r0)]) d_X2_answer_7 (by decide) rfl ?_
  refine z_iload d_X2_answer_9 rfl ?_
  refine z_iconst d_X2_answer_11 (by decide) ?_
  refine z_icmp_ne 19 d_X2_answer_12 (by decide) (fun q1 => ?_) (fun q1 => ?_)
  · obtain ⟨i, hi24, ei, hci⟩ := pgF_cases q1
    refine z_eq (qc rfl (qc rfl (qc rfl (qc rfl (qc (qi (show (pgF R c o l r0) = (i : Int) from ei)) rfl))))) rfl rfl ?_
    refine z_aload_n d_X2_answer_19 rfl rfl ?_
    refine z_iload d_X2_answer_20 rfl ?_
    refine z_iload_n d_X2_answer_22 rfl rfl ?_
    refine z_cv (M1 := M_X2_mindBy) d_X2_answer_23 lv_X2_54 k_X2_mindBy [qI (i : Int), qI (o : Int)] rfl rfl (xput_ob (c := (F p)) (pgx_in hp2 hp) rfl (xsh_2 hp)) ⟨_, _, rfl⟩ (Nat.le_of_ble_eq_true rfl) (by decide) (by decide) (Nat.le_of_ble_eq_true rfl) (c_pgMind i (o : Int) hp2 hp hR hci) ?_
    exact z_iret d_X2_answer_26 rfl (qer er (by unfold pgA; rw [qif_t q1, ei, Int.toNat_natCast])) eh
  · refine z_iload_n d_X2_answer_15 rfl rfl ?_
    refine z_goto 26 d_X2_answer_16 (by decide) ?_
    exact z_iret d_X2_answer_26 rfl (qer er (qif_f q1)) eh
set_option maxRecDepth 20000 in
set_option maxHeartbeats 4000000 in
theorem c_pgWear0 {h : qH} {F G : Nat → Nat → Int} {p : Nat} (i : Nat) (hp2 : 2 ≤ p) (hp : xk p = 2) (hi : i < 24) : qEx M_X2_wearOut 0 [qR p, qI (i : Int), qU] [] (xput h F G) none (xput h F (gup G (p + 1) (qmx 9 (fun s => qAnd (G (p + 1) s) (qXor (qShl 1 (i : Int)) (-1))) (G (p + 1))))) := by
  refine q_gen (fun r hr er eh => ?_)
  refine z_iconst d_X2_wearOut_0 (by decide) ?_
  refine z_istore_n (ls' := [qR p, qI (i : Int), qI 0]) d_X2_wearOut_1 rfl (by decide) rfl ?_
  refine z_eq (qc rfl (qc rfl (qc (qi (rfl)) rfl))) rfl (xput_cg rfl (by rw [qmx_0, gup_self rfl])) (z_for 9 (fun k => [qR p, qI (i : Int), qI (k : Int)]) (fun k => (xput h F (gup G (p + 1) (qmx k (fun s => qAnd (G (p + 1) s) (qXor (qShl 1 (i : Int)) (-1))) (G (p + 1)))))) (fun k => True) trivial (fun k hik hp9 kkk => ?_) (fun hp9 => ?_))
  · show qEx M_X2_wearOut 2 [qR p, qI (i : Int), qI (k : Int)] [] (xput h F (gup G (p + 1) (qmx k (fun s => qAnd (G (p + 1) s) (qXor (qShl 1 (i : Int)) (-1))) (G (p + 1))))) r hr
    refine z_iload_n d_X2_wearOut_2 rfl rfl ?_
    refine z_bipush d_X2_wearOut_3 (by decide) ?_
    refine z_icmp_ge 28 d_X2_wearOut_5 (by decide) (fun hc1 => absurd hc1 (by omega)) (fun hc1 => ?_)
    refine z_aload_n d_X2_wearOut_8 rfl rfl ?_
    refine z_getf (v := qR (p + 1)) d_X2_wearOut_9 fl_X2_9 (xput_ob (c := (F p)) (pgx_in hp2 hp) rfl (xsh_2 hp)) rfl ?_
    refine z_iload_n d_X2_wearOut_12 rfl rfl ?_
    refine z_dup2 d_X2_wearOut_13 rfl rfl ?_
    refine z_ild k d_X2_wearOut_14 (xput_ar (g := (qmx k (fun s => qAnd (G (p + 1) s) (qXor (qShl 1 (i : Int)) (-1))) (G (p + 1)))) (pgx_1 hp2 hp) (gup_eq _ _)) rfl (by omega) ?_
    refine z_iconst d_X2_wearOut_15 (by decide) ?_
    refine z_iload_n d_X2_wearOut_16 rfl rfl ?_
    refine z_ishl d_X2_wearOut_17 ?_
    refine z_iconst d_X2_wearOut_18 (by decide) ?_
    refine z_ixor d_X2_wearOut_19 ?_
    refine z_iand d_X2_wearOut_20 ?_
    refine z_ist k d_X2_wearOut_21 (xput_ar (g := (qmx k (fun s => qAnd (G (p + 1) s) (qXor (qShl 1 (i : Int)) (-1))) (G (p + 1)))) (pgx_1 hp2 hp) (gup_eq _ _)) (by omega) rfl (by omega) ?_
    refine z_eq rfl rfl ((xput_sa (pgx_1 hp2 hp)).trans (xput_cg rfl (gup_gup _ _ _))) ?_
    refine z_iinc (ls' := [qR p, qI (i : Int), qI ((k : Int) + 1)]) d_X2_wearOut_22 rfl (by decide) (by omega) rfl ?_
    refine z_goto 2 d_X2_wearOut_25 (by decide) ?_
    exact z_eq (qc rfl (qc rfl (qc (qi (by omega)) rfl))) rfl (xput_cg rfl (gup_cg rfl (by rw [qmx_ge (by omega)]; exact qmx_s _ _ _))) (kkk trivial)
  · show qEx M_X2_wearOut 2 [qR p, qI (i : Int), qI (9 : Int)] [] (xput h F (gup G (p + 1) (qmx 9 (fun s => qAnd (G (p + 1) s) (qXor (qShl 1 (i : Int)) (-1))) (G (p + 1))))) r hr
    refine z_iload_n d_X2_wearOut_2 rfl rfl ?_
    refine z_bipush d_X2_wearOut_3 (by decide) ?_
    refine z_icmp_ge 28 d_X2_wearOut_5 (by decide) (fun hc2 => ?_) (fun hc2 => absurd hc2 (by omega))
    exact z_vret d_X2_wearOut_28 rfl er eh
theorem c_pgWear {h : qH} {F G : Nat → Nat → Int} {p : Nat} {R : Nat → Int} {c : Int} (i : Nat) (hp2 : 2 ≤ p) (hp : xk p = 2) (hR : pgR F G p R c) (hi : (i : Int) < c) : ∃ G', (xfr p (p + 4) F G F G' ∧ pgR F G' p (qup R (4 * i) 0) c) ∧ qEx M_X2_wearOut 0 [qR p, qI i, qU] [] (xput h F G) none (xput h F G') := by
  have h24 := hR.2.2.1
  refine ⟨_, ⟨?_, ?_⟩, c_pgWear0 i hp2 hp (by omega)⟩
  · exact xfr_g (xfr_rf _ _ _ _) (by omega) (by omega)
  · obtain ⟨a, b, d, e, f⟩ := hR
    have key : ∀ s, s < 9 → ∀ k, k < 32 → tb (gup G (p + 1) (qmx 9 (fun s => qAnd (G (p + 1) s) (qXor (qShl 1 (i : Int)) (-1))) (G (p + 1))) (p + 1) s) k = (tb (G (p + 1) s) k && !decide (k = i)) := by
      intro s hs k hk
      rw [gup_eq, qmx_lt hs, tb_and, tb_not _ hk, tb_bit (by omega)]
    refine ⟨a, b, d, fun k hk => ⟨fun s hs => ?_, ?_⟩, fun k s h1 h2 h3 => ?_⟩
    · obtain ⟨x, -⟩ := e k hk
      rw [key s hs k (by omega), gup_ne (by omega), gup_ne (by omega), (x s hs).1, (x s hs).2.1, (x s hs).2.2, qup_ne (show 4 * k + 1 ≠ 4 * i by omega), qup_ne (show 4 * k + 2 ≠ 4 * i by omega)]
      refine ⟨?_, rfl, rfl⟩
      by_cases z : k = i
      · subst z
        rw [qup_eq, tb_0]
        simp
      · rw [qup_ne (by omega)]
        simp [z]
    · rw [gup_ne (by omega), qup_ne (by omega)]; exact (e k hk).2
    · rw [key s h3 k h2, f k s h1 h2 h3]; rfl
set_option maxRecDepth 20000 in
set_option maxHeartbeats 4000000 in
theorem c_share {h : qH} {a b : Nat} {X Y : Nat → Int} (i j : Nat) (e0 : h.2.2 a = qAr 0 9 X) (e1 : h.2.2 b = qAr 0 9 Y) (hi : i < 32) (hj : j < 32) : qEx M_X2_shareOne 0 [qR a, qI (i : Int), qR b, qI (j : Int), qU] [] h (some (qI (qb (shP X Y i j)))) h := by
  refine q_gen (fun r hr er eh => ?_)
  refine z_iconst d_X2_shareOne_0 (by decide) ?_
  refine z_istore (ls' := [qR a, qI (i : Int), qR b, qI (j : Int), qI 0]) d_X2_shareOne_1 (by decide) rfl ?_
  refine z_eq (qc rfl (qc rfl (qc rfl (qc rfl (qc (qi (rfl)) rfl))))) rfl rfl (z_for 9 (fun k => [qR a, qI (i : Int), qR b, qI (j : Int), qI (k : Int)]) (fun k => h) (fun k => ∀ s, s < k → ¬ (tb (X s) i = true ∧ tb (Y s) j = true)) (fun s hs => absurd hs (by omega)) (fun k hik hp kkk => ?_) (fun hp => ?_))
  · show qEx M_X2_shareOne 3 [qR a, qI (i : Int), qR b, qI (j : Int), qI (k : Int)] [] h r hr
    refine z_iload d_X2_shareOne_3 rfl ?_
    refine z_bipush d_X2_shareOne_5 (by decide) ?_
    refine z_icmp_ge 36 d_X2_shareOne_7 (by decide) (fun hc1 => absurd hc1 (by omega)) (fun hc1 => ?_)
    refine z_aload_n d_X2_shareOne_10 rfl rfl ?_
    refine z_iload d_X2_shareOne_11 rfl ?_
    refine z_ild k d_X2_shareOne_13 e0 rfl (by omega) ?_
    refine z_iload_n d_X2_shareOne_14 rfl rfl ?_
    refine z_ishr d_X2_shareOne_15 ?_
    refine z_aload_n d_X2_shareOne_16 rfl rfl ?_
    refine z_iload d_X2_shareOne_17 rfl ?_
    refine z_ild k d_X2_shareOne_19 e1 rfl (by omega) ?_
    refine z_iload_n d_X2_shareOne_20 rfl rfl ?_
    refine z_ishr d_X2_shareOne_21 ?_
    refine z_iand d_X2_shareOne_22 ?_
    refine z_iconst d_X2_shareOne_23 (by decide) ?_
    refine z_iand d_X2_shareOne_24 ?_
    refine z_if_eq 30 d_X2_shareOne_25 (by decide) (fun q1 => ?_) (fun q1 => ?_)
    · refine z_iinc (ls' := [qR a, qI (i : Int), qR b, qI (j : Int), qI ((k : Int) + 1)]) d_X2_shareOne_30 rfl (by decide) (by omega) rfl ?_
      refine z_goto 3 d_X2_shareOne_33 (by decide) ?_
      exact z_eq (qc rfl (qc rfl (qc rfl (qc rfl (qc (qi (by omega)) rfl))))) rfl rfl (kkk (q_lts hp (fun z => (sh_bit hi hj).mpr z q1)))
    · refine z_iconst d_X2_shareOne_28 (by decide) ?_
      exact z_zret d_X2_shareOne_29 rfl (by first | exact qb_01 _ | decide | omega) (qer er (qb_t ⟨k, hik, (sh_bit hi hj).mp q1⟩)) eh
  · show qEx M_X2_shareOne 3 [qR a, qI (i : Int), qR b, qI (j : Int), qI (9 : Int)] [] h r hr
    refine z_iload d_X2_shareOne_3 rfl ?_
    refine z_bipush d_X2_shareOne_5 (by decide) ?_
    refine z_icmp_ge 36 d_X2_shareOne_7 (by decide) (fun hc2 => ?_) (fun hc2 => absurd hc2 (by omega))
    refine z_iconst d_X2_shareOne_36 (by decide) ?_
    exact z_zret d_X2_shareOne_37 rfl (by first | exact qb_01 _ | decide | omega) (qer er (qb_f (fun ⟨k, hk, z⟩ => hp k hk z))) eh
def pcO (R S : Nat → Int) (i j o : Nat) : Prop := (tb (R (4 * i)) o = true ∧ tb (S (4 * j)) o = true) ∧ sbR R i o ≠ sbR S j o
def pcP (R S : Nat → Int) (i j : Nat) : Prop := (∃ s, s < 9 ∧ tb (R (4 * i + 1)) s = true ∧ tb (S (4 * j + 1)) s = true) ∧ (∃ s, s < 9 ∧ tb (R (4 * i + 2)) s = true ∧ tb (S (4 * j + 2)) s = true) ∧ ∃ o, o < 7 ∧ pcO R S i j o
theorem shP_2 {F G : Nat → Nat → Int} {p q : Nat} {R S : Nat → Int} {c d : Int} {i j : Nat} (hR : pgR F G p R c) (hS : pgR F G q S d) (hi : (i : Int) < c) (hj : (j : Int) < d) : shP (G (p + 2)) (G (q + 2)) i j ↔ ∃ s, s < 9 ∧ tb (R (4 * i + 1)) s = true ∧ tb (S (4 * j + 1)) s = true := by
  constructor
  · rintro ⟨s, hs, h1, h2⟩
    exact ⟨s, hs, by rw [← ((hR.2.2.2.1 i hi).1 s hs).2.1]; exact h1, by rw [← ((hS.2.2.2.1 j hj).1 s hs).2.1]; exact h2⟩
  · rintro ⟨s, hs, h1, h2⟩
    exact ⟨s, hs, by rw [((hR.2.2.2.1 i hi).1 s hs).2.1]; exact h1, by rw [((hS.2.2.2.1 j hj).1 s hs).2.1]; exact h2⟩
theorem shP_3 {F G : Nat → Nat → Int} {p q : Nat} {R S : Nat → Int} {c d : Int} {i j : Nat} (hR : pgR F G p R c) (hS : pgR F G q S d) (hi : (i : Int) < c) (hj : (j : Int) < d) : shP (G (p + 3)) (G (q + 3)) i j ↔ ∃ s, s < 9 ∧ tb (R (4 * i + 2)) s = true ∧ tb (S (4 * j + 2)) s = true := by
  constructor
  · rintro ⟨s, hs, h1, h2⟩
    exact ⟨s, hs, by rw [← ((hR.2.2.2.1 i hi).1 s hs).2.2]; exact h1, by rw [← ((hS.2.2.2.1 j hj).1 s hs).2.2]; exact h2⟩
  · rintro ⟨s, hs, h1, h2⟩
    exact ⟨s, hs, by rw [((hR.2.2.2.1 i hi).1 s hs).2.2]; exact h1, by rw [((hS.2.2.2.1 j hj).1 s hs).2.2]; exact h2⟩
theorem own_2 {F G : Nat → Nat → Int} {p q : Nat} {R S : Nat → Int} {c d : Int} {i j o : Nat} (hR : pgR F G p R c) (hS : pgR F G q S d) (hi : (i : Int) < c) (hj : (j : Int) < d) (ho : o < 9) : qAnd (qAnd (qShr (G (p + 1) o) (i : Int)) (qShr (G (q + 1) o) (j : Int))) 1 ≠ 0 ↔ tb (R (4 * i)) o = true ∧ tb (S (4 * j)) o = true := by
  have h1 := hR.2.2.1
  have h2 := hS.2.2.1
  rw [sh_bit (by omega) (by omega), ((hR.2.2.2.1 i hi).1 o ho).1, ((hS.2.2.2.1 j hj).1 o ho).1]
set_option maxRecDepth 20000 in
set_option maxHeartbeats 4000000 in
theorem c_pgClash {h : qH} {F G : Nat → Nat → Int} {p q : Nat} {R S : Nat → Int} {c d : Int} (i j : Nat) (hp2 : 2 ≤ p) (hp : xk p = 2) (hq2 : 2 ≤ q) (hq : xk q = 2) (hR : pgR F G p R c) (hS : pgR F G q S d) (hi : (i : Int) < c) (hj : (j : Int) < d) : qEx M_X2_clashes 0 [qR p, qI (i : Int), qR q, qI (j : Int), qU, qU] [] (xput h F G) (some (qI (qb (pcP R S i j)))) (xput h F G) := by
  refine q_gen (fun r hr er eh => ?_)
  have hc24 := hR.2.2.1
  have hd24 := hS.2.2.1
  refine z_aload_n d_X2_clashes_0 rfl rfl ?_
  refine z_getf (v := qR (p + 2)) d_X2_clashes_1 fl_X2_15 (xput_ob (c := (F p)) (pgx_in hp2 hp) rfl (xsh_2 hp)) rfl ?_
  refine z_iload_n d_X2_clashes_4 rfl rfl ?_
  refine z_aload_n d_X2_clashes_5 rfl rfl ?_
  refine z_getf (v := qR (q + 2)) d_X2_clashes_6 fl_X2_15 (xput_ob (c := (F q)) (pgx_in hq2 hq) rfl (xsh_2 hq)) rfl ?_
  refine z_iload_n d_X2_clashes_9 rfl rfl ?_
  refine z_cs (M1 := M_X2_shareOne) d_X2_clashes_10 ls_X2_58 k_X2_shareOne [qR (p + 2), qI (i : Int), qR (q + 2), qI (j : Int)] rfl rfl (Nat.le_of_ble_eq_true rfl) (by decide) (by decide) (Nat.le_of_ble_eq_true rfl) (c_share i j (xput_ar (g := (G (p + 2))) (pgx_2 hp2 hp) rfl) (xput_ar (g := (G (q + 2))) (pgx_2 hq2 hq) rfl) (by omega) (by omega)) ?_
  refine z_ifeqB 32 d_X2_clashes_13 (by decide) (fun q1 => ?_) (fun q1 => ?_)
  · refine z_iconst d_X2_clashes_32 (by decide) ?_
    exact z_zret d_X2_clashes_33 rfl (by first | exact qb_01 _ | decide | omega) (qer er (qb_f (fun z => q1 ((shP_2 hR hS hi hj).mpr z.1)))) eh
  · refine z_aload_n d_X2_clashes_16 rfl rfl ?_
    refine z_getf (v := qR (p + 3)) d_X2_clashes_17 fl_X2_18 (xput_ob (c := (F p)) (pgx_in hp2 hp) rfl (xsh_2 hp)) rfl ?_
    refine z_iload_n d_X2_clashes_20 rfl rfl ?_
    refine z_aload_n d_X2_clashes_21 rfl rfl ?_
    refine z_getf (v := qR (q + 3)) d_X2_clashes_22 fl_X2_18 (xput_ob (c := (F q)) (pgx_in hq2 hq) rfl (xsh_2 hq)) rfl ?_
    refine z_iload_n d_X2_clashes_25 rfl rfl ?_
    refine z_cs (M1 := M_X2_shareOne) d_X2_clashes_26 ls_X2_58 k_X2_shareOne [qR (p + 3), qI (i : Int), qR (q + 3), qI (j : Int)] rfl rfl (Nat.le_of_ble_eq_true rfl) (by decide) (by decide) (Nat.le_of_ble_eq_true rfl) (c_share i j (xput_ar (g := (G (p + 3))) (pgx_3 hp2 hp) rfl) (xput_ar (g := (G (q + 3))) (pgx_3 hq2 hq) rfl) (by omega) (by omega)) ?_
    refine z_ifneB 34 d_X2_clashes_29 (by decide) (fun q2 => ?_) (fun q2 => ?_)
    · refine z_iconst d_X2_clashes_34 (by decide) ?_
      refine z_istore (ls' := [qR p, qI (i : Int), qR q, qI (j : Int), qI 0, qU]) d_X2_clashes_35 (by decide) rfl ?_
      refine z_eq (qc rfl (qc rfl (qc rfl (qc rfl (qc (qi (rfl)) (qc rfl rfl)))))) rfl rfl (z_for 7 (fun o => [qR p, qI (i : Int), qR q, qI (j : Int), qI (o : Int), qU]) (fun o => (xput h F G)) (fun o => ∀ s, s < o → ¬ pcO R S i j s) (fun s hs => absurd hs (by omega)) (fun o hio hp9 kko => ?_) (fun hp9 => ?_))
      · show qEx M_X2_clashes 37 [qR p, qI (i : Int), qR q, qI (j : Int), qI (o : Int), qU] [] (xput h F G) r hr
        refine z_iload d_X2_clashes_37 rfl ?_
        refine z_bipush d_X2_clashes_39 (by decide) ?_
        refine z_icmp_ge 105 d_X2_clashes_41 (by decide) (fun hc1 => absurd hc1 (by omega)) (fun hc1 => ?_)
        refine z_aload_n d_X2_clashes_44 rfl rfl ?_
        refine z_getf (v := qR (p + 1)) d_X2_clashes_45 fl_X2_9 (xput_ob (c := (F p)) (pgx_in hp2 hp) rfl (xsh_2 hp)) rfl ?_
        refine z_iload d_X2_clashes_48 rfl ?_
        refine z_ild o d_X2_clashes_50 (xput_ar (g := (G (p + 1))) (pgx_1 hp2 hp) rfl) rfl (by omega) ?_
        refine z_iload_n d_X2_clashes_51 rfl rfl ?_
        refine z_ishr d_X2_clashes_52 ?_
        refine z_aload_n d_X2_clashes_53 rfl rfl ?_
        refine z_getf (v := qR (q + 1)) d_X2_clashes_54 fl_X2_9 (xput_ob (c := (F q)) (pgx_in hq2 hq) rfl (xsh_2 hq)) rfl ?_
        refine z_iload d_X2_clashes_57 rfl ?_
        refine z_ild o d_X2_clashes_59 (xput_ar (g := (G (q + 1))) (pgx_1 hq2 hq) rfl) rfl (by omega) ?_
        refine z_iload_n d_X2_clashes_60 rfl rfl ?_
        refine z_ishr d_X2_clashes_61 ?_
        refine z_iand d_X2_clashes_62 ?_
        refine z_iconst d_X2_clashes_63 (by decide) ?_
        refine z_iand d_X2_clashes_64 ?_
        suffices kJ65 : qEx M_X2_clashes 73 [qR p, qI (i : Int), qR q, qI (j : Int), qI (o : Int), qU] [qI (qb ((qAnd (qAnd (qShr ((G (p + 1)) o) (i : Int)) (qShr ((G (q + 1)) o) (j : Int))) 1) ≠ 0))] (xput h F G) r hr by
          refine z_if_eq 72 d_X2_clashes_65 (by decide) (fun hc2 => ?_) (fun hc2 => ?_)
          · refine z_iconst d_X2_clashes_72 (by decide) ?_
            exact z_eq rfl (qc (qi (qb_f (by omega)).symm) rfl) rfl kJ65
          · refine z_iconst d_X2_clashes_68 (by decide) ?_
            refine z_goto 73 d_X2_clashes_69 (by decide) ?_
            exact z_eq rfl (qc (qi (qb_t (by omega)).symm) rfl) rfl kJ65
        refine z_istore (ls' := [qR p, qI (i : Int), qR q, qI (j : Int), qI (o : Int), qI (qb ((qAnd (qAnd (qShr ((G (p + 1)) o) (i : Int)) (qShr ((G (q + 1)) o) (j : Int))) 1) ≠ 0))]) d_X2_clashes_73 (by decide) rfl ?_
        refine z_iload d_X2_clashes_75 rfl ?_
        refine z_ifeqB 99 d_X2_clashes_77 (by decide) (fun q3 => ?_) (fun q3 => ?_)
        · refine z_iinc (ls' := [qR p, qI (i : Int), qR q, qI (j : Int), qI ((o : Int) + 1), qI (qb ((qAnd (qAnd (qShr ((G (p + 1)) o) (i : Int)) (qShr ((G (q + 1)) o) (j : Int))) 1) ≠ 0))]) d_X2_clashes_99 rfl (by decide) (by omega) rfl ?_
          refine z_goto 37 d_X2_clashes_102 (by decide) ?_
          exact z_dr (qle_k rfl (qle_k rfl (qle_k rfl (qle_k rfl (qle_k (qi (by omega)) (qle_d qle_n)))))) rfl rfl (kko (q_lts hp9 (fun z => q3 ((own_2 hR hS hi hj (by omega)).mpr z.1))))
        · refine z_aload_n d_X2_clashes_80 rfl rfl ?_
          refine z_iload_n d_X2_clashes_81 rfl rfl ?_
          refine z_iload d_X2_clashes_82 rfl ?_
          refine z_cv (M1 := M_X2_mindBy) d_X2_clashes_84 lv_X2_54 k_X2_mindBy [qI (i : Int), qI (o : Int)] rfl rfl (xput_ob (c := (F p)) (pgx_in hp2 hp) rfl (xsh_2 hp)) ⟨_, _, rfl⟩ (Nat.le_of_ble_eq_true rfl) (by decide) (by decide) (Nat.le_of_ble_eq_true rfl) (c_pgMind i (o : Int) hp2 hp hR hi) ?_
          refine z_aload_n d_X2_clashes_87 rfl rfl ?_
          refine z_iload_n d_X2_clashes_88 rfl rfl ?_
          refine z_iload d_X2_clashes_89 rfl ?_
          refine z_cv (M1 := M_X2_mindBy) d_X2_clashes_91 lv_X2_54 k_X2_mindBy [qI (j : Int), qI (o : Int)] rfl rfl (xput_ob (c := (F q)) (pgx_in hq2 hq) rfl (xsh_2 hq)) ⟨_, _, rfl⟩ (Nat.le_of_ble_eq_true rfl) (by decide) (by decide) (Nat.le_of_ble_eq_true rfl) (c_pgMind j (o : Int) hq2 hq hS hj) ?_
          refine z_icmp_eq 99 d_X2_clashes_94 (by decide) (fun q4 => ?_) (fun q4 => ?_)
          · refine z_iinc (ls' := [qR p, qI (i : Int), qR q, qI (j : Int), qI ((o : Int) + 1), qI (qb ((qAnd (qAnd (qShr ((G (p + 1)) o) (i : Int)) (qShr ((G (q + 1)) o) (j : Int))) 1) ≠ 0))]) d_X2_clashes_99 rfl (by decide) (by omega) rfl ?_
            refine z_goto 37 d_X2_clashes_102 (by decide) ?_
            exact z_dr (qle_k rfl (qle_k rfl (qle_k rfl (qle_k rfl (qle_k (qi (by omega)) (qle_d qle_n)))))) rfl rfl (kko (q_lts hp9 (fun z => z.2 q4)))
          · refine z_iconst d_X2_clashes_97 (by decide) ?_
            exact z_zret d_X2_clashes_98 rfl (by first | exact qb_01 _ | decide | omega) (qer er (qb_t ⟨(shP_2 hR hS hi hj).mp q1, (shP_3 hR hS hi hj).mp q2, o, hio, (own_2 hR hS hi hj (by omega)).mp q3, q4⟩)) eh
      · show qEx M_X2_clashes 37 [qR p, qI (i : Int), qR q, qI (j : Int), qI (7 : Int), qU] [] (xput h F G) r hr
        refine z_iload d_X2_clashes_37 rfl ?_
        refine z_bipush d_X2_clashes_39 (by decide) ?_
        refine z_icmp_ge 105 d_X2_clashes_41 (by decide) (fun hc3 => ?_) (fun hc3 => absurd hc3 (by omega))
        refine z_iconst d_X2_clashes_105 (by decide) ?_
        exact z_zret d_X2_clashes_106 rfl (by first | exact qb_01 _ | decide | omega) (qer er (qb_f (fun z => z.2.2.elim (fun o ho => hp9 o ho.1 ho.2)))) eh
    · refine z_iconst d_X2_clashes_32 (by decide) ?_
      exact z_zret d_X2_clashes_33 rfl (by first | exact qb_01 _ | decide | omega) (qer er (qb_f (fun z => q2 ((shP_3 hR hS hi hj).mpr z.2.1)))) eh
