/-! ===== CONTRACTS: the reference: below, trees, alike ===== -/
theorem qif_cast {P : Prop} {a b : Nat} : ((qif P a b : Nat) : Int) = qif P (a : Int) (b : Int) := by
  by_cases h : P
  · rw [qif_t h, qif_t h]
  · rw [qif_f h, qif_f h]
/-- the greatest MIND of those below k, A who is above each -/
noncomputable def blF (A M : Nat → Int) (k : Int) : Nat → Int
  | 0 => -1
  | i + 1 => qif (A i ≠ k) (blF A M k i) (if blF A M k i > M i then blF A M k i else M i)
noncomputable def bel (A M : Nat → Int) (k : Int) (n : Nat) : Int := qif (blF A M k n ≠ -1) (blF A M k n) 8
theorem blF_bd {A M : Nat → Int} {k : Int} : ∀ {n : Nat}, (∀ i, i < n → 0 ≤ M i ∧ M i ≤ 7) → -1 ≤ blF A M k n ∧ blF A M k n ≤ 7
  | 0, _ => by show -1 ≤ (-1 : Int) ∧ (-1 : Int) ≤ 7; omega
  | n + 1, h => by
    have h1 := blF_bd (A := A) (k := k) (n := n) (fun i hi => h i (by omega))
    have h2 := h n (by omega)
    show -1 ≤ qif (A n ≠ k) _ _ ∧ qif (A n ≠ k) _ _ ≤ 7
    refine qif_or (fun z => -1 ≤ z ∧ z ≤ (7 : Int)) h1 ?_
    split <;> omega
theorem bel_bd {A M : Nat → Int} {k : Int} {n : Nat} (h : ∀ i, i < n → 0 ≤ M i ∧ M i ≤ 7) : 0 ≤ bel A M k n ∧ bel A M k n ≤ 8 := by
  have h1 := blF_bd (A := A) (k := k) h
  unfold bel
  by_cases e : blF A M k n = -1
  · rw [qif_f (fun z => z e)]; omega
  · rw [qif_t e]; omega
theorem blF_cg {A B M N : Nat → Int} {k : Int} : ∀ {n : Nat}, (∀ i, i < n → A i = B i) → (∀ i, i < n → M i = N i) → blF A M k n = blF B N k n
  | 0, _, _ => rfl
  | n + 1, h, h2 => by
    show qif (A n ≠ k) _ _ = qif (B n ≠ k) _ _
    rw [h n (by omega), h2 n (by omega), blF_cg (fun i hi => h i (by omega)) (fun i hi => h2 i (by omega))]
theorem bel_cg {A B M N : Nat → Int} {k : Int} {n : Nat} (h : ∀ i, i < n → A i = B i) (h2 : ∀ i, i < n → M i = N i) : bel A M k n = bel B N k n := by
  unfold bel
  rw [blF_cg h h2]
/-- how many keepers the tree has -/
noncomputable def trN (A : Nat → Int) : Nat → Nat
  | 0 => 1
  | k + 1 => qif (A k ≠ -1) (k + 1) (trN A k)
theorem trN_bd {A : Nat → Int} : ∀ k, 1 ≤ trN A k ∧ trN A k ≤ k + 1
  | 0 => by show 1 ≤ 1 ∧ 1 ≤ 0 + 1; omega
  | k + 1 => by
    have h := trN_bd (A := A) k
    show 1 ≤ qif (A k ≠ -1) _ _ ∧ qif (A k ≠ -1) _ _ ≤ k + 1 + 1
    exact qif_or (fun z => 1 ≤ z ∧ z ≤ k + 1 + 1) (by omega) (by omega)
theorem trN_16 {A : Nat → Int} (h0 : A 0 = -1) : ∀ k, 1 ≤ k → trN A k ≤ k
  | 0, h => absurd h (by omega)
  | k + 1, _ => by
    have h := trN_bd (A := A) k
    show qif (A k ≠ -1) _ _ ≤ k + 1
    exact qif_or (fun z => z ≤ k + 1) (by omega) (by omega)
/-- a breath on a tree -/
noncomputable def tsL (A M : Nat → Int) (i : Nat) : Int := qif (A i ≠ -1) (M (A i).toNat) 8
noncomputable def tsC (A : Nat → Int) (n : Nat) (M : Nat → Int) (i : Nat) : Int := 81 * M i + 9 * tsL A M i + bel A M (i : Int) n
noncomputable def tst (T A : Nat → Int) (n : Nat) (M : Nat → Int) (i : Nat) : Int := T (tsC A n M i).toNat
def trA (A : Nat → Int) : Prop := ∀ k, k < 16 → -1 ≤ A k ∧ A k < k
theorem tsL_bd {A M : Nat → Int} {n i : Nat} (hA : trA A) (hn : n ≤ 16) (hi : i < n) (hM : ∀ i, i < n → 0 ≤ M i ∧ M i ≤ 7) : 0 ≤ tsL A M i ∧ tsL A M i ≤ 8 := by
  have h1 := hA i (by omega)
  unfold tsL
  by_cases e : A i = -1
  · rw [qif_f (fun z => z e)]; omega
  · rw [qif_t e]
    have h2 := hM (A i).toNat (by omega)
    omega
theorem tsC_bd {A M : Nat → Int} {n i : Nat} (hA : trA A) (hn : n ≤ 16) (hi : i < n) (hM : ∀ i, i < n → 0 ≤ M i ∧ M i ≤ 7) : 0 ≤ tsC A n M i ∧ tsC A n M i < 648 := by
  have h1 := tsL_bd hA hn hi hM
  have h2 := bel_bd (A := A) (k := (i : Int)) hM
  have h3 := hM i hi
  unfold tsC
  omega
theorem tsL_cg {A M N : Nat → Int} {n i : Nat} (hA : trA A) (hn : n ≤ 16) (hi : i < n) (h : ∀ i, i < n → M i = N i) : tsL A M i = tsL A N i := by
  have h1 := hA i (by omega)
  unfold tsL
  by_cases e : A i = -1
  · rw [qif_f (fun z => z e), qif_f (fun z => z e)]
  · rw [qif_t e, qif_t e, h (A i).toNat (by omega)]
theorem tsC_cg {A M N : Nat → Int} {n i : Nat} (hA : trA A) (hn : n ≤ 16) (hi : i < n) (h : ∀ i, i < n → M i = N i) : tsC A n M i = tsC A n N i := by
  unfold tsC
  rw [tsL_cg hA hn hi h, bel_cg (fun _ _ => rfl) h, h i hi]
noncomputable def tps (T A : Nat → Int) (n : Nat) : Nat → Nat → Int
  | 0 => fun k => qb ((k : Int) = 0)
  | t + 1 => tst T A n (tps T A n t)
theorem tps_bd {T A : Nat → Int} {n : Nat} (hT : ∀ c, c < 648 → 0 ≤ T c ∧ T c ≤ 7) (hA : trA A) (hn : n ≤ 16) : ∀ (t k : Nat), k < n → 0 ≤ tps T A n t k ∧ tps T A n t k ≤ 7
  | 0, k, _ => by
    have := qb_bd ((k : Int) = 0)
    show 0 ≤ qb _ ∧ qb _ ≤ (7 : Int)
    omega
  | t + 1, k, hk => by
    have h := tsC_bd hA hn hk (tps_bd hT hA hn t)
    exact hT _ (by omega)
noncomputable def trV (T A : Nat → Int) (n : Nat) : Nat → Int
  | 0 => -1
  | i + 1 => qif (cnt (fun k => tps T A n (i + 1) k = 7) n ≤ 0) (-1) ((i : Int) + 1)
noncomputable def trJ (T A : Nat → Int) (n : Nat) : Nat := utl (fun j => j ≥ 3 * n + 20 ∨ trV T A n j ≠ -1) (3 * n + 20)
set_option maxRecDepth 20000 in
set_option maxHeartbeats 4000000 in
theorem c_below {h : qH} {m : Nat} {f : Nat → Int} {g : Nat → Nat → Int} {n : Nat} (k : Int) (hm : 2 ≤ m) (hn : n ≤ 16) : qEx M_X12_below 0 [qR m, qI k, qI (n : Int), qU, qU] [] (rput h m f g) (some (qI (bel (g 9) (g 28) k n))) (rput h m f g) := by
  refine q_gen (fun r hr er eh => ?_)
  refine z_iconst d_X12_below_0 (by decide) ?_
  refine z_istore_n (ls' := [qR m, qI k, qI (n : Int), qI (-1), qU]) d_X12_below_1 rfl (by decide) rfl ?_
  refine z_iconst d_X12_below_2 (by decide) ?_
  refine z_istore (ls' := [qR m, qI k, qI (n : Int), qI (-1), qI 0]) d_X12_below_3 (by decide) rfl ?_
  refine z_eq (qc rfl (qc rfl (qc rfl (qc (qi (rfl)) (qc (qi (by omega)) rfl))))) rfl rfl (z_for n (fun i => [qR m, qI k, qI (n : Int), qI (blF (g 9) (g 28) k i), qI (i : Int)]) (fun i => (rput h m f g)) (fun i => True) trivial (fun i hii hp kki => ?_) (fun hp => ?_))
  · show qEx M_X12_below 5 [qR m, qI k, qI (n : Int), qI (blF (g 9) (g 28) k i), qI (i : Int)] [] (rput h m f g) r hr
    refine z_iload d_X12_below_5 rfl ?_
    refine z_iload_n d_X12_below_7 rfl rfl ?_
    refine z_icmp_ge 44 d_X12_below_8 (by decide) (fun hc1 => absurd hc1 (by omega)) (fun hc1 => ?_)
    refine z_aload_n d_X12_below_11 rfl rfl ?_
    refine z_getf (v := qR (m + 9)) d_X12_below_12 fl_X12_38 rput_o rfl ?_
    refine z_iload d_X12_below_15 rfl ?_
    refine z_ild i d_X12_below_17 (rput_a2 9 (t := 0) (n := 16) (F := (g 9)) rfl rfl rfl (by decide) (by decide)) rfl (by omega) ?_
    refine z_iload_n d_X12_below_18 rfl rfl ?_
    suffices kJ19 : qEx M_X12_below 37 [qR m, qI k, qI (n : Int), qI (blF (g 9) (g 28) k i), qI (i : Int)] [qI (qif (((g 9) i) ≠ k) (blF (g 9) (g 28) k i) (if (blF (g 9) (g 28) k i) > ((g 28) i) then (blF (g 9) (g 28) k i) else ((g 28) i)))] (rput h m f g) r hr by
      refine z_icmp_ne 36 d_X12_below_19 (by decide) (fun hc2 => ?_) (fun hc2 => ?_)
      · refine z_iload_n d_X12_below_36 rfl rfl ?_
        exact z_eq rfl (qc (qi (qif_t hc2).symm) rfl) rfl kJ19
      · refine z_iload_n d_X12_below_22 rfl rfl ?_
        refine z_aload_n d_X12_below_23 rfl rfl ?_
        refine z_getf (v := qR (m + 28)) d_X12_below_24 fl_X12_95 rput_o rfl ?_
        refine z_iload d_X12_below_27 rfl ?_
        refine z_ild i d_X12_below_29 (rput_a2 28 (t := 0) (n := 32) (F := (g 28)) rfl rfl rfl (by decide) (by decide)) rfl (by omega) ?_
        refine z_cs (M1 := M_X12_more2) d_X12_below_30 ls_X12_372 k_X12_more2 [qI (blF (g 9) (g 28) k i), qI ((g 28) i)] rfl rfl (Nat.le_of_ble_eq_true rfl) (by decide) (by decide) (Nat.le_of_ble_eq_true rfl) (c_more2 (blF (g 9) (g 28) k i) ((g 28) i)) ?_
        refine z_goto 37 d_X12_below_33 (by decide) ?_
        exact z_eq rfl (qc (qi (qif_f hc2).symm) rfl) rfl kJ19
    refine z_istore_n (ls' := [qR m, qI k, qI (n : Int), qI (qif (((g 9) i) ≠ k) (blF (g 9) (g 28) k i) (if (blF (g 9) (g 28) k i) > ((g 28) i) then (blF (g 9) (g 28) k i) else ((g 28) i))), qI (i : Int)]) d_X12_below_37 rfl (by decide) rfl ?_
    refine z_iinc (ls' := [qR m, qI k, qI (n : Int), qI (qif (((g 9) i) ≠ k) (blF (g 9) (g 28) k i) (if (blF (g 9) (g 28) k i) > ((g 28) i) then (blF (g 9) (g 28) k i) else ((g 28) i))), qI ((i : Int) + 1)]) d_X12_below_38 rfl (by decide) (by omega) rfl ?_
    refine z_goto 5 d_X12_below_41 (by decide) ?_
    exact z_eq (qc rfl (qc rfl (qc rfl (qc (qi (rfl)) (qc (qi (by omega)) rfl))))) rfl rfl (kki trivial)
  · show qEx M_X12_below 5 [qR m, qI k, qI (n : Int), qI (blF (g 9) (g 28) k n), qI (n : Int)] [] (rput h m f g) r hr
    refine z_iload d_X12_below_5 rfl ?_
    refine z_iload_n d_X12_below_7 rfl rfl ?_
    refine z_icmp_ge 44 d_X12_below_8 (by decide) (fun hc3 => ?_) (fun hc3 => absurd hc3 (by omega))
    refine z_iload_n d_X12_below_44 rfl rfl ?_
    refine z_iconst d_X12_below_45 (by decide) ?_
    suffices kJ46 : qEx M_X12_below 55 [qR m, qI k, qI (n : Int), qI (blF (g 9) (g 28) k n), qI (n : Int)] [qI (qif ((blF (g 9) (g 28) k n) ≠ (-1)) (blF (g 9) (g 28) k n) 8)] (rput h m f g) r hr by
      refine z_icmp_ne 54 d_X12_below_46 (by decide) (fun hc4 => ?_) (fun hc4 => ?_)
      · refine z_iload_n d_X12_below_54 rfl rfl ?_
        exact z_eq rfl (qc (qi (qif_t hc4).symm) rfl) rfl kJ46
      · refine z_bipush d_X12_below_49 (by decide) ?_
        refine z_goto 55 d_X12_below_51 (by decide) ?_
        exact z_eq rfl (qc (qi (qif_f hc4).symm) rfl) rfl kJ46
    exact z_iret d_X12_below_55 rfl er eh
theorem y_below {h : qH} {m : Nat} {f : Nat → Int} {g : Nat → Nat → Int} {n : Nat} (k : Int) (A M : Nat → Int) (hm : 2 ≤ m) (hn : n ≤ 16) (hA : g 9 = A) (hM : ∀ i, i < n → g 28 i = M i) : qEx M_X12_below 0 [qR m, qI k, qI n, qU, qU] [] (rput h m f g) (some (qI (bel A M k n))) (rput h m f g) := by
  subst hA
  rw [← bel_cg (fun _ _ => rfl) hM]
  exact c_below k hm hn
set_option maxRecDepth 20000 in
set_option maxHeartbeats 1000000 in
theorem c_trees {h : qH} {m : Nat} {f : Nat → Int} {g : Nat → Nat → Int} (what : Int) (hm : 2 ≤ m) (h0 : f 0 = 0) (hw : 0 ≤ what ∧ what ≤ 2) (hA : trA (g 9)) (hO : bkOk (g 2) (g 5)) : ∃ g', (sq g g') ∧ qEx M_X12_trees 0 [qR m, qI what, qU, qU, qU, qU] [] (rput h m f g) (some (qI (qif (what ≠ 0) (qif (what ≠ 1) (fst (fun k => ¬ tps (ownT g) (g 9) (trN (g 9) 16) (trJ (ownT g) (g 9) (trN (g 9) 16)) k = 7) (trN (g 9) 16)) (cnt (fun k => tps (ownT g) (g 9) (trN (g 9) 16) (trJ (ownT g) (g 9) (trN (g 9) 16)) k = 7) (trN (g 9) 16))) (trV (ownT g) (g 9) (trN (g 9) 16) (trJ (ownT g) (g 9) (trN (g 9) 16)))))) (rput h m f g') := by
  refine y_in (fun Q hQ => ?_)
  have hOB := ownT_bd hO
  obtain ⟨n, hnd⟩ : ∃ n, n = (trN (g 9) 16) := ⟨_, rfl⟩
  have hn : 1 ≤ n ∧ n ≤ 16 := by rw [hnd]; exact ⟨(trN_bd 16).1, trN_16 (by have := hA 0 (by omega); omega) 16 (by omega)⟩
  rw [← hnd] at hQ
  refine qy (fun _ _ k9 => z_aload_n d_X12_trees_0 rfl rfl k9) ?_
  refine qy (fun _ _ k9 => z_iconst d_X12_trees_1 (by decide) k9) ?_
  refine qy (fun _ _ k9 => z_putf (fs' := [qI 0, qI (f 1), qI (f 2), qI (f 3), qI (f 4), qI (f 5), qI (f 6), qI (f 7), qR (m + 1), qR (m + 2), qR (m + 3), qR (m + 4), qR (m + 5), qR (m + 6), qR (m + 7), qR (m + 8), qR (m + 9), qR (m + 10), qI (f 18), qI (f 19), qI (f 20), qR (m + 11), qR (m + 12), qR (m + 13), qR (m + 14), qI (f 25), qR (m + 15), qI (f 27), qR (m + 16), qR (m + 17), qR (m + 18), qR (m + 19), qR (m + 20), qR (m + 21), qR (m + 22), qR (m + 23), qR (m + 24), qI (f 37), qI (f 38), qI (f 39), qI (f 40), qR (m + 25), qR (m + 26), qR (m + 27), qR (m + 28), qR (m + 29), qR (m + 30), qR (m + 31), qI (f 48), qR (m + 32), qR (m + 33), qR (m + 34), qR (m + 35), qR (m + 36), qR (m + 37)]) d_X12_trees_2 fp_X12_127 rput_o (fun _ => rfl) (fun _ => rfl) (Nat.le_of_ble_eq_true rfl) rfl k9) ?_
  refine qy (fun _ _ k9 => z_eq rfl rfl ((rput_sf (f' := qup f 0 0) rfl).trans (rput_cg (qup_self h0) rfl)) k9) ?_
  refine qy (fun _ _ k9 => z_iload_n d_X12_trees_5 rfl rfl k9) ?_
  refine qy (fun _ _ k9 => z_iconst d_X12_trees_6 (by decide) k9) ?_
  refine qy (fun _ _ k9 => z_iconst d_X12_trees_7 (by decide) k9) ?_
  refine qy (fun _ _ k9 => z_cs (M1 := M_X12_in) d_X12_trees_8 ls_X12_137 k_X12_in [qI what, qI 0, qI 2] rfl rfl (Nat.le_of_ble_eq_true rfl) (by decide) (by decide) (Nat.le_of_ble_eq_true rfl) (c_in what 0 2) k9) ?_
  refine qy2 (fun _ _ => z_ifneB 16 d_X12_trees_11 (by decide)) (fun hc1 => ?_) (fun hc1 => absurd hc1 (by omega))
  refine qy (fun _ _ k9 => z_aload_n d_X12_trees_16 rfl rfl k9) ?_
  obtain ⟨y1, ⟨hlf, hlT, hlF⟩, hx1⟩ := y_laysOwn hm
  refine qy (fun _ _ k9 => z_cv0 (M1 := M_X12_laysOwn) d_X12_trees_17 lv_X12_275 k_X12_laysOwn [] rfl rfl rput_o ⟨_, _, rfl⟩ (Nat.le_of_ble_eq_true rfl) (by decide) (by decide) (Nat.le_of_ble_eq_true rfl) hx1 k9) ?_
  refine qy (fun _ _ k9 => z_iconst d_X12_trees_20 (by decide) k9) ?_
  refine qy (fun _ _ k9 => z_istore_n (ls' := [qR m, qI what, qI 1, qU, qU, qU]) d_X12_trees_21 rfl (by decide) rfl k9) ?_
  refine qy (fun _ _ k9 => z_iconst d_X12_trees_22 (by decide) k9) ?_
  refine qy (fun _ _ k9 => z_istore_n (ls' := [qR m, qI what, qI 1, qI (-1), qU, qU]) d_X12_trees_23 rfl (by decide) rfl k9) ?_
  refine qy (fun _ _ k9 => z_iconst d_X12_trees_24 (by decide) k9) ?_
  refine qy (fun _ _ k9 => z_istore (ls' := [qR m, qI what, qI 1, qI (-1), qI 0, qU]) d_X12_trees_25 (by decide) rfl k9) ?_
  refine qy (fun _ _ k9 => z_eq (qc rfl (qc rfl (qc (qi (rfl)) (qc rfl (qc (qi (by omega)) (qc rfl rfl)))))) rfl rfl k9) (y_wh1 (fun (i : Nat) => 16 - i) (fun (i : Nat) => [qR m, qI what, qI (((trN (g 9) i) : Nat) : Int), qI (-1), qI (i : Int), qU]) (fun (i : Nat) => (rput h m f y1)) (fun (i : Nat) => i ≤ 16) 0 (Nat.zero_le 16) (fun i hi kk => ?_))
  show qEy M_X12_trees 27 [qR m, qI what, qI (((trN (g 9) i) : Nat) : Int), qI (-1), qI (i : Int), qU] [] (rput h m f y1) Q
  refine qy (fun _ _ k9 => z_iload d_X12_trees_27 rfl k9) ?_
  refine qy (fun _ _ k9 => z_bipush d_X12_trees_29 (by decide) k9) ?_
  refine qy2 (fun _ _ => z_icmp_ge 60 d_X12_trees_31 (by decide)) (fun hc2 => ?_) (fun hc2 => ?_)
  · refine qy (fun _ _ k9 => z_eq (qc rfl (qc rfl (qc (qi (show (((trN (g 9) i) : Nat) : Int) = (n : Int) from by rw [show i = 16 by omega, ← hnd])) rfl))) rfl rfl k9) ?_
    refine qy (fun _ _ k9 => z_aload_n d_X12_trees_60 rfl rfl k9) ?_
    refine qy (fun _ _ k9 => z_getf (v := qR (m + 28)) d_X12_trees_61 fl_X12_95 rput_o rfl k9) ?_
    refine qy (fun _ _ k9 => z_iload_n d_X12_trees_64 rfl rfl k9) ?_
    refine qy (fun _ _ k9 => z_iconst d_X12_trees_65 (by decide) k9) ?_
    refine qy (fun _ _ k9 => z_cs0 (M1 := M_X12_begins) d_X12_trees_66 ls_X12_329 k_X12_begins [qR (m + 28), qI (n : Int), qI 0] rfl rfl (Nat.le_of_ble_eq_true rfl) (by decide) (by decide) (Nat.le_of_ble_eq_true rfl) (c_begins n 0 (rput_a2 28 (t := 0) (n := 32) (F := (y1 28)) rfl rfl rfl (by decide) (by decide)) (by omega) (by omega) (by decide)) k9) ?_
    refine qy (fun _ _ k9 => z_eq rfl rfl (rput_sa 28 rfl rfl (by decide) (by decide)) k9) ?_
    refine qy (fun _ _ k9 => z_iconst d_X12_trees_69 (by decide) k9) ?_
    refine qy (fun _ _ k9 => z_istore (ls' := [qR m, qI what, qI (n : Int), qI (-1), qI 1, qU]) d_X12_trees_70 (by decide) rfl k9) ?_
    refine qy (fun _ _ k9 => z_eq (qc rfl (qc rfl (qc rfl (qc (qi (rfl)) (qc (qi (by omega)) (qc rfl rfl)))))) rfl rfl k9) (y_wh2 (fun (i : Nat) (x : Nat → Nat → Int) => 3 * n + 20 - i) (fun (i : Nat) (x : Nat → Nat → Int) => [qR m, qI what, qI (n : Int), qI (trV (ownT g) (g 9) n i), qI ((i : Nat) + 1 : Int), qU]) (fun (i : Nat) (x : Nat → Nat → Int) => (rput h m f x)) (fun (i : Nat) (x : Nat → Nat → Int) => i ≤ 3 * n + 20 ∧ sq g x ∧ (∀ c, c < 648 → x 25 c = (ownT g) c) ∧ (∀ k, k < n → x 28 k = (tps (ownT g) (g 9) n i) k) ∧ ∀ k, k < i → trV (ownT g) (g 9) n k = -1) 0 (gup y1 28 (qmx n (fun q9 => qb ((q9 : Int) = 0)) (y1 28))) (⟨by omega, (sq_up (sq_fr hlf (by decide)) (by decide)), hlT, fun k hk => (show qmx n (fun q9 : Nat => qb ((q9 : Int) = 0)) (y1 28) k = _ from qmx_lt hk), fun k hk => absurd hk (by omega)⟩) (fun i x hp kk => ?_))
    obtain ⟨hi, hs, hT, hF, hL⟩ := hp
    show qEy M_X12_trees 72 [qR m, qI what, qI (n : Int), qI (trV (ownT g) (g 9) n i), qI ((i : Nat) + 1 : Int), qU] [] (rput h m f x) Q
    refine qy (fun _ _ k9 => z_iload d_X12_trees_72 rfl k9) ?_
    refine qy (fun _ _ k9 => z_iload_n d_X12_trees_74 rfl rfl k9) ?_
    refine qy (fun _ _ k9 => z_cs (M1 := M_X12_longest) d_X12_trees_75 ls_X12_333 k_X12_longest [qI (n : Int)] rfl rfl (Nat.le_of_ble_eq_true rfl) (by decide) (by decide) (Nat.le_of_ble_eq_true rfl) (c_longest (n : Int) (by omega)) k9) ?_
    refine qy2 (fun _ _ => z_icmp_gt 211 d_X12_trees_78 (by decide)) (fun hk9 => ?_) (fun hk9 => ?_)
    · have hJ9 : trJ (ownT g) (g 9) n = i := utl_at (by omega) (fun k hk z9 => z9.elim (fun q => by omega) (fun q => q (hL k hk))) (by first | exact Or.inl (by omega) | exact Or.inr (by assumption))
      refine qy (fun _ _ k9 => z_iload_n d_X12_trees_211 rfl rfl k9) ?_
      suffices kJ212 : qEy M_X12_trees 244 [qR m, qI what, qI (n : Int), qI (trV (ownT g) (g 9) n i), qI ((i : Nat) + 1 : Int), qU] [qI (qif (what ≠ 0) (qif (what ≠ 1) (fst (fun q9 => ¬ (x 28) q9 = 7) n) (cnt (fun q9 => (x 28) q9 = 7) n)) (trV (ownT g) (g 9) n i))] (rput h m f x) Q by
        refine qy2 (fun _ _ => z_if_ne 219 d_X12_trees_212 (by decide)) (fun hc3 => ?_) (fun hc3 => ?_)
        · refine qy (fun _ _ k9 => z_iload_n d_X12_trees_219 rfl rfl k9) ?_
          refine qy (fun _ _ k9 => z_iconst d_X12_trees_220 (by decide) k9) ?_
          suffices kJ221 : qEy M_X12_trees 244 [qR m, qI what, qI (n : Int), qI (trV (ownT g) (g 9) n i), qI ((i : Nat) + 1 : Int), qU] [qI (qif (what ≠ 1) (fst (fun q9 => ¬ (x 28) q9 = 7) n) (cnt (fun q9 => (x 28) q9 = 7) n))] (rput h m f x) Q by
            refine qy2 (fun _ _ => z_icmp_ne 235 d_X12_trees_221 (by decide)) (fun hc4 => ?_) (fun hc4 => ?_)
            · refine qy (fun _ _ k9 => z_aload_n d_X12_trees_235 rfl rfl k9) ?_
              refine qy (fun _ _ k9 => z_getf (v := qR (m + 28)) d_X12_trees_236 fl_X12_95 rput_o rfl k9) ?_
              refine qy (fun _ _ k9 => z_iload_n d_X12_trees_239 rfl rfl k9) ?_
              refine qy (fun _ _ k9 => z_iconst d_X12_trees_240 (by decide) k9) ?_
              refine qy (fun _ _ k9 => z_cs (M1 := M_X12_firstOf) d_X12_trees_241 ls_X12_306 k_X12_firstOf [qR (m + 28), qI (n : Int), qI 0] rfl rfl (Nat.le_of_ble_eq_true rfl) (by decide) (by decide) (Nat.le_of_ble_eq_true rfl) (c_firstDark n (rput_a2 28 (t := 0) (n := 32) (F := (x 28)) rfl rfl rfl (by decide) (by decide)) (by omega) (by decide)) k9) ?_
              exact qy (fun _ _ k9 => z_eq rfl (qc (qi (qif_t hc4).symm) rfl) rfl k9) kJ221
            · refine qy (fun _ _ k9 => z_aload_n d_X12_trees_224 rfl rfl k9) ?_
              refine qy (fun _ _ k9 => z_getf (v := qR (m + 28)) d_X12_trees_225 fl_X12_95 rput_o rfl k9) ?_
              refine qy (fun _ _ k9 => z_iload_n d_X12_trees_228 rfl rfl k9) ?_
              refine qy (fun _ _ k9 => z_cs (M1 := M_X12_litIn) d_X12_trees_229 ls_X12_302 k_X12_litIn [qR (m + 28), qI (n : Int)] rfl rfl (Nat.le_of_ble_eq_true rfl) (by decide) (by decide) (Nat.le_of_ble_eq_true rfl) (c_litIn n (rput_a2 28 (t := 0) (n := 32) (F := (x 28)) rfl rfl rfl (by decide) (by decide)) (by omega) (by decide)) k9) ?_
              refine qy (fun _ _ k9 => z_goto 244 d_X12_trees_232 (by decide) k9) ?_
              exact qy (fun _ _ k9 => z_eq rfl (qc (qi (qif_f hc4).symm) rfl) rfl k9) kJ221
          exact qy (fun _ _ k9 => z_eq rfl (qc (qi (qif_t hc3).symm) rfl) rfl k9) kJ212
        · refine qy (fun _ _ k9 => z_iload_n d_X12_trees_215 rfl rfl k9) ?_
          refine qy (fun _ _ k9 => z_goto 244 d_X12_trees_216 (by decide) k9) ?_
          exact qy (fun _ _ k9 => z_eq rfl (qc (qi (qif_f hc3).symm) rfl) rfl k9) kJ212
      exact y_ret (hQ x hs) (z_iret d_X12_trees_244 rfl (qsi (by rw [hJ9]; exact qif_cg Iff.rfl (qif_cg Iff.rfl (fst_congr (fun k hk => by rw [hF k hk])) (cnt_congr (fun k hk => by rw [hF k hk]))) rfl)) rfl)
    · refine qy (fun _ _ k9 => z_iload_n d_X12_trees_81 rfl rfl k9) ?_
      refine qy (fun _ _ k9 => z_iconst d_X12_trees_82 (by decide) k9) ?_
      refine qy2 (fun _ _ => z_icmp_ne 211 d_X12_trees_83 (by decide)) (fun hv9 => ?_) (fun hv9 => ?_)
      · have hJ9 : trJ (ownT g) (g 9) n = i := utl_at (by omega) (fun k hk z9 => z9.elim (fun q => by omega) (fun q => q (hL k hk))) (by first | exact Or.inl (by omega) | exact Or.inr (by assumption))
        refine qy (fun _ _ k9 => z_iload_n d_X12_trees_211 rfl rfl k9) ?_
        suffices kJ212 : qEy M_X12_trees 244 [qR m, qI what, qI (n : Int), qI (trV (ownT g) (g 9) n i), qI ((i : Nat) + 1 : Int), qU] [qI (qif (what ≠ 0) (qif (what ≠ 1) (fst (fun q9 => ¬ (x 28) q9 = 7) n) (cnt (fun q9 => (x 28) q9 = 7) n)) (trV (ownT g) (g 9) n i))] (rput h m f x) Q by
          refine qy2 (fun _ _ => z_if_ne 219 d_X12_trees_212 (by decide)) (fun hc5 => ?_) (fun hc5 => ?_)
          · refine qy (fun _ _ k9 => z_iload_n d_X12_trees_219 rfl rfl k9) ?_
            refine qy (fun _ _ k9 => z_iconst d_X12_trees_220 (by decide) k9) ?_
            suffices kJ221 : qEy M_X12_trees 244 [qR m, qI what, qI (n : Int), qI (trV (ownT g) (g 9) n i), qI ((i : Nat) + 1 : Int), qU] [qI (qif (what ≠ 1) (fst (fun q9 => ¬ (x 28) q9 = 7) n) (cnt (fun q9 => (x 28) q9 = 7) n))] (rput h m f x) Q by
              refine qy2 (fun _ _ => z_icmp_ne 235 d_X12_trees_221 (by decide)) (fun hc6 => ?_) (fun hc6 => ?_)
              · refine qy (fun _ _ k9 => z_aload_n d_X12_trees_235 rfl rfl k9) ?_
                refine qy (fun _ _ k9 => z_getf (v := qR (m + 28)) d_X12_trees_236 fl_X12_95 rput_o rfl k9) ?_
                refine qy (fun _ _ k9 => z_iload_n d_X12_trees_239 rfl rfl k9) ?_
                refine qy (fun _ _ k9 => z_iconst d_X12_trees_240 (by decide) k9) ?_
                refine qy (fun _ _ k9 => z_cs (M1 := M_X12_firstOf) d_X12_trees_241 ls_X12_306 k_X12_firstOf [qR (m + 28), qI (n : Int), qI 0] rfl rfl (Nat.le_of_ble_eq_true rfl) (by decide) (by decide) (Nat.le_of_ble_eq_true rfl) (c_firstDark n (rput_a2 28 (t := 0) (n := 32) (F := (x 28)) rfl rfl rfl (by decide) (by decide)) (by omega) (by decide)) k9) ?_
                exact qy (fun _ _ k9 => z_eq rfl (qc (qi (qif_t hc6).symm) rfl) rfl k9) kJ221
              · refine qy (fun _ _ k9 => z_aload_n d_X12_trees_224 rfl rfl k9) ?_
                refine qy (fun _ _ k9 => z_getf (v := qR (m + 28)) d_X12_trees_225 fl_X12_95 rput_o rfl k9) ?_
                refine qy (fun _ _ k9 => z_iload_n d_X12_trees_228 rfl rfl k9) ?_
                refine qy (fun _ _ k9 => z_cs (M1 := M_X12_litIn) d_X12_trees_229 ls_X12_302 k_X12_litIn [qR (m + 28), qI (n : Int)] rfl rfl (Nat.le_of_ble_eq_true rfl) (by decide) (by decide) (Nat.le_of_ble_eq_true rfl) (c_litIn n (rput_a2 28 (t := 0) (n := 32) (F := (x 28)) rfl rfl rfl (by decide) (by decide)) (by omega) (by decide)) k9) ?_
                refine qy (fun _ _ k9 => z_goto 244 d_X12_trees_232 (by decide) k9) ?_
                exact qy (fun _ _ k9 => z_eq rfl (qc (qi (qif_f hc6).symm) rfl) rfl k9) kJ221
            exact qy (fun _ _ k9 => z_eq rfl (qc (qi (qif_t hc5).symm) rfl) rfl k9) kJ212
          · refine qy (fun _ _ k9 => z_iload_n d_X12_trees_215 rfl rfl k9) ?_
            refine qy (fun _ _ k9 => z_goto 244 d_X12_trees_216 (by decide) k9) ?_
            exact qy (fun _ _ k9 => z_eq rfl (qc (qi (qif_f hc5).symm) rfl) rfl k9) kJ212
        exact y_ret (hQ x hs) (z_iret d_X12_trees_244 rfl (qsi (by rw [hJ9]; exact qif_cg Iff.rfl (qif_cg Iff.rfl (fst_congr (fun k hk => by rw [hF k hk])) (cnt_congr (fun k hk => by rw [hF k hk]))) rfl)) rfl)
      · refine qy (fun _ _ k9 => z_iconst d_X12_trees_86 (by decide) k9) ?_
        refine qy (fun _ _ k9 => z_istore (ls' := [qR m, qI what, qI (n : Int), qI (trV (ownT g) (g 9) n i), qI ((i : Nat) + 1 : Int), qI 0]) d_X12_trees_87 (by decide) rfl k9) ?_
        refine qy (fun _ _ k9 => z_eq (qc rfl (qc rfl (qc rfl (qc rfl (qc rfl (qc (qi (by omega)) rfl)))))) rfl rfl k9) (y_wh2 (fun (j : Nat) (z : Nat → Nat → Int) => n - j) (fun (j : Nat) (z : Nat → Nat → Int) => [qR m, qI what, qI (n : Int), qI (trV (ownT g) (g 9) n i), qI ((i : Nat) + 1 : Int), qI (j : Int)]) (fun (j : Nat) (z : Nat → Nat → Int) => (rput h m f z)) (fun (j : Nat) (z : Nat → Nat → Int) => j ≤ n ∧ sq g z ∧ (∀ c, c < 648 → z 25 c = (ownT g) c) ∧ (∀ k, k < n → z 28 k = (tps (ownT g) (g 9) n i) k) ∧ ∀ k, k < j → z 29 k = (tps (ownT g) (g 9) n (i + 1)) k) 0 x (⟨by omega, hs, hT, hF, fun k hk => absurd hk (by omega)⟩) (fun j z hpj kkj => ?_))
        obtain ⟨hj, hs2, hT2, hF2, hN2⟩ := hpj
        show qEy M_X12_trees 89 [qR m, qI what, qI (n : Int), qI (trV (ownT g) (g 9) n i), qI ((i : Nat) + 1 : Int), qI (j : Int)] [] (rput h m f z) Q
        have hA2 : z 9 = (g 9) := hs2 9 (by decide) (by decide)
        refine qy (fun _ _ k9 => z_iload d_X12_trees_89 rfl k9) ?_
        refine qy (fun _ _ k9 => z_iload_n d_X12_trees_91 rfl rfl k9) ?_
        refine qy2 (fun _ _ => z_icmp_ge 158 d_X12_trees_92 (by decide)) (fun hc7 => ?_) (fun hc7 => ?_)
        · refine qy (fun _ _ k9 => z_iconst d_X12_trees_158 (by decide) k9) ?_
          refine qy (fun _ _ k9 => z_istore (ls' := [qR m, qI what, qI (n : Int), qI (trV (ownT g) (g 9) n i), qI ((i : Nat) + 1 : Int), qI 0]) d_X12_trees_159 (by decide) rfl k9) ?_
          refine qy (fun _ _ k9 => z_eq (qc rfl (qc rfl (qc rfl (qc rfl (qc rfl (qc (qi (by omega)) rfl)))))) rfl rfl k9) (y_wh2 (fun (j3 : Nat) (z3 : Nat → Nat → Int) => n - j3) (fun (j3 : Nat) (z3 : Nat → Nat → Int) => [qR m, qI what, qI (n : Int), qI (trV (ownT g) (g 9) n i), qI ((i : Nat) + 1 : Int), qI (j3 : Int)]) (fun (j3 : Nat) (z3 : Nat → Nat → Int) => (rput h m f z3)) (fun (j3 : Nat) (z3 : Nat → Nat → Int) => j3 ≤ n ∧ sq g z3 ∧ (∀ c, c < 648 → z3 25 c = (ownT g) c) ∧ (∀ k, k < n → z3 29 k = (tps (ownT g) (g 9) n (i + 1)) k) ∧ ∀ k, k < j3 → z3 28 k = (tps (ownT g) (g 9) n (i + 1)) k) 0 z (⟨by omega, hs2, hT2, fun k hk => hN2 k (by omega), fun k hk => absurd hk (by omega)⟩) (fun j3 z3 hpj3 kkj3 => ?_))
          obtain ⟨hj3, hs4, hT4, hN4, hM4⟩ := hpj3
          show qEy M_X12_trees 161 [qR m, qI what, qI (n : Int), qI (trV (ownT g) (g 9) n i), qI ((i : Nat) + 1 : Int), qI (j3 : Int)] [] (rput h m f z3) Q
          refine qy (fun _ _ k9 => z_iload d_X12_trees_161 rfl k9) ?_
          refine qy (fun _ _ k9 => z_iload_n d_X12_trees_163 rfl rfl k9) ?_
          refine qy2 (fun _ _ => z_icmp_ge 187 d_X12_trees_164 (by decide)) (fun hc8 => ?_) (fun hc8 => ?_)
          · refine qy (fun _ _ k9 => z_aload_n d_X12_trees_187 rfl rfl k9) ?_
            refine qy (fun _ _ k9 => z_getf (v := qR (m + 28)) d_X12_trees_188 fl_X12_95 rput_o rfl k9) ?_
            refine qy (fun _ _ k9 => z_iload_n d_X12_trees_191 rfl rfl k9) ?_
            refine qy (fun _ _ k9 => z_cs (M1 := M_X12_litIn) d_X12_trees_192 ls_X12_302 k_X12_litIn [qR (m + 28), qI (n : Int)] rfl rfl (Nat.le_of_ble_eq_true rfl) (by decide) (by decide) (Nat.le_of_ble_eq_true rfl) (c_litIn n (rput_a2 28 (t := 0) (n := 32) (F := (z3 28)) rfl rfl rfl (by decide) (by decide)) (by omega) (by decide)) k9) ?_
            refine qy (fun _ _ k9 => z_eq rfl (qc (qi (show (cnt (fun q9 => (z3 28) q9 = 7) n) = (cnt (fun k => (tps (ownT g) (g 9) n (i + 1)) k = 7) n) from cnt_congr (fun k hk => by rw [hM4 k (by omega)]))) rfl) rfl k9) ?_
            suffices kJ195 : qEy M_X12_trees 204 [qR m, qI what, qI (n : Int), qI (trV (ownT g) (g 9) n i), qI ((i : Nat) + 1 : Int), qI (j3 : Int)] [qI (qif ((cnt (fun k => (tps (ownT g) (g 9) n (i + 1)) k = 7) n) ≤ 0) (-1) ((i : Nat) + 1 : Int))] (rput h m f z3) Q by
              refine qy2 (fun _ _ => z_if_le 203 d_X12_trees_195 (by decide)) (fun hc9 => ?_) (fun hc9 => ?_)
              · refine qy (fun _ _ k9 => z_iconst d_X12_trees_203 (by decide) k9) ?_
                exact qy (fun _ _ k9 => z_eq rfl (qc (qi (qif_t hc9).symm) rfl) rfl k9) kJ195
              · refine qy (fun _ _ k9 => z_iload d_X12_trees_198 rfl k9) ?_
                refine qy (fun _ _ k9 => z_goto 204 d_X12_trees_200 (by decide) k9) ?_
                exact qy (fun _ _ k9 => z_eq rfl (qc (qi (qif_f hc9).symm) rfl) rfl k9) kJ195
            refine qy (fun _ _ k9 => z_istore_n (ls' := [qR m, qI what, qI (n : Int), qI (qif ((cnt (fun k => (tps (ownT g) (g 9) n (i + 1)) k = 7) n) ≤ 0) (-1) ((i : Nat) + 1 : Int)), qI ((i : Nat) + 1 : Int), qI (j3 : Int)]) d_X12_trees_204 rfl (by decide) rfl k9) ?_
            refine qy (fun _ _ k9 => z_iinc (ls' := [qR m, qI what, qI (n : Int), qI (qif ((cnt (fun k => (tps (ownT g) (g 9) n (i + 1)) k = 7) n) ≤ 0) (-1) ((i : Nat) + 1 : Int)), qI (((i : Nat) + 1 : Int) + 1), qI (j3 : Int)]) d_X12_trees_205 rfl (by decide) (by omega) rfl k9) ?_
            refine qy (fun _ _ k9 => z_goto 72 d_X12_trees_208 (by decide) k9) ?_
            exact qy (fun _ _ k9 => z_dr (qle_k rfl (qle_k rfl (qle_k rfl (qle_k (qi (by rfl)) (qle_k (qi (by omega)) (qle_d qle_n)))))) rfl rfl k9) (kk (i + 1) z3 (⟨by omega, hs4, hT4, fun k hk => hM4 k (by omega), q_lts hL (by omega)⟩) (by omega))
          · refine qy (fun _ _ k9 => z_aload_n d_X12_trees_167 rfl rfl k9) ?_
            refine qy (fun _ _ k9 => z_getf (v := qR (m + 28)) d_X12_trees_168 fl_X12_95 rput_o rfl k9) ?_
            refine qy (fun _ _ k9 => z_iload d_X12_trees_171 rfl k9) ?_
            refine qy (fun _ _ k9 => z_aload_n d_X12_trees_173 rfl rfl k9) ?_
            refine qy (fun _ _ k9 => z_getf (v := qR (m + 29)) d_X12_trees_174 fl_X12_98 rput_o rfl k9) ?_
            refine qy (fun _ _ k9 => z_iload d_X12_trees_177 rfl k9) ?_
            refine qy (fun _ _ k9 => z_ild j3 d_X12_trees_179 (rput_a2 29 (t := 0) (n := 32) (F := (z3 29)) rfl rfl rfl (by decide) (by decide)) rfl (by omega) k9) ?_
            refine qy (fun _ _ k9 => z_eq rfl (qc (qi (show ((z3 29) j3) = ((tps (ownT g) (g 9) n (i + 1)) j3) from hN4 j3 (by omega))) rfl) rfl k9) ?_
            refine qy (fun _ _ k9 => z_ist j3 d_X12_trees_180 (rput_a2 28 (t := 0) (n := 32) (F := (z3 28)) rfl rfl rfl (by decide) (by decide)) (by omega) rfl (by omega) k9) ?_
            refine qy (fun _ _ k9 => z_eq rfl rfl (rput_sa 28 rfl rfl (by decide) (by decide)) k9) ?_
            refine qy (fun _ _ k9 => z_iinc (ls' := [qR m, qI what, qI (n : Int), qI (trV (ownT g) (g 9) n i), qI ((i : Nat) + 1 : Int), qI ((j3 : Int) + 1)]) d_X12_trees_181 rfl (by decide) (by omega) rfl k9) ?_
            refine qy (fun _ _ k9 => z_goto 161 d_X12_trees_184 (by decide) k9) ?_
            exact qy (fun _ _ k9 => z_eq (qc rfl (qc rfl (qc rfl (qc rfl (qc rfl (qc (qi (by omega)) rfl)))))) rfl rfl k9) (kkj3 (j3 + 1) (gup z3 28 (qup (z3 28) j3 ((tps (ownT g) (g 9) n (i + 1)) j3))) (⟨by omega, (sq_up hs4 (by decide)), hT4, hN4, fun k hk => if e : k = j3 then (by show qup (z3 28) j3 _ k = _; rw [e, qup_eq]) else (by show qup (z3 28) j3 _ k = _; rw [qup_ne e]; exact hM4 k (by omega))⟩) (by omega))
        · have hjn : j < n := by omega
          have hAj := hA j (by omega)
          have hb9 := tps_bd hOB hA hn.2 i
          have e1 := tsL_bd hA hn.2 hjn hb9
          have e2 := bel_bd (A := (g 9)) (k := (j : Int)) hb9
          have e3 := tsC_bd hA hn.2 hjn hb9
          have e4 := hb9 j hjn
          refine qy (fun _ _ k9 => z_aload_n d_X12_trees_95 rfl rfl k9) ?_
          refine qy (fun _ _ k9 => z_getf (v := qR (m + 29)) d_X12_trees_96 fl_X12_98 rput_o rfl k9) ?_
          refine qy (fun _ _ k9 => z_iload d_X12_trees_99 rfl k9) ?_
          refine qy (fun _ _ k9 => z_aload_n d_X12_trees_101 rfl rfl k9) ?_
          refine qy (fun _ _ k9 => z_getf (v := qR (m + 25)) d_X12_trees_102 fl_X12_86 rput_o rfl k9) ?_
          refine qy (fun _ _ k9 => z_aload_n d_X12_trees_105 rfl rfl k9) ?_
          refine qy (fun _ _ k9 => z_getf (v := qR (m + 28)) d_X12_trees_106 fl_X12_95 rput_o rfl k9) ?_
          refine qy (fun _ _ k9 => z_iload d_X12_trees_109 rfl k9) ?_
          refine qy (fun _ _ k9 => z_ild j d_X12_trees_111 (rput_a2 28 (t := 0) (n := 32) (F := (z 28)) rfl rfl rfl (by decide) (by decide)) rfl (by omega) k9) ?_
          refine qy (fun _ _ k9 => z_eq rfl (qc (qi (show ((z 28) j) = ((tps (ownT g) (g 9) n i) j) from hF2 j (by omega))) rfl) rfl k9) ?_
          refine qy (fun _ _ k9 => z_aload_n d_X12_trees_112 rfl rfl k9) ?_
          refine qy (fun _ _ k9 => z_getf (v := qR (m + 9)) d_X12_trees_113 fl_X12_38 rput_o rfl k9) ?_
          refine qy (fun _ _ k9 => z_iload d_X12_trees_116 rfl k9) ?_
          refine qy (fun _ _ k9 => z_ild j d_X12_trees_118 (rput_a2 9 (t := 0) (n := 16) (F := (z 9)) rfl rfl rfl (by decide) (by decide)) rfl (by omega) k9) ?_
          refine qy (fun _ _ k9 => z_eq rfl (qc (qi (show ((z 9) j) = ((g 9) j) from by rw [hA2])) rfl) rfl k9) ?_
          refine qy (fun _ _ k9 => z_iconst d_X12_trees_119 (by decide) k9) ?_
          suffices kJ120 : qEy M_X12_trees 140 [qR m, qI what, qI (n : Int), qI (trV (ownT g) (g 9) n i), qI ((i : Nat) + 1 : Int), qI (j : Int)] [qI (qif (((g 9) j) ≠ (-1)) ((z 28) (((g 9) j).toNat)) 8), qI ((tps (ownT g) (g 9) n i) j), qR (m + 25), qI (j : Int), qR (m + 29)] (rput h m f z) Q by
            refine qy2 (fun _ _ => z_icmp_ne 128 d_X12_trees_120 (by decide)) (fun hc10 => ?_) (fun hc10 => ?_)
            · refine qy (fun _ _ k9 => z_aload_n d_X12_trees_128 rfl rfl k9) ?_
              refine qy (fun _ _ k9 => z_getf (v := qR (m + 28)) d_X12_trees_129 fl_X12_95 rput_o rfl k9) ?_
              refine qy (fun _ _ k9 => z_aload_n d_X12_trees_132 rfl rfl k9) ?_
              refine qy (fun _ _ k9 => z_getf (v := qR (m + 9)) d_X12_trees_133 fl_X12_38 rput_o rfl k9) ?_
              refine qy (fun _ _ k9 => z_iload d_X12_trees_136 rfl k9) ?_
              refine qy (fun _ _ k9 => z_ild j d_X12_trees_138 (rput_a2 9 (t := 0) (n := 16) (F := (z 9)) rfl rfl rfl (by decide) (by decide)) rfl (by omega) k9) ?_
              refine qy (fun _ _ k9 => z_eq rfl (qc (qi (show ((z 9) j) = ((g 9) j) from by rw [hA2])) rfl) rfl k9) ?_
              refine qy (fun _ _ k9 => z_ild (((g 9) j).toNat) d_X12_trees_139 (rput_a2 28 (t := 0) (n := 32) (F := (z 28)) rfl rfl rfl (by decide) (by decide)) (by omega) (by omega) k9) ?_
              exact qy (fun _ _ k9 => z_eq rfl (qc (qi (qif_t hc10).symm) (qc rfl (qc rfl (qc rfl (qc rfl rfl))))) rfl k9) kJ120
            · refine qy (fun _ _ k9 => z_bipush d_X12_trees_123 (by decide) k9) ?_
              refine qy (fun _ _ k9 => z_goto 140 d_X12_trees_125 (by decide) k9) ?_
              exact qy (fun _ _ k9 => z_eq rfl (qc (qi (qif_f hc10).symm) (qc rfl (qc rfl (qc rfl (qc rfl rfl))))) rfl k9) kJ120
          refine qy (fun _ _ k9 => z_eq rfl (qc (qi (show (qif (((g 9) j) ≠ (-1)) ((z 28) (((g 9) j).toNat)) 8) = (tsL (g 9) (tps (ownT g) (g 9) n i) j) from by unfold tsL; by_cases e9 : (g 9) j = -1; (rw [qif_f (fun z9 => z9 e9), qif_f (fun z9 => z9 e9)]); (rw [qif_t e9, qif_t e9, hF2 _ (by omega)]))) rfl) rfl k9) ?_
          refine qy (fun _ _ k9 => z_aload_n d_X12_trees_140 rfl rfl k9) ?_
          refine qy (fun _ _ k9 => z_iload d_X12_trees_141 rfl k9) ?_
          refine qy (fun _ _ k9 => z_iload_n d_X12_trees_143 rfl rfl k9) ?_
          refine qy (fun _ _ k9 => z_cv (M1 := M_X12_below) d_X12_trees_144 lv_X12_378 k_X12_below [qI (j : Int), qI (n : Int)] rfl rfl rput_o ⟨_, _, rfl⟩ (Nat.le_of_ble_eq_true rfl) (by decide) (by decide) (Nat.le_of_ble_eq_true rfl) (y_below (j : Int) (g 9) (tps (ownT g) (g 9) n i) hm (by omega) (hs2 9 (by decide) (by decide)) hF2) k9) ?_
          refine qy (fun _ _ k9 => z_cs (M1 := M_X12_caseOf) d_X12_trees_147 ls_X12_263 k_X12_caseOf [qI ((tps (ownT g) (g 9) n i) j), qI (tsL (g 9) (tps (ownT g) (g 9) n i) j), qI (bel (g 9) (tps (ownT g) (g 9) n i) (j : Int) n)] rfl rfl (Nat.le_of_ble_eq_true rfl) (by decide) (by decide) (Nat.le_of_ble_eq_true rfl) (c_caseOf2 ((tps (ownT g) (g 9) n i) j) (tsL (g 9) (tps (ownT g) (g 9) n i) j) (bel (g 9) (tps (ownT g) (g 9) n i) (j : Int) n) (by omega) (by omega) (by omega)) k9) ?_
          refine qy (fun _ _ k9 => z_eq rfl (qc (qi (show (81 * ((tps (ownT g) (g 9) n i) j) + 9 * (tsL (g 9) (tps (ownT g) (g 9) n i) j) + (bel (g 9) (tps (ownT g) (g 9) n i) (j : Int) n)) = (tsC (g 9) n (tps (ownT g) (g 9) n i) j) from rfl)) rfl) rfl k9) ?_
          refine qy (fun _ _ k9 => z_ild ((tsC (g 9) n (tps (ownT g) (g 9) n i) j).toNat) d_X12_trees_150 (rput_a2 25 (t := 0) (n := 648) (F := (z 25)) rfl rfl rfl (by decide) (by decide)) (by omega) (by omega) k9) ?_
          refine qy (fun _ _ k9 => z_eq rfl (qc (qi (show ((z 25) ((tsC (g 9) n (tps (ownT g) (g 9) n i) j).toNat)) = ((tps (ownT g) (g 9) n (i + 1)) j) from hT2 _ (by omega))) rfl) rfl k9) ?_
          refine qy (fun _ _ k9 => z_ist j d_X12_trees_151 (rput_a2 29 (t := 0) (n := 32) (F := (z 29)) rfl rfl rfl (by decide) (by decide)) (by omega) rfl (by omega) k9) ?_
          refine qy (fun _ _ k9 => z_eq rfl rfl (rput_sa 29 rfl rfl (by decide) (by decide)) k9) ?_
          refine qy (fun _ _ k9 => z_iinc (ls' := [qR m, qI what, qI (n : Int), qI (trV (ownT g) (g 9) n i), qI ((i : Nat) + 1 : Int), qI ((j : Int) + 1)]) d_X12_trees_152 rfl (by decide) (by omega) rfl k9) ?_
          refine qy (fun _ _ k9 => z_goto 89 d_X12_trees_155 (by decide) k9) ?_
          exact qy (fun _ _ k9 => z_eq (qc rfl (qc rfl (qc rfl (qc rfl (qc rfl (qc (qi (by omega)) rfl)))))) rfl rfl k9) (kkj (j + 1) (gup z 29 (qup (z 29) j ((tps (ownT g) (g 9) n (i + 1)) j))) (⟨by omega, (sq_up hs2 (by decide)), hT2, hF2, fun k hk => if e : k = j then (by show qup (z 29) j _ k = _; rw [e, qup_eq]) else (by show qup (z 29) j _ k = _; rw [qup_ne e]; exact hN2 k (by omega))⟩) (by omega))
  · refine qy (fun _ _ k9 => z_aload_n d_X12_trees_34 rfl rfl k9) ?_
    refine qy (fun _ _ k9 => z_getf (v := qR (m + 9)) d_X12_trees_35 fl_X12_38 rput_o rfl k9) ?_
    refine qy (fun _ _ k9 => z_iload d_X12_trees_38 rfl k9) ?_
    refine qy (fun _ _ k9 => z_ild i d_X12_trees_40 (rput_a2 9 (t := 0) (n := 16) (F := (y1 9)) rfl rfl rfl (by decide) (by decide)) rfl (by omega) k9) ?_
    refine qy (fun _ _ k9 => z_eq rfl (qc (qi (show ((y1 9) i) = ((g 9) i) from by rw [hlf 9 (by decide)])) rfl) rfl k9) ?_
    refine qy (fun _ _ k9 => z_iconst d_X12_trees_41 (by decide) k9) ?_
    suffices kJ42 : qEy M_X12_trees 53 [qR m, qI what, qI (((trN (g 9) i) : Nat) : Int), qI (-1), qI (i : Int), qU] [qI (qif (((g 9) i) ≠ (-1)) ((i : Int) + 1) (((trN (g 9) i) : Nat) : Int))] (rput h m f y1) Q by
      refine qy2 (fun _ _ => z_icmp_ne 49 d_X12_trees_42 (by decide)) (fun hc11 => ?_) (fun hc11 => ?_)
      · refine qy (fun _ _ k9 => z_iload d_X12_trees_49 rfl k9) ?_
        refine qy (fun _ _ k9 => z_iconst d_X12_trees_51 (by decide) k9) ?_
        refine qy (fun _ _ k9 => z_iadd d_X12_trees_52 (by omega) k9) ?_
        exact qy (fun _ _ k9 => z_eq rfl (qc (qi (qif_t hc11).symm) rfl) rfl k9) kJ42
      · refine qy (fun _ _ k9 => z_iload_n d_X12_trees_45 rfl rfl k9) ?_
        refine qy (fun _ _ k9 => z_goto 53 d_X12_trees_46 (by decide) k9) ?_
        exact qy (fun _ _ k9 => z_eq rfl (qc (qi (qif_f hc11).symm) rfl) rfl k9) kJ42
    refine qy (fun _ _ k9 => z_istore_n (ls' := [qR m, qI what, qI (qif (((g 9) i) ≠ (-1)) ((i : Int) + 1) (((trN (g 9) i) : Nat) : Int)), qI (-1), qI (i : Int), qU]) d_X12_trees_53 rfl (by decide) rfl k9) ?_
    refine qy (fun _ _ k9 => z_iinc (ls' := [qR m, qI what, qI (qif (((g 9) i) ≠ (-1)) ((i : Int) + 1) (((trN (g 9) i) : Nat) : Int)), qI (-1), qI ((i : Int) + 1), qU]) d_X12_trees_54 rfl (by decide) (by omega) rfl k9) ?_
    refine qy (fun _ _ k9 => z_goto 27 d_X12_trees_57 (by decide) k9) ?_
    exact qy (fun _ _ k9 => z_eq (qc rfl (qc rfl (qc (qi (by exact qif_cast.symm)) (qc rfl (qc (qi (by omega)) (qc rfl rfl)))))) rfl rfl k9) (kk (i + 1) (by omega) (by omega))
set_option maxRecDepth 20000 in
set_option maxHeartbeats 4000000 in
theorem c_trees_no {h : qH} {m : Nat} {f : Nat → Int} {g : Nat → Nat → Int} (what : Int) (hm : 2 ≤ m) (h0 : f 0 = 0) (hno : ¬ (0 ≤ what ∧ what ≤ 2)) : qEx M_X12_trees 0 [qR m, qI what, qU, qU, qU, qU] [] (rput h m f g) (some (qI (-1))) (rput h m f g) := by
  refine q_gen (fun r hr er eh => ?_)
  refine z_aload_n d_X12_trees_0 rfl rfl ?_
  refine z_iconst d_X12_trees_1 (by decide) ?_
  refine z_putf (fs' := [qI 0, qI (f 1), qI (f 2), qI (f 3), qI (f 4), qI (f 5), qI (f 6), qI (f 7), qR (m + 1), qR (m + 2), qR (m + 3), qR (m + 4), qR (m + 5), qR (m + 6), qR (m + 7), qR (m + 8), qR (m + 9), qR (m + 10), qI (f 18), qI (f 19), qI (f 20), qR (m + 11), qR (m + 12), qR (m + 13), qR (m + 14), qI (f 25), qR (m + 15), qI (f 27), qR (m + 16), qR (m + 17), qR (m + 18), qR (m + 19), qR (m + 20), qR (m + 21), qR (m + 22), qR (m + 23), qR (m + 24), qI (f 37), qI (f 38), qI (f 39), qI (f 40), qR (m + 25), qR (m + 26), qR (m + 27), qR (m + 28), qR (m + 29), qR (m + 30), qR (m + 31), qI (f 48), qR (m + 32), qR (m + 33), qR (m + 34), qR (m + 35), qR (m + 36), qR (m + 37)]) d_X12_trees_2 fp_X12_127 rput_o (fun _ => rfl) (fun _ => rfl) (Nat.le_of_ble_eq_true rfl) rfl ?_
  refine z_eq rfl rfl ((rput_sf (f' := qup f 0 0) rfl).trans (rput_cg (qup_self h0) rfl)) ?_
  refine z_iload_n d_X12_trees_5 rfl rfl ?_
  refine z_iconst d_X12_trees_6 (by decide) ?_
  refine z_iconst d_X12_trees_7 (by decide) ?_
  refine z_cs (M1 := M_X12_in) d_X12_trees_8 ls_X12_137 k_X12_in [qI what, qI 0, qI 2] rfl rfl (Nat.le_of_ble_eq_true rfl) (by decide) (by decide) (Nat.le_of_ble_eq_true rfl) (c_in what 0 2) ?_
  refine z_ifneB 16 d_X12_trees_11 (by decide) (fun hc1 => absurd hc1 (by omega)) (fun hc1 => ?_)
  refine z_iconst d_X12_trees_14 (by decide) ?_
  exact z_iret d_X12_trees_15 rfl er eh
/-- where two books part on a row of n: behind t breaths; in the first breath that is seen -/
noncomputable def othT (g : Nat → Nat → Int) : Nat → Int := bkTc (g 3) (g 6) 15 (-1) (-1) 0
theorem othT_bd {g : Nat → Nat → Int} (hO : bkOk (g 3) (g 6)) : ∀ c, c < 648 → 0 ≤ othT g c ∧ othT g c ≤ 7 := fun c hc => bkTc_bd hO (by decide) c hc
def alQ (T S : Nat → Int) (n t k : Nat) : Prop := ps T n 0 (-1) 0 t k ≠ ps S n 0 (-1) 0 t k
def alD (T S : Nat → Int) (n t : Nat) : Prop := ∃ k, k < n ∧ alQ T S n t k
noncomputable def alJ (T S : Nat → Int) (n : Nat) : Nat := utl (fun t => t ≥ 3 * n + 20 ∨ litAt T n 0 (-1) 0 t ∨ alD T S n (t + 1)) (3 * n + 20)
def alP (T S : Nat → Int) (n : Nat) : Prop := alJ T S n < 3 * n + 20 ∧ ¬ litAt T n 0 (-1) 0 (alJ T S n) ∧ alD T S n (alJ T S n + 1)
noncomputable def alN (T S : Nat → Int) (to : Nat) : Int := fst (fun k => alP T S (k + 1)) to
noncomputable def alR (T S : Nat → Int) (to : Nat) (what : Int) : Int := qif (alN T S to = -1) (-1) (qif (what ≠ 0) (qif (what ≠ 1) (fst (alQ T S ((alN T S to).toNat + 1) (alJ T S ((alN T S to).toNat + 1) + 1)) ((alN T S to).toNat + 1)) ((alJ T S ((alN T S to).toNat + 1) : Int) + 1)) (alN T S to + 1))
theorem alR_at {T S : Nat → Int} {to i t k : Nat} (what : Int) (hi : i < to) (hp : ∀ k, k < i → ¬ alP T S (k + 1)) (ht : t < 3 * (i + 1) + 20) (hl : ∀ k, k < t → ¬ litAt T (i + 1) 0 (-1) 0 k ∧ ¬ alD T S (i + 1) (k + 1)) (hl2 : ¬ litAt T (i + 1) 0 (-1) 0 t) (hk : k < i + 1) (he : ∀ j, j < k → ¬ alQ T S (i + 1) (t + 1) j) (hd : alQ T S (i + 1) (t + 1) k) : alR T S to what = qif (what ≠ 0) (qif (what ≠ 1) (k : Int) ((t : Int) + 1)) ((i : Int) + 1) := by
  have hJ : alJ T S (i + 1) = t := utl_at (by omega) (fun q hq z => z.elim (fun w => by omega) (fun w => w.elim (hl q hq).1 (hl q hq).2)) (Or.inr (Or.inr ⟨k, hk, hd⟩))
  have hN : alN T S to = (i : Int) := fst_at hi hp ⟨by rw [hJ]; exact ht, by rw [hJ]; exact hl2, by rw [hJ]; exact ⟨k, hk, hd⟩⟩
  unfold alR
  rw [hN, qif_f (by omega), Int.toNat_natCast, hJ, fst_at hk he hd]
theorem alR_no {T S : Nat → Int} {to : Nat} (what : Int) (hp : ∀ k, k < to → ¬ alP T S (k + 1)) : alR T S to what = -1 := by
  unfold alR
  rw [show alN T S to = -1 from fst_none hp, qif_t rfl]
theorem alP_no {T S : Nat → Int} {n t : Nat} (ht : t ≤ 3 * n + 20) (hl : ∀ k, k < t → ¬ litAt T n 0 (-1) 0 k ∧ ¬ alD T S n (k + 1)) (h : t = 3 * n + 20 ∨ litAt T n 0 (-1) 0 t) : ¬ alP T S n := by
  have hJ : alJ T S n = t := utl_at ht (fun q hq z => z.elim (fun w => by omega) (fun w => w.elim (hl q hq).1 (hl q hq).2)) (h.elim (fun w => Or.inl (by omega)) (fun w => Or.inr (Or.inl w)))
  intro z
  unfold alP at z
  rw [hJ] at z
  rcases h with h | h
  · omega
  · exact z.2.1 h
set_option maxRecDepth 20000 in
set_option maxHeartbeats 1000000 in
theorem c_alike {h : qH} {m : Nat} {f : Nat → Int} {g : Nat → Nat → Int} {to : Nat} (what : Int) (hm : 2 ≤ m) (h0 : f 0 = 0) (ht : 1 ≤ to ∧ to ≤ 24) (hw : 0 ≤ what ∧ what ≤ 2) (hO : bkOk (g 2) (g 5)) (hO2 : bkOk (g 3) (g 6)) : ∃ g', (sq g g') ∧ qEx M_X12_alike 0 [qR m, qI (to : Int), qI what, qU, qU, qU] [] (rput h m f g) (some (qI (alR (ownT g) (othT g) to what))) (rput h m f g') := by
  refine y_in (fun Q hQ => ?_)
  have hOB := ownT_bd hO
  have hPB := othT_bd hO2
  refine qy (fun _ _ k9 => z_aload_n d_X12_alike_0 rfl rfl k9) ?_
  refine qy (fun _ _ k9 => z_iconst d_X12_alike_1 (by decide) k9) ?_
  refine qy (fun _ _ k9 => z_putf (fs' := [qI 0, qI (f 1), qI (f 2), qI (f 3), qI (f 4), qI (f 5), qI (f 6), qI (f 7), qR (m + 1), qR (m + 2), qR (m + 3), qR (m + 4), qR (m + 5), qR (m + 6), qR (m + 7), qR (m + 8), qR (m + 9), qR (m + 10), qI (f 18), qI (f 19), qI (f 20), qR (m + 11), qR (m + 12), qR (m + 13), qR (m + 14), qI (f 25), qR (m + 15), qI (f 27), qR (m + 16), qR (m + 17), qR (m + 18), qR (m + 19), qR (m + 20), qR (m + 21), qR (m + 22), qR (m + 23), qR (m + 24), qI (f 37), qI (f 38), qI (f 39), qI (f 40), qR (m + 25), qR (m + 26), qR (m + 27), qR (m + 28), qR (m + 29), qR (m + 30), qR (m + 31), qI (f 48), qR (m + 32), qR (m + 33), qR (m + 34), qR (m + 35), qR (m + 36), qR (m + 37)]) d_X12_alike_2 fp_X12_127 rput_o (fun _ => rfl) (fun _ => rfl) (Nat.le_of_ble_eq_true rfl) rfl k9) ?_
  refine qy (fun _ _ k9 => z_eq rfl rfl ((rput_sf (f' := qup f 0 0) rfl).trans (rput_cg (qup_self h0) rfl)) k9) ?_
  refine qy (fun _ _ k9 => z_iload_n d_X12_alike_5 rfl rfl k9) ?_
  refine qy (fun _ _ k9 => z_iconst d_X12_alike_6 (by decide) k9) ?_
  refine qy (fun _ _ k9 => z_bipush d_X12_alike_7 (by decide) k9) ?_
  refine qy (fun _ _ k9 => z_cs (M1 := M_X12_in) d_X12_alike_9 ls_X12_137 k_X12_in [qI (to : Int), qI 1, qI 24] rfl rfl (Nat.le_of_ble_eq_true rfl) (by decide) (by decide) (Nat.le_of_ble_eq_true rfl) (c_in (to : Int) 1 24) k9) ?_
  refine qy2n (fun _ _ => z_ifeqB 24 d_X12_alike_12 (by decide)) (fun hc1 => absurd hc1 (by omega)) (fun hc1 => ?_)
  refine qy (fun _ _ k9 => z_iload_n d_X12_alike_15 rfl rfl k9) ?_
  refine qy (fun _ _ k9 => z_iconst d_X12_alike_16 (by decide) k9) ?_
  refine qy (fun _ _ k9 => z_iconst d_X12_alike_17 (by decide) k9) ?_
  refine qy (fun _ _ k9 => z_cs (M1 := M_X12_in) d_X12_alike_18 ls_X12_137 k_X12_in [qI what, qI 0, qI 2] rfl rfl (Nat.le_of_ble_eq_true rfl) (by decide) (by decide) (Nat.le_of_ble_eq_true rfl) (c_in what 0 2) k9) ?_
  refine qy2 (fun _ _ => z_ifneB 26 d_X12_alike_21 (by decide)) (fun hc2 => ?_) (fun hc2 => absurd hc2 (by omega))
  refine qy (fun _ _ k9 => z_aload_n d_X12_alike_26 rfl rfl k9) ?_
  refine qy (fun _ _ k9 => z_aload_n d_X12_alike_27 rfl rfl k9) ?_
  refine qy (fun _ _ k9 => z_getf (v := qR (m + 3)) d_X12_alike_28 fl_X12_20 rput_o rfl k9) ?_
  refine qy (fun _ _ k9 => z_aload_n d_X12_alike_31 rfl rfl k9) ?_
  refine qy (fun _ _ k9 => z_getf (v := qR (m + 6)) d_X12_alike_32 fl_X12_29 rput_o rfl k9) ?_
  refine qy (fun _ _ k9 => z_bipush d_X12_alike_35 (by decide) k9) ?_
  refine qy (fun _ _ k9 => z_iconst d_X12_alike_37 (by decide) k9) ?_
  refine qy (fun _ _ k9 => z_iconst d_X12_alike_38 (by decide) k9) ?_
  refine qy (fun _ _ k9 => z_iconst d_X12_alike_39 (by decide) k9) ?_
  refine qy (fun _ _ k9 => z_aload_n d_X12_alike_40 rfl rfl k9) ?_
  refine qy (fun _ _ k9 => z_getf (v := qR (m + 27)) d_X12_alike_41 fl_X12_92 rput_o rfl k9) ?_
  obtain ⟨y1, ⟨hof, hoT, hoF⟩, hx1⟩ := y_laysBook (h := h) (f := f) (a := 3) (b := 6) (t := 27) 15 (-1) (-1) 0 rfl rfl hm (by decide) (by decide) (by decide) (by decide) (by decide) (by decide) (by decide) (by decide)
  refine qy (fun _ _ k9 => z_cv0 (M1 := M_X12_laysBook) d_X12_alike_44 lv_X12_271 k_X12_laysBook [qR (m + 3), qR (m + 6), qI 15, qI (-1), qI (-1), qI 0, qR (m + 27)] rfl rfl rput_o ⟨_, _, rfl⟩ (Nat.le_of_ble_eq_true rfl) (by decide) (by decide) (Nat.le_of_ble_eq_true rfl) hx1 k9) ?_
  refine qy (fun _ _ k9 => z_aload_n d_X12_alike_47 rfl rfl k9) ?_
  obtain ⟨y2, ⟨hlf, hlT, hlF⟩, hx2⟩ := y_laysOwn hm
  refine qy (fun _ _ k9 => z_cv0 (M1 := M_X12_laysOwn) d_X12_alike_48 lv_X12_275 k_X12_laysOwn [] rfl rfl rput_o ⟨_, _, rfl⟩ (Nat.le_of_ble_eq_true rfl) (by decide) (by decide) (Nat.le_of_ble_eq_true rfl) hx2 k9) ?_
  have hlT9 : ∀ c, c < 648 → y2 25 c = (ownT g) c := fun c hc => by rw [hlT c hc]; unfold ownT; rw [hof 2 (by decide), hof 5 (by decide)]
  refine qy (fun _ _ k9 => z_iconst d_X12_alike_51 (by decide) k9) ?_
  refine qy (fun _ _ k9 => z_istore_n (ls' := [qR m, qI (to : Int), qI what, qI 1, qU, qU]) d_X12_alike_52 rfl (by decide) rfl k9) ?_
  refine qy (fun _ _ k9 => z_eq (qc rfl (qc rfl (qc rfl (qc (qi (by omega)) (qc rfl (qc rfl rfl)))))) rfl rfl k9) (y_wh2 (fun (i : Nat) (x : Nat → Nat → Int) => to - i) (fun (i : Nat) (x : Nat → Nat → Int) => [qR m, qI (to : Int), qI what, qI ((i : Nat) + 1 : Int), qU, qU]) (fun (i : Nat) (x : Nat → Nat → Int) => (rput h m f x)) (fun (i : Nat) (x : Nat → Nat → Int) => i ≤ to ∧ sq g x ∧ (∀ c, c < 648 → x 25 c = (ownT g) c) ∧ (∀ c, c < 648 → x 27 c = (othT g) c) ∧ ∀ k, k < i → ¬ alP (ownT g) (othT g) (k + 1)) 0 y2 (⟨by omega, (sq_tr (sq_tr sq_rf (sq_fr hof (by decide))) (sq_fr hlf (by decide))), hlT9, fr_at hlf 27 (by decide) hoT, fun k hk => absurd hk (by omega)⟩) (fun i x hp kk => ?_))
  obtain ⟨hi, hs, hT, hS, hP⟩ := hp
  show qEy M_X12_alike 53 [qR m, qI (to : Int), qI what, qI ((i : Nat) + 1 : Int), qU, qU] [] (rput h m f x) Q
  refine qy (fun _ _ k9 => z_iload_n d_X12_alike_53 rfl rfl k9) ?_
  refine qy (fun _ _ k9 => z_iload_n d_X12_alike_54 rfl rfl k9) ?_
  refine qy2 (fun _ _ => z_icmp_gt 194 d_X12_alike_55 (by decide)) (fun hc3 => ?_) (fun hc3 => ?_)
  · refine qy (fun _ _ k9 => z_iconst d_X12_alike_194 (by decide) k9) ?_
    exact y_ret (hQ x hs) (z_iret d_X12_alike_195 rfl (qsi (alR_no what (fun k hk => hP k (by omega)))) rfl)
  · refine qy (fun _ _ k9 => z_aload_n d_X12_alike_58 rfl rfl k9) ?_
    refine qy (fun _ _ k9 => z_getf (v := qR (m + 28)) d_X12_alike_59 fl_X12_95 rput_o rfl k9) ?_
    refine qy (fun _ _ k9 => z_iload_n d_X12_alike_62 rfl rfl k9) ?_
    refine qy (fun _ _ k9 => z_iconst d_X12_alike_63 (by decide) k9) ?_
    refine qy (fun _ _ k9 => z_cs0 (M1 := M_X12_begins) d_X12_alike_64 ls_X12_329 k_X12_begins [qR (m + 28), qI ((i : Nat) + 1 : Int), qI 0] rfl rfl (Nat.le_of_ble_eq_true rfl) (by decide) (by decide) (Nat.le_of_ble_eq_true rfl) (c_begins (i + 1) 0 (rput_a2 28 (t := 0) (n := 32) (F := (x 28)) rfl rfl rfl (by decide) (by decide)) (by omega) (by omega) (by decide)) k9) ?_
    refine qy (fun _ _ k9 => z_eq rfl rfl (rput_sa 28 rfl rfl (by decide) (by decide)) k9) ?_
    refine qy (fun _ _ k9 => z_aload_n d_X12_alike_67 rfl rfl k9) ?_
    refine qy (fun _ _ k9 => z_getf (v := qR (m + 30)) d_X12_alike_68 fl_X12_101 rput_o rfl k9) ?_
    refine qy (fun _ _ k9 => z_iload_n d_X12_alike_71 rfl rfl k9) ?_
    refine qy (fun _ _ k9 => z_iconst d_X12_alike_72 (by decide) k9) ?_
    refine qy (fun _ _ k9 => z_cs0 (M1 := M_X12_begins) d_X12_alike_73 ls_X12_329 k_X12_begins [qR (m + 30), qI ((i : Nat) + 1 : Int), qI 0] rfl rfl (Nat.le_of_ble_eq_true rfl) (by decide) (by decide) (Nat.le_of_ble_eq_true rfl) (c_begins (i + 1) 0 (rput_a2 30 (t := 0) (n := 32) (F := (x 30)) rfl rfl rfl (by decide) (by decide)) (by omega) (by omega) (by decide)) k9) ?_
    refine qy (fun _ _ k9 => z_eq rfl rfl (rput_sa 30 rfl rfl (by decide) (by decide)) k9) ?_
    refine qy (fun _ _ k9 => z_iconst d_X12_alike_76 (by decide) k9) ?_
    refine qy (fun _ _ k9 => z_istore (ls' := [qR m, qI (to : Int), qI what, qI ((i : Nat) + 1 : Int), qI 1, qU]) d_X12_alike_77 (by decide) rfl k9) ?_
    refine qy (fun _ _ k9 => z_eq (qc rfl (qc rfl (qc rfl (qc rfl (qc (qi (by omega)) (qc rfl rfl)))))) rfl rfl k9) (y_wh2 (fun (t : Nat) (z : Nat → Nat → Int) => 3 * (i + 1) + 20 - t) (fun (t : Nat) (z : Nat → Nat → Int) => [qR m, qI (to : Int), qI what, qI ((i : Nat) + 1 : Int), qI ((t : Nat) + 1 : Int), qU]) (fun (t : Nat) (z : Nat → Nat → Int) => (rput h m f z)) (fun (t : Nat) (z : Nat → Nat → Int) => t ≤ 3 * (i + 1) + 20 ∧ sq g z ∧ (∀ c, c < 648 → z 25 c = (ownT g) c) ∧ (∀ c, c < 648 → z 27 c = (othT g) c) ∧ (∀ k, k < i + 1 → z 28 k = (ps (ownT g) (i + 1) 0 (-1) 0 t) k) ∧ (∀ k, k < i + 1 → z 30 k = (ps (othT g) (i + 1) 0 (-1) 0 t) k) ∧ ∀ k, k < t → ¬ litAt (ownT g) (i + 1) 0 (-1) 0 k ∧ ¬ alD (ownT g) (othT g) (i + 1) (k + 1)) 0 (gup (gup x 28 (qmx (i + 1) (fun q9 => qb ((q9 : Int) = 0)) (x 28))) 30 (qmx (i + 1) (fun q9 => qb ((q9 : Int) = 0)) (x 30))) (⟨by omega, (sq_up (sq_up hs (by decide)) (by decide)), hT, hS, fun k hk => (show qmx (i + 1) (fun q9 : Nat => qb ((q9 : Int) = 0)) (x 28) k = _ from qmx_lt hk), fun k hk => (show qmx (i + 1) (fun q9 : Nat => qb ((q9 : Int) = 0)) (x 30) k = _ from qmx_lt hk), fun k hk => absurd hk (by omega)⟩) (fun t z hpt kkt => ?_))
    obtain ⟨ht, hs2, hT2, hS2, hF2, hG2, hL⟩ := hpt
    show qEy M_X12_alike 79 [qR m, qI (to : Int), qI what, qI ((i : Nat) + 1 : Int), qI ((t : Nat) + 1 : Int), qU] [] (rput h m f z) Q
    refine qy (fun _ _ k9 => z_iload d_X12_alike_79 rfl k9) ?_
    refine qy (fun _ _ k9 => z_iload_n d_X12_alike_81 rfl rfl k9) ?_
    refine qy (fun _ _ k9 => z_cs (M1 := M_X12_longest) d_X12_alike_82 ls_X12_333 k_X12_longest [qI ((i : Nat) + 1 : Int)] rfl rfl (Nat.le_of_ble_eq_true rfl) (by decide) (by decide) (Nat.le_of_ble_eq_true rfl) (c_longest ((i : Nat) + 1 : Int) (by omega)) k9) ?_
    refine qy2 (fun _ _ => z_icmp_gt 188 d_X12_alike_85 (by decide)) (fun hc4 => ?_) (fun hc4 => ?_)
    · refine qy (fun _ _ k9 => z_iinc (ls' := [qR m, qI (to : Int), qI what, qI (((i : Nat) + 1 : Int) + 1), qI ((t : Nat) + 1 : Int), qU]) d_X12_alike_188 rfl (by decide) (by omega) rfl k9) ?_
      refine qy (fun _ _ k9 => z_goto 53 d_X12_alike_191 (by decide) k9) ?_
      exact qy (fun _ _ k9 => z_dr (qle_k rfl (qle_k rfl (qle_k rfl (qle_k (qi (by omega)) (qle_d (qle_k rfl qle_n)))))) rfl rfl k9) (kk (i + 1) z (⟨by omega, hs2, hT2, hS2, q_lts hP (alP_no (t := t) (by omega) hL (by first | exact Or.inl (by omega) | exact Or.inr (by unfold litAt; omega)))⟩) (by omega))
    · refine qy (fun _ _ k9 => z_aload_n d_X12_alike_88 rfl rfl k9) ?_
      refine qy (fun _ _ k9 => z_getf (v := qR (m + 28)) d_X12_alike_89 fl_X12_95 rput_o rfl k9) ?_
      refine qy (fun _ _ k9 => z_iload_n d_X12_alike_92 rfl rfl k9) ?_
      refine qy (fun _ _ k9 => z_cs (M1 := M_X12_litIn) d_X12_alike_93 ls_X12_302 k_X12_litIn [qR (m + 28), qI ((i : Nat) + 1 : Int)] rfl rfl (Nat.le_of_ble_eq_true rfl) (by decide) (by decide) (Nat.le_of_ble_eq_true rfl) (c_litIn (i + 1) (rput_a2 28 (t := 0) (n := 32) (F := (z 28)) rfl rfl rfl (by decide) (by decide)) (by omega) (by decide)) k9) ?_
      have hcb9 := cnt_bd (fun k => (ps (ownT g) (i + 1) 0 (-1) 0 t) k = 7) (i + 1)
      refine qy (fun _ _ k9 => z_eq rfl (qc (qi (show (cnt (fun q9 => (z 28) q9 = 7) (i + 1)) = (cnt (fun k => (ps (ownT g) (i + 1) 0 (-1) 0 t) k = 7) (i + 1)) from cnt_congr (fun k hk => by rw [hF2 k hk]))) rfl) rfl k9) ?_
      refine qy2 (fun _ _ => z_if_ne 188 d_X12_alike_96 (by decide)) (fun hc5 => ?_) (fun hc5 => ?_)
      · refine qy (fun _ _ k9 => z_iinc (ls' := [qR m, qI (to : Int), qI what, qI (((i : Nat) + 1 : Int) + 1), qI ((t : Nat) + 1 : Int), qU]) d_X12_alike_188 rfl (by decide) (by omega) rfl k9) ?_
        refine qy (fun _ _ k9 => z_goto 53 d_X12_alike_191 (by decide) k9) ?_
        exact qy (fun _ _ k9 => z_dr (qle_k rfl (qle_k rfl (qle_k rfl (qle_k (qi (by omega)) (qle_d (qle_k rfl qle_n)))))) rfl rfl k9) (kk (i + 1) z (⟨by omega, hs2, hT2, hS2, q_lts hP (alP_no (t := t) (by omega) hL (by first | exact Or.inl (by omega) | exact Or.inr (by unfold litAt; omega)))⟩) (by omega))
      · have hl9 : ¬ litAt (ownT g) (i + 1) 0 (-1) 0 t := fun z9 => by unfold litAt at z9; omega
        refine qy (fun _ _ k9 => z_aload_n d_X12_alike_99 rfl rfl k9) ?_
        refine qy (fun _ _ k9 => z_aload_n d_X12_alike_100 rfl rfl k9) ?_
        refine qy (fun _ _ k9 => z_getf (v := qR (m + 28)) d_X12_alike_101 fl_X12_95 rput_o rfl k9) ?_
        refine qy (fun _ _ k9 => z_iload_n d_X12_alike_104 rfl rfl k9) ?_
        refine qy (fun _ _ k9 => z_iconst d_X12_alike_105 (by decide) k9) ?_
        refine qy (fun _ _ k9 => z_iconst d_X12_alike_106 (by decide) k9) ?_
        refine qy (fun _ _ k9 => z_aload_n d_X12_alike_107 rfl rfl k9) ?_
        refine qy (fun _ _ k9 => z_getf (v := qR (m + 25)) d_X12_alike_108 fl_X12_86 rput_o rfl k9) ?_
        obtain ⟨y3, ⟨hsf, hsF⟩, hx3⟩ := y_steps28 (h := h) (f := f) (n := i + 1) (-1) (ownT g) (ps (ownT g) (i + 1) 0 (-1) 0 t) hm (by omega) hT2 hF2 (ps_bd hOB t)
        refine qy (fun _ _ k9 => z_cv0 (M1 := M_X12_steps) d_X12_alike_111 lv_X12_336 k_X12_steps [qR (m + 28), qI ((i : Nat) + 1 : Int), qI 0, qI (-1), qR (m + 25)] rfl rfl rput_o ⟨_, _, rfl⟩ (Nat.le_of_ble_eq_true rfl) (by decide) (by decide) (Nat.le_of_ble_eq_true rfl) hx3 k9) ?_
        refine qy (fun _ _ k9 => z_aload_n d_X12_alike_114 rfl rfl k9) ?_
        refine qy (fun _ _ k9 => z_aload_n d_X12_alike_115 rfl rfl k9) ?_
        refine qy (fun _ _ k9 => z_getf (v := qR (m + 30)) d_X12_alike_116 fl_X12_101 rput_o rfl k9) ?_
        refine qy (fun _ _ k9 => z_iload_n d_X12_alike_119 rfl rfl k9) ?_
        refine qy (fun _ _ k9 => z_iconst d_X12_alike_120 (by decide) k9) ?_
        refine qy (fun _ _ k9 => z_iconst d_X12_alike_121 (by decide) k9) ?_
        refine qy (fun _ _ k9 => z_aload_n d_X12_alike_122 rfl rfl k9) ?_
        refine qy (fun _ _ k9 => z_getf (v := qR (m + 27)) d_X12_alike_123 fl_X12_92 rput_o rfl k9) ?_
        obtain ⟨y4, ⟨huf, huF⟩, hx4⟩ := y_steps30 (h := h) (f := f) (n := i + 1) (-1) (othT g) (ps (othT g) (i + 1) 0 (-1) 0 t) hm (by omega) (fr_at hsf 27 (by decide) hS2) (fr_at hsf 30 (by decide) hG2) (ps_bd hPB t)
        refine qy (fun _ _ k9 => z_cv0 (M1 := M_X12_steps) d_X12_alike_126 lv_X12_336 k_X12_steps [qR (m + 30), qI ((i : Nat) + 1 : Int), qI 0, qI (-1), qR (m + 27)] rfl rfl rput_o ⟨_, _, rfl⟩ (Nat.le_of_ble_eq_true rfl) (by decide) (by decide) (Nat.le_of_ble_eq_true rfl) hx4 k9) ?_
        refine qy (fun _ _ k9 => z_iconst d_X12_alike_129 (by decide) k9) ?_
        refine qy (fun _ _ k9 => z_istore (ls' := [qR m, qI (to : Int), qI what, qI ((i : Nat) + 1 : Int), qI ((t : Nat) + 1 : Int), qI 0]) d_X12_alike_130 (by decide) rfl k9) ?_
        refine qy (fun _ _ k9 => z_eq (qc rfl (qc rfl (qc rfl (qc rfl (qc rfl (qc (qi (by omega)) rfl)))))) rfl rfl k9) (y_wh1 (fun (k : Nat) => i + 1 - k) (fun (k : Nat) => [qR m, qI (to : Int), qI what, qI ((i : Nat) + 1 : Int), qI ((t : Nat) + 1 : Int), qI (k : Int)]) (fun (k : Nat) => (rput h m f y4)) (fun (k : Nat) => k ≤ i + 1 ∧ ∀ j, j < k → ¬ alQ (ownT g) (othT g) (i + 1) (t + 1) j) 0 (⟨by omega, fun k hk => absurd hk (by omega)⟩) (fun k hpk kkk => ?_))
        obtain ⟨hk, hE⟩ := hpk
        show qEy M_X12_alike 132 [qR m, qI (to : Int), qI what, qI ((i : Nat) + 1 : Int), qI ((t : Nat) + 1 : Int), qI (k : Int)] [] (rput h m f y4) Q
        refine qy (fun _ _ k9 => z_iload d_X12_alike_132 rfl k9) ?_
        refine qy (fun _ _ k9 => z_iload_n d_X12_alike_134 rfl rfl k9) ?_
        refine qy2 (fun _ _ => z_icmp_ge 182 d_X12_alike_135 (by decide)) (fun hc6 => ?_) (fun hc6 => ?_)
        · refine qy (fun _ _ k9 => z_iinc (ls' := [qR m, qI (to : Int), qI what, qI ((i : Nat) + 1 : Int), qI (((t : Nat) + 1 : Int) + 1), qI (k : Int)]) d_X12_alike_182 rfl (by decide) (by omega) rfl k9) ?_
          refine qy (fun _ _ k9 => z_goto 79 d_X12_alike_185 (by decide) k9) ?_
          exact qy (fun _ _ k9 => z_dr (qle_k rfl (qle_k rfl (qle_k rfl (qle_k rfl (qle_k (qi (by omega)) (qle_d qle_n)))))) rfl rfl k9) (kkt (t + 1) y4 (⟨by omega, (sq_tr (sq_tr hs2 (sq_fr hsf (by decide))) (sq_fr huf (by decide))), fr_at huf 25 (by decide) (fr_at hsf 25 (by decide) hT2), fr_at huf 27 (by decide) (fr_at hsf 27 (by decide) hS2), fr_at huf 28 (by decide) hsF, huF, q_lts hL ⟨hl9, fun z9 => by obtain ⟨k9, hk9, q9⟩ := z9; exact hE k9 (by omega) q9⟩⟩) (by omega))
        · refine qy (fun _ _ k9 => z_aload_n d_X12_alike_138 rfl rfl k9) ?_
          refine qy (fun _ _ k9 => z_getf (v := qR (m + 28)) d_X12_alike_139 fl_X12_95 rput_o rfl k9) ?_
          refine qy (fun _ _ k9 => z_iload d_X12_alike_142 rfl k9) ?_
          refine qy (fun _ _ k9 => z_ild k d_X12_alike_144 (rput_a2 28 (t := 0) (n := 32) (F := (y4 28)) rfl rfl rfl (by decide) (by decide)) rfl (by omega) k9) ?_
          refine qy (fun _ _ k9 => z_eq rfl (qc (qi (show ((y4 28) k) = ((ps (ownT g) (i + 1) 0 (-1) 0 (t + 1)) k) from fr_at huf 28 (by decide) hsF k (by omega))) rfl) rfl k9) ?_
          refine qy (fun _ _ k9 => z_aload_n d_X12_alike_145 rfl rfl k9) ?_
          refine qy (fun _ _ k9 => z_getf (v := qR (m + 30)) d_X12_alike_146 fl_X12_101 rput_o rfl k9) ?_
          refine qy (fun _ _ k9 => z_iload d_X12_alike_149 rfl k9) ?_
          refine qy (fun _ _ k9 => z_ild k d_X12_alike_151 (rput_a2 30 (t := 0) (n := 32) (F := (y4 30)) rfl rfl rfl (by decide) (by decide)) rfl (by omega) k9) ?_
          refine qy (fun _ _ k9 => z_eq rfl (qc (qi (show ((y4 30) k) = ((ps (othT g) (i + 1) 0 (-1) 0 (t + 1)) k) from huF k (by omega))) rfl) rfl k9) ?_
          refine qy2 (fun _ _ => z_icmp_eq 176 d_X12_alike_152 (by decide)) (fun hd9 => ?_) (fun hd9 => ?_)
          · refine qy (fun _ _ k9 => z_iinc (ls' := [qR m, qI (to : Int), qI what, qI ((i : Nat) + 1 : Int), qI ((t : Nat) + 1 : Int), qI ((k : Int) + 1)]) d_X12_alike_176 rfl (by decide) (by omega) rfl k9) ?_
            refine qy (fun _ _ k9 => z_goto 132 d_X12_alike_179 (by decide) k9) ?_
            exact qy (fun _ _ k9 => z_eq (qc rfl (qc rfl (qc rfl (qc rfl (qc rfl (qc (qi (by omega)) rfl)))))) rfl rfl k9) (kkk (k + 1) (⟨by omega, q_lts hE (fun z9 => z9 hd9)⟩) (by omega))
          · refine qy (fun _ _ k9 => z_iload_n d_X12_alike_155 rfl rfl k9) ?_
            suffices kJ156 : qEy M_X12_alike 175 [qR m, qI (to : Int), qI what, qI ((i : Nat) + 1 : Int), qI ((t : Nat) + 1 : Int), qI (k : Int)] [qI (qif (what ≠ 0) (qif (what ≠ 1) (k : Int) ((t : Nat) + 1 : Int)) ((i : Nat) + 1 : Int))] (rput h m f y4) Q by
              refine qy2 (fun _ _ => z_if_ne 163 d_X12_alike_156 (by decide)) (fun hc7 => ?_) (fun hc7 => ?_)
              · refine qy (fun _ _ k9 => z_iload_n d_X12_alike_163 rfl rfl k9) ?_
                refine qy (fun _ _ k9 => z_iconst d_X12_alike_164 (by decide) k9) ?_
                suffices kJ165 : qEy M_X12_alike 175 [qR m, qI (to : Int), qI what, qI ((i : Nat) + 1 : Int), qI ((t : Nat) + 1 : Int), qI (k : Int)] [qI (qif (what ≠ 1) (k : Int) ((t : Nat) + 1 : Int))] (rput h m f y4) Q by
                  refine qy2 (fun _ _ => z_icmp_ne 173 d_X12_alike_165 (by decide)) (fun hc8 => ?_) (fun hc8 => ?_)
                  · refine qy (fun _ _ k9 => z_iload d_X12_alike_173 rfl k9) ?_
                    exact qy (fun _ _ k9 => z_eq rfl (qc (qi (qif_t hc8).symm) rfl) rfl k9) kJ165
                  · refine qy (fun _ _ k9 => z_iload d_X12_alike_168 rfl k9) ?_
                    refine qy (fun _ _ k9 => z_goto 175 d_X12_alike_170 (by decide) k9) ?_
                    exact qy (fun _ _ k9 => z_eq rfl (qc (qi (qif_f hc8).symm) rfl) rfl k9) kJ165
                exact qy (fun _ _ k9 => z_eq rfl (qc (qi (qif_t hc7).symm) rfl) rfl k9) kJ156
              · refine qy (fun _ _ k9 => z_iload_n d_X12_alike_159 rfl rfl k9) ?_
                refine qy (fun _ _ k9 => z_goto 175 d_X12_alike_160 (by decide) k9) ?_
                exact qy (fun _ _ k9 => z_eq rfl (qc (qi (qif_f hc7).symm) rfl) rfl k9) kJ156
            exact y_ret (hQ y4 (sq_tr (sq_tr hs2 (sq_fr hsf (by decide))) (sq_fr huf (by decide)))) (z_iret d_X12_alike_175 rfl (qsi (alR_at what (by omega) hP (by omega) hL hl9 (by omega) hE hd9)) rfl)
set_option maxRecDepth 20000 in
set_option maxHeartbeats 4000000 in
theorem c_alike_no {h : qH} {m : Nat} {f : Nat → Int} {g : Nat → Nat → Int} (to what : Int) (hm : 2 ≤ m) (h0 : f 0 = 0) (hno : ¬ ((1 ≤ to ∧ to ≤ 24) ∧ 0 ≤ what ∧ what ≤ 2)) : qEx M_X12_alike 0 [qR m, qI to, qI what, qU, qU, qU] [] (rput h m f g) (some (qI (-1))) (rput h m f g) := by
  refine q_gen (fun r hr er eh => ?_)
  refine z_aload_n d_X12_alike_0 rfl rfl ?_
  refine z_iconst d_X12_alike_1 (by decide) ?_
  refine z_putf (fs' := [qI 0, qI (f 1), qI (f 2), qI (f 3), qI (f 4), qI (f 5), qI (f 6), qI (f 7), qR (m + 1), qR (m + 2), qR (m + 3), qR (m + 4), qR (m + 5), qR (m + 6), qR (m + 7), qR (m + 8), qR (m + 9), qR (m + 10), qI (f 18), qI (f 19), qI (f 20), qR (m + 11), qR (m + 12), qR (m + 13), qR (m + 14), qI (f 25), qR (m + 15), qI (f 27), qR (m + 16), qR (m + 17), qR (m + 18), qR (m + 19), qR (m + 20), qR (m + 21), qR (m + 22), qR (m + 23), qR (m + 24), qI (f 37), qI (f 38), qI (f 39), qI (f 40), qR (m + 25), qR (m + 26), qR (m + 27), qR (m + 28), qR (m + 29), qR (m + 30), qR (m + 31), qI (f 48), qR (m + 32), qR (m + 33), qR (m + 34), qR (m + 35), qR (m + 36), qR (m + 37)]) d_X12_alike_2 fp_X12_127 rput_o (fun _ => rfl) (fun _ => rfl) (Nat.le_of_ble_eq_true rfl) rfl ?_
  refine z_eq rfl rfl ((rput_sf (f' := qup f 0 0) rfl).trans (rput_cg (qup_self h0) rfl)) ?_
  refine z_iload_n d_X12_alike_5 rfl rfl ?_
  refine z_iconst d_X12_alike_6 (by decide) ?_
  refine z_bipush d_X12_alike_7 (by decide) ?_
  refine z_cs (M1 := M_X12_in) d_X12_alike_9 ls_X12_137 k_X12_in [qI to, qI 1, qI 24] rfl rfl (Nat.le_of_ble_eq_true rfl) (by decide) (by decide) (Nat.le_of_ble_eq_true rfl) (c_in to 1 24) ?_
  refine z_ifeqB 24 d_X12_alike_12 (by decide) (fun hc1 => ?_) (fun hc1 => ?_)
  · refine z_iconst d_X12_alike_24 (by decide) ?_
    exact z_iret d_X12_alike_25 rfl er eh
  · refine z_iload_n d_X12_alike_15 rfl rfl ?_
    refine z_iconst d_X12_alike_16 (by decide) ?_
    refine z_iconst d_X12_alike_17 (by decide) ?_
    refine z_cs (M1 := M_X12_in) d_X12_alike_18 ls_X12_137 k_X12_in [qI what, qI 0, qI 2] rfl rfl (Nat.le_of_ble_eq_true rfl) (by decide) (by decide) (Nat.le_of_ble_eq_true rfl) (c_in what 0 2) ?_
    refine z_ifneB 26 d_X12_alike_21 (by decide) (fun hc2 => ?_) (fun hc2 => ?_)
    · exact absurd (by omega) hno
    · refine z_iconst d_X12_alike_24 (by decide) ?_
      exact z_iret d_X12_alike_25 rfl er eh
