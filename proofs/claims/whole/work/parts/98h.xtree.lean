/-! ===== CONTRACTS: a run on a tree ===== -/
theorem c_rwC {h : qH} {F G : Nat → Nat → Int} {q L : Nat} (i c : Nat) (hqb : 2 ≤ q) (hqk : xk q = 6) (hL : F q 2 = (L : Int)) (hLm : L ≤ xM q) (hi : i < L) (hc : c ≤ 3) : qEx M_X6_cell 0 [qR q, qI (i : Int), qI (c : Int), qU] [] (xput h F G) (some (qI (G (q + 1) (4 * i + c)))) (xput h F G) := by
  have e := c_rwCell (h := h) (G := G) (i : Int) (c : Int) hqb hqk hL hLm
  rw [qif_t (by omega), show (4 * (i : Int) + (c : Int)).toNat = 4 * i + c by omega] at e
  exact e
/-- who is above each, by the lines of a tree -/
def trF (C Z : Nat → Int) : Nat → Nat → Int
  | 0 => Z
  | i + 1 => qup (trF C Z i) (C (4 * i)).toNat (C (4 * i + 1))
def trG9 (C : Nat → Int) : Nat → Int
  | 0 => 0
  | i + 1 => if trG9 C i < C (4 * i) then C (4 * i) else trG9 C i
def trC (C : Nat → Int) (L : Nat) : Prop := ∀ i, i < L → (1 ≤ C (4 * i) ∧ C (4 * i) ≤ 15) ∧ 0 ≤ C (4 * i + 1) ∧ C (4 * i + 1) < C (4 * i)
theorem trG9_bd {C : Nat → Int} {L : Nat} (h : trC C L) : ∀ i, i ≤ L → 0 ≤ trG9 C i ∧ trG9 C i ≤ 15
  | 0, _ => by show (0 : Int) ≤ 0 ∧ (0 : Int) ≤ 15; omega
  | i + 1, hi => by
    have h1 := trG9_bd h i (by omega)
    have h2 := h i (by omega)
    have h3 : trG9 C (i + 1) = if trG9 C i < C (4 * i) then C (4 * i) else trG9 C i := rfl
    rw [h3]
    split <;> omega
theorem trF_cg {C Z Y : Nat → Int} (hZ : ∀ k, k < 32 → Z k = Y k) : ∀ i k, k < 32 → trF C Z i k = trF C Y i k
  | 0, k, hk => hZ k hk
  | i + 1, k, hk => by
    show qup _ _ _ k = qup _ _ _ k
    by_cases e : k = (C (4 * i)).toNat
    · rw [e, qup_eq, qup_eq]
    · rw [qup_ne e, qup_ne e]; exact trF_cg hZ i k hk
theorem trF_bd {C : Nat → Int} {L : Nat} (h : trC C L) : ∀ i, i ≤ L → ∀ k : Nat, -1 ≤ trF C (fun _ => -1) i k ∧ (trF C (fun _ => -1) i k = -1 ∨ (trF C (fun _ => -1) i k < k ∧ (k : Int) ≤ trG9 C i))
  | 0, _, k => ⟨by show (-1 : Int) ≤ -1; omega, Or.inl rfl⟩
  | i + 1, hi, k => by
    have h1 := trF_bd h i (by omega) k
    have h2 := h i (by omega)
    have h3 : trG9 C (i + 1) = if trG9 C i < C (4 * i) then C (4 * i) else trG9 C i := rfl
    show -1 ≤ qup _ _ _ k ∧ (qup _ _ _ k = -1 ∨ (qup _ _ _ k < (k : Int) ∧ _))
    by_cases e : k = (C (4 * i)).toNat
    · rw [show qup (trF C (fun _ => -1) i) (C (4 * i)).toNat (C (4 * i + 1)) k = C (4 * i + 1) by rw [e, qup_eq]]
      refine ⟨by omega, Or.inr ⟨by omega, ?_⟩⟩
      rw [h3]; split <;> omega
    · rw [qup_ne e]
      refine ⟨h1.1, h1.2.imp id (fun z => ⟨z.1, ?_⟩)⟩
      rw [h3]; split <;> omega
theorem trF_at {C : Nat → Int} {L : Nat} (h : trC C L) : ∀ i, i ≤ L → trG9 C i = 0 ∨ trF C (fun _ => -1) i (trG9 C i).toNat ≠ -1
  | 0, _ => Or.inl rfl
  | i + 1, hi => by
    have h1 := trF_at h i (by omega)
    have h2 := h i (by omega)
    have h3 : trG9 C (i + 1) = if trG9 C i < C (4 * i) then C (4 * i) else trG9 C i := rfl
    by_cases e : trG9 C i < C (4 * i)
    · refine Or.inr ?_
      rw [h3, if_pos e]
      show qup _ _ _ _ ≠ -1
      rw [qup_eq]; omega
    · rw [h3, if_neg e]
      refine h1.imp id (fun z => ?_)
      show qup _ _ _ _ ≠ -1
      by_cases e2 : (trG9 C i).toNat = (C (4 * i)).toNat
      · rw [e2, qup_eq]; omega
      · rw [qup_ne e2]; exact z
theorem trN_le {A : Nat → Int} {x : Nat} : ∀ k, (∀ j, x < j → j < k → A j = -1) → x < k → trN A k ≤ x + 1
  | 0, _, h => absurd h (by omega)
  | k + 1, h, hk => by
    show qif (A k ≠ -1) _ _ ≤ x + 1
    by_cases e : k = x
    · subst e
      have := trN_bd (A := A) k
      exact qif_or (fun z => z ≤ k + 1) (by omega) (by omega)
    · rw [qif_f (fun z => z (h k (by omega) (by omega)))]
      exact trN_le k (fun j h1 h2 => h j h1 (by omega)) (by omega)
theorem trN_ge {A : Nat → Int} {x : Nat} (hx : A x ≠ -1) : ∀ k, x < k → x + 1 ≤ trN A k
  | 0, h => absurd h (by omega)
  | k + 1, hk => by
    show x + 1 ≤ qif (A k ≠ -1) _ _
    by_cases e : k = x
    · subst e; rw [qif_t hx]; omega
    · have := trN_ge hx k (by omega)
      exact qif_or (fun z => x + 1 ≤ z) (by omega) this
/-- how many keepers: the greatest named and one -/
theorem trN_X {C A : Nat → Int} {L : Nat} (h : trC C L) (hA : ∀ k, k < 16 → A k = trF C (fun _ => -1) L k) : (trN A 16 : Int) = trG9 C L + 1 := by
  have h1 := trG9_bd h L (Nat.le_refl _)
  have h2 := trN_le (A := A) (x := (trG9 C L).toNat) 16 (fun j h3 h4 => by
    rw [hA j h4]
    rcases (trF_bd h L (Nat.le_refl _) j).2 with z | z
    · exact z
    · omega) (by omega)
  have h3 := trN_bd (A := A) 16
  rcases trF_at h L (Nat.le_refl _) with z | z
  · omega
  · have := trN_ge (A := A) (x := (trG9 C L).toNat) (by rw [hA _ (by omega)]; exact z) 16 (by omega)
    omega
theorem trA_F {C A : Nat → Int} {L : Nat} (h : trC C L) (hA : ∀ k, k < 16 → A k = trF C (fun _ => -1) L k) : trA A := fun k hk => by
  rw [hA k hk]
  have := trF_bd h L (Nat.le_refl _) k
  omega
set_option maxRecDepth 20000 in
set_option maxHeartbeats 4000000 in
theorem c_trStart {h : qH} {F G : Nat → Nat → Int} {n L : Nat} (hL : F 54 2 = (L : Int)) (hLm : L ≤ xM 54) (hC : trC (G 55) L) (hn : (n : Int) = trG9 (G 55) L + 1) : ∃ F' G', (xfr 173 176 F G F' G' ∧ rnS F' G' 173 n 0 1 (-1) 0 0 0 (fun k => qb ((k : Int) = 0)) ∧ ∀ k, k < 32 → G' 175 k = trF (G 55) (fun _ => -1) L k) ∧ qEx M_X7_startTree 0 [qR 173, qR 54, qU, qU, qU] [] (xput h F G) none (xput h F' G') := by
  refine x_in (fun Q hQ => ?_)
  have hX := trG9_bd hC L (Nat.le_refl _)
  have hM150 : xM 54 ≤ 150 := by decide
  refine qy (fun _ _ k9 => z_iconst d_X7_startTree_0 (by decide) k9) ?_
  refine qy (fun _ _ k9 => z_istore_n (ls' := [qR 173, qR 54, qI 0, qU, qU]) d_X7_startTree_1 rfl (by decide) rfl k9) ?_
  refine qy (fun _ _ k9 => z_aload_n d_X7_startTree_2 rfl rfl k9) ?_
  refine qy (fun _ _ k9 => z_getf (v := qR 175) d_X7_startTree_3 fl_X7_15 (xput_ob (c := (F 173)) xi_173 rfl (xsh_7 xo_173)) rfl k9) ?_
  refine qy (fun _ _ k9 => z_iconst d_X7_startTree_6 (by decide) k9) ?_
  refine qy (fun _ _ k9 => z_cs0 (M1 := M_J7_fill_53178) d_X7_startTree_7 ls_X7_47 k_J7_fill_53178 [qR 175, qI (-1)] rfl rfl (Nat.le_of_ble_eq_true rfl) (by decide) (by decide) (Nat.le_of_ble_eq_true rfl) (c_fill (xput_ar (g := (G 175)) xa_175 rfl) (by decide) (by decide)) k9) ?_
  refine qy (fun _ _ k9 => z_eq rfl rfl (xput_sa xa_175) k9) ?_
  refine qy (fun _ _ k9 => z_iconst d_X7_startTree_10 (by decide) k9) ?_
  refine qy (fun _ _ k9 => z_istore_n (ls' := [qR 173, qR 54, qI 0, qI 0, qU]) d_X7_startTree_11 rfl (by decide) rfl k9) ?_
  refine qy (fun _ _ k9 => z_eq (qc rfl (qc rfl (qc (qi (rfl)) (qc (qi (rfl)) (qc rfl rfl))))) rfl rfl k9) (y_wh1 (fun (i : Nat) => L - i) (fun (i : Nat) => [qR 173, qR 54, qI (trG9 (G 55) i), qI (i : Int), qU]) (fun (i : Nat) => (xput h F (gup G 175 (trF (G 55) (qmx 32 (fun _ => (-1)) (G 175)) i)))) (fun (i : Nat) => i ≤ L) 0 (Nat.zero_le L) (fun i hi kk => ?_))
  show qEy M_X7_startTree 12 [qR 173, qR 54, qI (trG9 (G 55) i), qI (i : Int), qU] [] (xput h F (gup G 175 (trF (G 55) (qmx 32 (fun _ => (-1)) (G 175)) i))) Q
  refine qy (fun _ _ k9 => z_iload_n d_X7_startTree_12 rfl rfl k9) ?_
  refine qy (fun _ _ k9 => z_aload_n d_X7_startTree_13 rfl rfl k9) ?_
  refine qy (fun _ _ k9 => z_getf (v := qI ((F 54) 2)) d_X7_startTree_14 fl_X7_53 (xput_ob (c := (F 54)) xi_54 rfl (xsh_6 xo_54)) rfl k9) ?_
  refine qy (fun _ _ k9 => z_eq rfl (qc (qi hL) rfl) rfl k9) ?_
  refine qy2 (fun _ _ => z_icmp_ge 54 d_X7_startTree_17 (by decide)) (fun hc1 => ?_) (fun hc1 => ?_)
  · have hXi := trG9_bd hC i (by omega)
    refine qy (fun _ _ k9 => z_aload_n d_X7_startTree_54 rfl rfl k9) ?_
    refine qy (fun _ _ k9 => z_iload_n d_X7_startTree_55 rfl rfl k9) ?_
    refine qy (fun _ _ k9 => z_iconst d_X7_startTree_56 (by decide) k9) ?_
    refine qy (fun _ _ k9 => z_iadd d_X7_startTree_57 (by omega) k9) ?_
    refine qy (fun _ _ k9 => z_iconst d_X7_startTree_58 (by decide) k9) ?_
    refine qy (fun _ _ k9 => z_iconst d_X7_startTree_59 (by decide) k9) ?_
    refine qy (fun _ _ k9 => z_eq rfl (qc rfl (qc rfl (qc (qi (show ((trG9 (G 55) i) + 1) = (n : Int) from by rw [hn, show i = L by omega])) rfl))) rfl k9) ?_
    obtain ⟨F1, G1, ⟨hv1, hw1, hu1, hg1⟩, hx1⟩ := c_rnStart (h := h) (F := F) (G := (gup G 175 (trF (G 55) (qmx 32 (fun _ => (-1)) (G 175)) i))) (u := 173) n 0 0 (by decide) xo_173 (by omega) (by decide) (by decide)
    refine qy (fun _ _ k9 => z_cv0 (M1 := M_X7_start) d_X7_startTree_60 lv_X7_67 k_X7_start [qI (n : Int), qI 0, qI 0] rfl rfl (xput_ob (c := (F 173)) xi_173 rfl (xsh_7 xo_173)) ⟨_, _, rfl⟩ (Nat.le_of_ble_eq_true rfl) (by decide) (by decide) (Nat.le_of_ble_eq_true rfl) hx1 k9) ?_
    refine qy (fun _ _ k9 => z_aload_n d_X7_startTree_63 rfl rfl k9) ?_
    refine qy (fun _ _ k9 => z_iconst d_X7_startTree_64 (by decide) k9) ?_
    refine qy (fun _ _ k9 => z_putf (fs' := [qR 174, qR 175, qR 176, qI ((F1 173) 3), qI ((F1 173) 4), qI 1, qI ((F1 173) 6), qI ((F1 173) 7), qI ((F1 173) 8), qI ((F1 173) 9), qI ((F1 173) 10)]) d_X7_startTree_65 fp_X7_29 (xput_ob (c := (F1 173)) xi_173 rfl (xsh_7 xo_173)) (fun _ => rfl) (fun _ => rfl) (Nat.le_of_ble_eq_true rfl) rfl k9) ?_
    refine qy (fun _ _ k9 => z_eq rfl rfl (xput_sf (c := (qup (F1 173) 5 1)) xi_173 (xsh_7 xo_173)) k9) ?_
    exact y_ret (hQ (gup F1 173 (qup (F1 173) 5 1)) G1 (⟨xfr_f (xfr_tr (xfr_g (xfr_rf _ _ _ _) (by decide) (by decide)) hv1) (by decide) (by decide), ⟨by rw [gup_eq]; exact ⟨hw1.1.1, hw1.1.2.1, rfl, hw1.1.2.2.2⟩, by rw [gup_eq]; exact hw1.2.1, hw1.2.2⟩, fun k hk => by rw [hg1 175 (by decide), gup_eq, show i = L by omega]; exact trF_cg (fun j hj => qmx_lt hj) L k hk⟩)) (z_vret d_X7_startTree_68 rfl rfl rfl)
  · have hCi := hC i (by omega)
    refine qy (fun _ _ k9 => z_aload_n d_X7_startTree_20 rfl rfl k9) ?_
    refine qy (fun _ _ k9 => z_iload_n d_X7_startTree_21 rfl rfl k9) ?_
    refine qy (fun _ _ k9 => z_iconst d_X7_startTree_22 (by decide) k9) ?_
    refine qy (fun _ _ k9 => z_cv (M1 := M_X6_cell) d_X7_startTree_23 lv_X7_58 k_X6_cell [qI (i : Int), qI 0] rfl rfl (xput_ob (c := (F 54)) xi_54 rfl (xsh_6 xo_54)) ⟨_, _, rfl⟩ (Nat.le_of_ble_eq_true rfl) (by decide) (by decide) (Nat.le_of_ble_eq_true rfl) (c_rwC (q := 54) (L := L) i 0 (by decide) xo_54 hL hLm (by omega) (by decide)) k9) ?_
    refine qy (fun _ _ k9 => z_istore (ls' := [qR 173, qR 54, qI (trG9 (G 55) i), qI (i : Int), qI (G 55 (4 * i))]) d_X7_startTree_26 (by decide) rfl k9) ?_
    refine qy (fun _ _ k9 => z_aload_n d_X7_startTree_28 rfl rfl k9) ?_
    refine qy (fun _ _ k9 => z_getf (v := qR 175) d_X7_startTree_29 fl_X7_15 (xput_ob (c := (F 173)) xi_173 rfl (xsh_7 xo_173)) rfl k9) ?_
    refine qy (fun _ _ k9 => z_iload d_X7_startTree_32 rfl k9) ?_
    refine qy (fun _ _ k9 => z_aload_n d_X7_startTree_34 rfl rfl k9) ?_
    refine qy (fun _ _ k9 => z_iload_n d_X7_startTree_35 rfl rfl k9) ?_
    refine qy (fun _ _ k9 => z_iconst d_X7_startTree_36 (by decide) k9) ?_
    refine qy (fun _ _ k9 => z_cv (M1 := M_X6_cell) d_X7_startTree_37 lv_X7_58 k_X6_cell [qI (i : Int), qI 1] rfl rfl (xput_ob (c := (F 54)) xi_54 rfl (xsh_6 xo_54)) ⟨_, _, rfl⟩ (Nat.le_of_ble_eq_true rfl) (by decide) (by decide) (Nat.le_of_ble_eq_true rfl) (c_rwC (q := 54) (L := L) i 1 (by decide) xo_54 hL hLm (by omega) (by decide)) k9) ?_
    refine qy (fun _ _ k9 => z_ist ((G 55 (4 * i)).toNat) d_X7_startTree_40 (xput_ar (g := (trF (G 55) (qmx 32 (fun _ => (-1)) (G 175)) i)) xa_175 rfl) (by omega) (by omega) (by omega) k9) ?_
    refine qy (fun _ _ k9 => z_eq rfl rfl ((xput_sa xa_175).trans (xput_cg rfl (gup_gup _ _ _))) k9) ?_
    refine qy (fun _ _ k9 => z_iload_n d_X7_startTree_41 rfl rfl k9) ?_
    refine qy (fun _ _ k9 => z_iload d_X7_startTree_42 rfl k9) ?_
    refine qy (fun _ _ k9 => z_max d_X7_startTree_44 lb_X7_62 (by decide) (Nat.le_of_ble_eq_true rfl) k9) ?_
    refine qy (fun _ _ k9 => z_istore_n (ls' := [qR 173, qR 54, qI (if (trG9 (G 55) i) < (G 55 (4 * i)) then (G 55 (4 * i)) else (trG9 (G 55) i)), qI (i : Int), qI (G 55 (4 * i))]) d_X7_startTree_47 rfl (by decide) rfl k9) ?_
    refine qy (fun _ _ k9 => z_iinc (ls' := [qR 173, qR 54, qI (if (trG9 (G 55) i) < (G 55 (4 * i)) then (G 55 (4 * i)) else (trG9 (G 55) i)), qI ((i : Int) + 1), qI (G 55 (4 * i))]) d_X7_startTree_48 rfl (by decide) (by omega) rfl k9) ?_
    refine qy (fun _ _ k9 => z_goto 12 d_X7_startTree_51 (by decide) k9) ?_
    exact qy (fun _ _ k9 => z_dr (qle_k rfl (qle_k rfl (qle_k (qi (rfl)) (qle_k (qi (by omega)) (qle_d qle_n))))) rfl rfl k9) (kk (i + 1) (by omega) (by omega))
theorem blF_1 {A M : Nat → Int} {k : Nat} (h0 : A 0 = -1) : blF A M (k : Int) 1 = -1 := by
  show qif (A 0 ≠ (k : Int)) _ _ = _
  rw [qif_t (by omega)]; rfl
theorem blF_s {A M : Nat → Int} {i k : Nat} {a : Int} (h : A i = -1) : blF A M (k : Int) (i + 1) = blF A M (k : Int) i := by
  show qif (A i ≠ (k : Int)) _ _ = _
  rw [qif_t (by omega)]
theorem tsC_c {A M : Nat → Int} {n i : Nat} {b : Int} (hb : b = bel A M (i : Int) n) {l : Int} (hl : l = tsL A M i) {m : Int} (hm : m = M i) : 81 * m + 9 * l + b = tsC A n M i := by
  subst hb; subst hl; subst hm; rfl
theorem q2_cg {f : Nat → Int} {k l : Nat} {a b a' b' : Int} (h1 : a = a') (h2 : b = b') : qup (qup f k a) l b = qup (qup f k a') l b' := by rw [h1, h2]
set_option maxRecDepth 20000 in
set_option maxHeartbeats 4000000 in
theorem c_trBreath {h : qH} {F G : Nat → Nat → Int} {n : Nat} {A M T : Nat → Int} (hN : F 173 3 = (n : Int)) (hn : 1 ≤ n ∧ n ≤ 16) (hA : ∀ k, k < n → G 175 k = A k) (hAt : trA A) (hM : ∀ k, k < n → G 174 k = M k) (hMb : ∀ k, k < n → 0 ≤ M k ∧ M k ≤ 7) (hT : ∀ c, c < 648 → G 6 c = T c) : ∃ F' G', (xfr 173 176 F G F' G' ∧ F' 173 = qup (qup (F 173) 9 (cnt (fun k => (tst T A n M) k = 7) n)) 10 (cnt (fun k => (tst T A n M) k ≠ M k) n) ∧ G' 175 = G 175 ∧ ∀ k, k < n → G' 174 k = (tst T A n M) k) ∧ qEx M_X7_breatheTree 0 [qR 173, qR 6, qU, qU, qU, qU] [] (xput h F G) none (xput h F' G') := by
  refine x_in (fun Q hQ => ?_)
  have hA0 : A 0 = -1 := by have := hAt 0 (by omega); omega
  refine qy (fun _ _ k9 => z_aload_n d_X7_breatheTree_0 rfl rfl k9) ?_
  refine qy (fun _ _ k9 => z_getf (v := qR 176) d_X7_breatheTree_1 fl_X7_18 (xput_ob (c := (F 173)) xi_173 rfl (xsh_7 xo_173)) rfl k9) ?_
  refine qy (fun _ _ k9 => z_iconst d_X7_breatheTree_4 (by decide) k9) ?_
  refine qy (fun _ _ k9 => z_cs0 (M1 := M_J7_fill_53178) d_X7_breatheTree_5 ls_X7_47 k_J7_fill_53178 [qR 176, qI (-1)] rfl rfl (Nat.le_of_ble_eq_true rfl) (by decide) (by decide) (Nat.le_of_ble_eq_true rfl) (c_fill (xput_ar (g := (G 176)) xa_176 rfl) (by decide) (by decide)) k9) ?_
  refine qy (fun _ _ k9 => z_eq rfl rfl (xput_sa xa_176) k9) ?_
  refine qy (fun _ _ k9 => z_iconst d_X7_breatheTree_8 (by decide) k9) ?_
  refine qy (fun _ _ k9 => z_istore_n (ls' := [qR 173, qR 6, qI 1, qU, qU, qU]) d_X7_breatheTree_9 rfl (by decide) rfl k9) ?_
  refine qy (fun _ _ k9 => z_eq (qc rfl (qc rfl (qc (qi (rfl)) (qc rfl (qc rfl (qc rfl rfl)))))) rfl rfl k9) (y_wh2 (fun (i : Nat) (Ga : Nat → Nat → Int) => n - i) (fun (i : Nat) (Ga : Nat → Nat → Int) => [qR 173, qR 6, qI (i : Int), qU, qU, qU]) (fun (i : Nat) (Ga : Nat → Nat → Int) => (xput h F Ga)) (fun (i : Nat) (Ga : Nat → Nat → Int) => (1 ≤ i ∧ i ≤ n) ∧ (∀ a, a ≠ 176 → Ga a = G a) ∧ ∀ k : Nat, k < 32 → Ga 176 k = blF A M (k : Int) i) 1 (gup G 176 (qmx 32 (fun _ => -1) (G 176))) (⟨by omega, fun a ha => gup_ne ha, fun k hk => by rw [gup_eq, qmx_lt hk]; exact (blF_1 hA0).symm⟩) (fun i Ga hp kk => ?_))
  obtain ⟨hi, hfr, hbl⟩ := hp
  show qEy M_X7_breatheTree 10 [qR 173, qR 6, qI (i : Int), qU, qU, qU] [] (xput h F Ga) Q
  refine qy (fun _ _ k9 => z_iload_n d_X7_breatheTree_10 rfl rfl k9) ?_
  refine qy (fun _ _ k9 => z_aload_n d_X7_breatheTree_11 rfl rfl k9) ?_
  refine qy (fun _ _ k9 => z_getf (v := qI ((F 173) 3)) d_X7_breatheTree_12 fl_X7_21 (xput_ob (c := (F 173)) xi_173 rfl (xsh_7 xo_173)) rfl k9) ?_
  refine qy (fun _ _ k9 => z_eq rfl (qc (qi hN) rfl) rfl k9) ?_
  refine qy2 (fun _ _ => z_icmp_ge 65 d_X7_breatheTree_15 (by decide)) (fun hc1 => ?_) (fun hc1 => ?_)
  · refine qy (fun _ _ k9 => z_aload_n d_X7_breatheTree_65 rfl rfl k9) ?_
    refine qy (fun _ _ k9 => z_iconst d_X7_breatheTree_66 (by decide) k9) ?_
    refine qy (fun _ _ k9 => z_putf (fs' := [qR 174, qR 175, qR 176, qI ((F 173) 3), qI ((F 173) 4), qI ((F 173) 5), qI ((F 173) 6), qI ((F 173) 7), qI ((F 173) 8), qI 0, qI ((F 173) 10)]) d_X7_breatheTree_67 fp_X7_41 (xput_ob (c := (F 173)) xi_173 rfl (xsh_7 xo_173)) (fun _ => rfl) (fun _ => rfl) (Nat.le_of_ble_eq_true rfl) rfl k9) ?_
    refine qy (fun _ _ k9 => z_eq rfl rfl (xput_sf (c := (qup (F 173) 9 0)) xi_173 (xsh_7 xo_173)) k9) ?_
    refine qy (fun _ _ k9 => z_aload_n d_X7_breatheTree_70 rfl rfl k9) ?_
    refine qy (fun _ _ k9 => z_iconst d_X7_breatheTree_71 (by decide) k9) ?_
    refine qy (fun _ _ k9 => z_putf (fs' := [qR 174, qR 175, qR 176, qI ((F 173) 3), qI ((F 173) 4), qI ((F 173) 5), qI ((F 173) 6), qI ((F 173) 7), qI ((F 173) 8), qI 0, qI 0]) d_X7_breatheTree_72 fp_X7_44 (xput_ob (c := (qup (F 173) 9 0)) xi_173 rfl (xsh_7 xo_173)) (fun _ => rfl) (fun _ => rfl) (Nat.le_of_ble_eq_true rfl) rfl k9) ?_
    refine qy (fun _ _ k9 => z_eq rfl rfl ((xput_sf (c := (qup (qup (F 173) 9 0) 10 0)) xi_173 (xsh_7 xo_173)).trans (xput_cg (gup_gup _ _ _) rfl)) k9) ?_
    refine qy (fun _ _ k9 => z_aload_n d_X7_breatheTree_75 rfl rfl k9) ?_
    refine qy (fun _ _ k9 => z_getf (v := qI ((F 173) 3)) d_X7_breatheTree_76 fl_X7_21 (xput_ob (c := (qup (qup (F 173) 9 0) 10 0)) xi_173 rfl (xsh_7 xo_173)) rfl k9) ?_
    refine qy (fun _ _ k9 => z_eq rfl (qc (qi hN) rfl) rfl k9) ?_
    refine qy (fun _ _ k9 => z_iconst d_X7_breatheTree_79 (by decide) k9) ?_
    refine qy (fun _ _ k9 => z_isub d_X7_breatheTree_80 (by omega) k9) ?_
    refine qy (fun _ _ k9 => z_istore_n (ls' := [qR 173, qR 6, qI ((n : Int) - 1), qU, qU, qU]) d_X7_breatheTree_81 rfl (by decide) rfl k9) ?_
    refine qy (fun _ _ k9 => z_eq (qc rfl (qc rfl (qc (qi (rfl)) (qc rfl (qc rfl (qc rfl rfl)))))) rfl (xput_cg (gup_cg rfl (q2_cg (by rw [Int.sub_self]) (by rw [Int.sub_self]))) rfl) k9) (y_wh2 (fun (j : Nat) (Gb : Nat → Nat → Int) => j) (fun (j : Nat) (Gb : Nat → Nat → Int) => [qR 173, qR 6, qI ((j : Int) - 1), qU, qU, qU]) (fun (j : Nat) (Gb : Nat → Nat → Int) => (xput h (gup F 173 (qup (qup (F 173) 9 (cnt (fun k => (tst T A n M) k = 7) n - cnt (fun k => (tst T A n M) k = 7) j)) 10 (cnt (fun k => (tst T A n M) k ≠ M k) n - cnt (fun k => (tst T A n M) k ≠ M k) j))) Gb)) (fun (j : Nat) (Gb : Nat → Nat → Int) => j ≤ n ∧ (∀ a, a ≠ 176 → a ≠ 174 → Gb a = G a) ∧ (∀ k : Nat, k < 32 → Gb 176 k = blF A M (k : Int) n) ∧ (∀ k, k < j → Gb 174 k = M k) ∧ ∀ k, j ≤ k → k < n → Gb 174 k = (tst T A n M) k) n Ga (⟨by omega, fun a h1 _ => hfr a h1, fun k hk => by rw [hbl k hk, show i = n by omega], fun k hk => by rw [hfr 174 (by decide)]; exact hM k hk, fun k h1 h2 => absurd h1 (by omega)⟩) (fun j Gb hpj kkj => ?_))
    obtain ⟨hj, hfb, hbb, hlo, hhi⟩ := hpj
    show qEy M_X7_breatheTree 82 [qR 173, qR 6, qI ((j : Int) - 1), qU, qU, qU] [] (xput h (gup F 173 (qup (qup (F 173) 9 (cnt (fun k => (tst T A n M) k = 7) n - cnt (fun k => (tst T A n M) k = 7) j)) 10 (cnt (fun k => (tst T A n M) k ≠ M k) n - cnt (fun k => (tst T A n M) k ≠ M k) j))) Gb) Q
    refine qy (fun _ _ k9 => z_iload_n d_X7_breatheTree_82 rfl rfl k9) ?_
    refine qy2 (fun _ _ => z_if_lt 215 d_X7_breatheTree_83 (by decide)) (fun hc2 => ?_) (fun hc2 => ?_)
    · exact y_ret (hQ (gup F 173 (qup (qup (F 173) 9 (cnt (fun k => (tst T A n M) k = 7) n - cnt (fun k => (tst T A n M) k = 7) j)) 10 (cnt (fun k => (tst T A n M) k ≠ M k) n - cnt (fun k => (tst T A n M) k ≠ M k) j))) Gb (⟨fun b hb => ⟨gup_ne (by omega), hfb b (by omega) (by omega)⟩, (by rw [gup_eq, show j = 0 by omega]; show qup (qup (F 173) 9 (cnt (fun k => (tst T A n M) k = 7) n - 0)) 10 (cnt (fun k => (tst T A n M) k ≠ M k) n - 0) = _; rw [Int.sub_zero, Int.sub_zero]), hfb 175 (by decide) (by decide), fun k hk => hhi k (by omega) hk⟩)) (z_vret d_X7_breatheTree_215 rfl rfl rfl)
    · obtain ⟨e, hje⟩ : ∃ e, j = e + 1 := ⟨j - 1, by omega⟩
      have hAe := hAt e (by omega)
      have hMe := hMb e (by omega)
      have eL := tsL_bd hAt hn.2 (show e < n by omega) hMb
      have eB := bel_bd (A := A) (k := (e : Int)) hMb
      have eC := tsC_bd hAt hn.2 (show e < n by omega) hMb
      have cA := cnt_bd (fun k => (tst T A n M) k = 7) n
      have cB := cnt_bd (fun k => (tst T A n M) k ≠ M k) n
      have cC := cnt_bd (fun k => (tst T A n M) k = 7) j
      have cD := cnt_bd (fun k => (tst T A n M) k ≠ M k) j
      have b1 := qb_bd ((tst T A n M) e = 7)
      have b2 := qb_bd ((tst T A n M) e ≠ M e)
      have s1 : cnt (fun k => (tst T A n M) k = 7) j = cnt (fun k => (tst T A n M) k = 7) e + qb ((tst T A n M) e = 7) := by rw [hje]; rfl
      have s2 : cnt (fun k => (tst T A n M) k ≠ M k) j = cnt (fun k => (tst T A n M) k ≠ M k) e + qb ((tst T A n M) e ≠ M e) := by rw [hje]; rfl
      refine qy (fun _ _ k9 => z_eq (qc rfl (qc rfl (qc (qi (show ((j : Int) - 1) = (e : Int) from by omega)) rfl))) rfl rfl k9) ?_
      refine qy (fun _ _ k9 => z_aload_n d_X7_breatheTree_86 rfl rfl k9) ?_
      refine qy (fun _ _ k9 => z_getf (v := qR 174) d_X7_breatheTree_87 fl_X7_9 (xput_ob (c := (qup (qup (F 173) 9 (cnt (fun k => (tst T A n M) k = 7) n - cnt (fun k => (tst T A n M) k = 7) j)) 10 (cnt (fun k => (tst T A n M) k ≠ M k) n - cnt (fun k => (tst T A n M) k ≠ M k) j))) xi_173 rfl (xsh_7 xo_173)) rfl k9) ?_
      refine qy (fun _ _ k9 => z_iload_n d_X7_breatheTree_90 rfl rfl k9) ?_
      refine qy (fun _ _ k9 => z_ild e d_X7_breatheTree_91 (xput_ar (g := (Gb 174)) xa_174 rfl) rfl (by omega) k9) ?_
      refine qy (fun _ _ k9 => z_eq rfl (qc (qi (show ((Gb 174) e) = (M e) from hlo e (by omega))) rfl) rfl k9) ?_
      refine qy (fun _ _ k9 => z_istore_n (ls' := [qR 173, qR 6, qI (e : Int), qI (M e), qU, qU]) d_X7_breatheTree_92 rfl (by decide) rfl k9) ?_
      refine qy (fun _ _ k9 => z_aload_n d_X7_breatheTree_93 rfl rfl k9) ?_
      refine qy (fun _ _ k9 => z_getf (v := qR 175) d_X7_breatheTree_94 fl_X7_15 (xput_ob (c := (qup (qup (F 173) 9 (cnt (fun k => (tst T A n M) k = 7) n - cnt (fun k => (tst T A n M) k = 7) j)) 10 (cnt (fun k => (tst T A n M) k ≠ M k) n - cnt (fun k => (tst T A n M) k ≠ M k) j))) xi_173 rfl (xsh_7 xo_173)) rfl k9) ?_
      refine qy (fun _ _ k9 => z_iload_n d_X7_breatheTree_97 rfl rfl k9) ?_
      refine qy (fun _ _ k9 => z_ild e d_X7_breatheTree_98 (xput_ar (g := (Gb 175)) xa_175 rfl) rfl (by omega) k9) ?_
      refine qy (fun _ _ k9 => z_eq rfl (qc (qi (show ((Gb 175) e) = (A e) from by rw [hfb 175 (by decide) (by decide)]; exact hA e (by omega))) rfl) rfl k9) ?_
      refine qy (fun _ _ k9 => z_iconst d_X7_breatheTree_99 (by decide) k9) ?_
      refine qy2 (fun _ _ => z_icmp_ne 108 d_X7_breatheTree_100 (by decide)) (fun q100 => ?_) (fun q100 => ?_)
      · refine qy (fun _ _ k9 => z_aload_n d_X7_breatheTree_108 rfl rfl k9) ?_
        refine qy (fun _ _ k9 => z_getf (v := qR 174) d_X7_breatheTree_109 fl_X7_9 (xput_ob (c := (qup (qup (F 173) 9 (cnt (fun k => (tst T A n M) k = 7) n - cnt (fun k => (tst T A n M) k = 7) j)) 10 (cnt (fun k => (tst T A n M) k ≠ M k) n - cnt (fun k => (tst T A n M) k ≠ M k) j))) xi_173 rfl (xsh_7 xo_173)) rfl k9) ?_
        refine qy (fun _ _ k9 => z_aload_n d_X7_breatheTree_112 rfl rfl k9) ?_
        refine qy (fun _ _ k9 => z_getf (v := qR 175) d_X7_breatheTree_113 fl_X7_15 (xput_ob (c := (qup (qup (F 173) 9 (cnt (fun k => (tst T A n M) k = 7) n - cnt (fun k => (tst T A n M) k = 7) j)) 10 (cnt (fun k => (tst T A n M) k ≠ M k) n - cnt (fun k => (tst T A n M) k ≠ M k) j))) xi_173 rfl (xsh_7 xo_173)) rfl k9) ?_
        refine qy (fun _ _ k9 => z_iload_n d_X7_breatheTree_116 rfl rfl k9) ?_
        refine qy (fun _ _ k9 => z_ild e d_X7_breatheTree_117 (xput_ar (g := (Gb 175)) xa_175 rfl) rfl (by omega) k9) ?_
        refine qy (fun _ _ k9 => z_eq rfl (qc (qi (show ((Gb 175) e) = (A e) from by rw [hfb 175 (by decide) (by decide)]; exact hA e (by omega))) rfl) rfl k9) ?_
        refine qy (fun _ _ k9 => z_ild ((A e).toNat) d_X7_breatheTree_118 (xput_ar (g := (Gb 174)) xa_174 rfl) (by omega) (by omega) k9) ?_
        refine qy (fun _ _ k9 => z_eq rfl (qc (qi (show ((Gb 174) ((A e).toNat)) = (tsL A M e) from by unfold tsL; rw [qif_t q100]; exact hlo _ (by omega))) rfl) rfl k9) ?_
        refine qy (fun _ _ k9 => z_istore (ls' := [qR 173, qR 6, qI (e : Int), qI (M e), qI (tsL A M e), qU]) d_X7_breatheTree_119 (by decide) rfl k9) ?_
        refine qy (fun _ _ k9 => z_aload_n d_X7_breatheTree_121 rfl rfl k9) ?_
        refine qy (fun _ _ k9 => z_getf (v := qR 176) d_X7_breatheTree_122 fl_X7_18 (xput_ob (c := (qup (qup (F 173) 9 (cnt (fun k => (tst T A n M) k = 7) n - cnt (fun k => (tst T A n M) k = 7) j)) 10 (cnt (fun k => (tst T A n M) k ≠ M k) n - cnt (fun k => (tst T A n M) k ≠ M k) j))) xi_173 rfl (xsh_7 xo_173)) rfl k9) ?_
        refine qy (fun _ _ k9 => z_iload_n d_X7_breatheTree_125 rfl rfl k9) ?_
        refine qy (fun _ _ k9 => z_ild e d_X7_breatheTree_126 (xput_ar (g := (Gb 176)) xa_176 rfl) rfl (by omega) k9) ?_
        refine qy (fun _ _ k9 => z_eq rfl (qc (qi (show ((Gb 176) e) = (blF A M (e : Int) n) from hbb e (by omega))) rfl) rfl k9) ?_
        refine qy (fun _ _ k9 => z_iconst d_X7_breatheTree_127 (by decide) k9) ?_
        refine qy2 (fun _ _ => z_icmp_ne 136 d_X7_breatheTree_128 (by decide)) (fun q128 => ?_) (fun q128 => ?_)
        · refine qy (fun _ _ k9 => z_aload_n d_X7_breatheTree_136 rfl rfl k9) ?_
          refine qy (fun _ _ k9 => z_getf (v := qR 176) d_X7_breatheTree_137 fl_X7_18 (xput_ob (c := (qup (qup (F 173) 9 (cnt (fun k => (tst T A n M) k = 7) n - cnt (fun k => (tst T A n M) k = 7) j)) 10 (cnt (fun k => (tst T A n M) k ≠ M k) n - cnt (fun k => (tst T A n M) k ≠ M k) j))) xi_173 rfl (xsh_7 xo_173)) rfl k9) ?_
          refine qy (fun _ _ k9 => z_iload_n d_X7_breatheTree_140 rfl rfl k9) ?_
          refine qy (fun _ _ k9 => z_ild e d_X7_breatheTree_141 (xput_ar (g := (Gb 176)) xa_176 rfl) rfl (by omega) k9) ?_
          refine qy (fun _ _ k9 => z_eq rfl (qc (qi (show ((Gb 176) e) = (bel A M (e : Int) n) from by unfold bel; rw [qif_t q128]; exact hbb e (by omega))) rfl) rfl k9) ?_
          refine qy (fun _ _ k9 => z_istore (ls' := [qR 173, qR 6, qI (e : Int), qI (M e), qI (tsL A M e), qI (bel A M (e : Int) n)]) d_X7_breatheTree_142 (by decide) rfl k9) ?_
          refine qy (fun _ _ k9 => z_aload_n d_X7_breatheTree_144 rfl rfl k9) ?_
          refine qy (fun _ _ k9 => z_getf (v := qR 174) d_X7_breatheTree_145 fl_X7_9 (xput_ob (c := (qup (qup (F 173) 9 (cnt (fun k => (tst T A n M) k = 7) n - cnt (fun k => (tst T A n M) k = 7) j)) 10 (cnt (fun k => (tst T A n M) k ≠ M k) n - cnt (fun k => (tst T A n M) k ≠ M k) j))) xi_173 rfl (xsh_7 xo_173)) rfl k9) ?_
          refine qy (fun _ _ k9 => z_iload_n d_X7_breatheTree_148 rfl rfl k9) ?_
          refine qy (fun _ _ k9 => z_aload_n d_X7_breatheTree_149 rfl rfl k9) ?_
          refine qy (fun _ _ k9 => z_iload_n d_X7_breatheTree_150 rfl rfl k9) ?_
          refine qy (fun _ _ k9 => z_iload d_X7_breatheTree_151 rfl k9) ?_
          refine qy (fun _ _ k9 => z_iload d_X7_breatheTree_153 rfl k9) ?_
          refine qy (fun _ _ k9 => z_cs (M1 := M_X11_caseOf) d_X7_breatheTree_155 ls_X7_81 k_X11_caseOf [qI (M e), qI (tsL A M e), qI (bel A M (e : Int) n)] rfl rfl (Nat.le_of_ble_eq_true rfl) (by decide) (by decide) (Nat.le_of_ble_eq_true rfl) (c_caseOf (M e) (tsL A M e) (bel A M (e : Int) n) (by omega) (by omega) (by omega)) k9) ?_
          refine qy (fun _ _ k9 => z_eq rfl (qc (qi (show (81 * (M e) + 9 * (tsL A M e) + (bel A M (e : Int) n)) = (tsC A n M e) from rfl)) rfl) rfl k9) ?_
          refine qy (fun _ _ k9 => z_ild ((tsC A n M e).toNat) d_X7_breatheTree_158 (xput_ar (g := (Gb 6)) xa_6 rfl) (by omega) (by omega) k9) ?_
          refine qy (fun _ _ k9 => z_eq rfl (qc (qi (show ((Gb 6) ((tsC A n M e).toNat)) = ((tst T A n M) e) from by rw [hfb 6 (by decide) (by decide)]; exact hT _ (by omega))) rfl) rfl k9) ?_
          refine qy (fun _ _ k9 => z_ist e d_X7_breatheTree_159 (xput_ar (g := (Gb 174)) xa_174 rfl) (by omega) rfl (by omega) k9) ?_
          refine qy (fun _ _ k9 => z_eq rfl rfl (xput_sa xa_174) k9) ?_
          refine qy (fun _ _ k9 => z_aload_n d_X7_breatheTree_160 rfl rfl k9) ?_
          refine qy (fun _ _ k9 => z_dup d_X7_breatheTree_161 rfl k9) ?_
          refine qy (fun _ _ k9 => z_getf (v := qI (cnt (fun k => (tst T A n M) k = 7) n - cnt (fun k => (tst T A n M) k = 7) j)) d_X7_breatheTree_162 fl_X7_41 (xput_ob (c := (qup (qup (F 173) 9 (cnt (fun k => (tst T A n M) k = 7) n - cnt (fun k => (tst T A n M) k = 7) j)) 10 (cnt (fun k => (tst T A n M) k ≠ M k) n - cnt (fun k => (tst T A n M) k ≠ M k) j))) xi_173 rfl (xsh_7 xo_173)) rfl k9) ?_
          refine qy (fun _ _ k9 => z_aload_n d_X7_breatheTree_165 rfl rfl k9) ?_
          refine qy (fun _ _ k9 => z_getf (v := qR 174) d_X7_breatheTree_166 fl_X7_9 (xput_ob (c := (qup (qup (F 173) 9 (cnt (fun k => (tst T A n M) k = 7) n - cnt (fun k => (tst T A n M) k = 7) j)) 10 (cnt (fun k => (tst T A n M) k ≠ M k) n - cnt (fun k => (tst T A n M) k ≠ M k) j))) xi_173 rfl (xsh_7 xo_173)) rfl k9) ?_
          refine qy (fun _ _ k9 => z_iload_n d_X7_breatheTree_169 rfl rfl k9) ?_
          refine qy (fun _ _ k9 => z_ild e d_X7_breatheTree_170 (xput_ar (g := (qup (Gb 174) e ((tst T A n M) e))) xa_174 rfl) rfl (by omega) k9) ?_
          refine qy (fun _ _ k9 => z_eq rfl (qc (qi (show ((qup (Gb 174) e ((tst T A n M) e)) e) = ((tst T A n M) e) from by first | rfl | exact qup_eq _ _ _)) rfl) rfl k9) ?_
          refine qy (fun _ _ k9 => z_bipush d_X7_breatheTree_171 (by decide) k9) ?_
          suffices kJ173 : qEy M_X7_breatheTree 181 [qR 173, qR 6, qI (e : Int), qI (M e), qI (tsL A M e), qI (bel A M (e : Int) n)] [qI (qb (((tst T A n M) e) = 7)), qI (cnt (fun k => (tst T A n M) k = 7) n - cnt (fun k => (tst T A n M) k = 7) j), qR 173] (xput h (gup F 173 (qup (qup (F 173) 9 (cnt (fun k => (tst T A n M) k = 7) n - cnt (fun k => (tst T A n M) k = 7) j)) 10 (cnt (fun k => (tst T A n M) k ≠ M k) n - cnt (fun k => (tst T A n M) k ≠ M k) j))) (gup Gb 174 (qup (Gb 174) e ((tst T A n M) e)))) Q by
            refine qy2 (fun _ _ => z_icmp_ne 180 d_X7_breatheTree_173 (by decide)) (fun hc3 => ?_) (fun hc3 => ?_)
            · refine qy (fun _ _ k9 => z_iconst d_X7_breatheTree_180 (by decide) k9) ?_
              exact qy (fun _ _ k9 => z_eq rfl (qc (qi (qb_f (by omega)).symm) (qc rfl (qc rfl rfl))) rfl k9) kJ173
            · refine qy (fun _ _ k9 => z_iconst d_X7_breatheTree_176 (by decide) k9) ?_
              refine qy (fun _ _ k9 => z_goto 181 d_X7_breatheTree_177 (by decide) k9) ?_
              exact qy (fun _ _ k9 => z_eq rfl (qc (qi (qb_t (by omega)).symm) (qc rfl (qc rfl rfl))) rfl k9) kJ173
          refine qy (fun _ _ k9 => z_iadd d_X7_breatheTree_181 (by omega) k9) ?_
          refine qy (fun _ _ k9 => z_putf (fs' := [qR 174, qR 175, qR 176, qI ((F 173) 3), qI ((F 173) 4), qI ((F 173) 5), qI ((F 173) 6), qI ((F 173) 7), qI ((F 173) 8), qI ((cnt (fun k => (tst T A n M) k = 7) n - cnt (fun k => (tst T A n M) k = 7) j) + (qb (((tst T A n M) e) = 7))), qI (cnt (fun k => (tst T A n M) k ≠ M k) n - cnt (fun k => (tst T A n M) k ≠ M k) j)]) d_X7_breatheTree_182 fp_X7_41 (xput_ob (c := (qup (qup (F 173) 9 (cnt (fun k => (tst T A n M) k = 7) n - cnt (fun k => (tst T A n M) k = 7) j)) 10 (cnt (fun k => (tst T A n M) k ≠ M k) n - cnt (fun k => (tst T A n M) k ≠ M k) j))) xi_173 rfl (xsh_7 xo_173)) (fun _ => rfl) (fun _ => rfl) (Nat.le_of_ble_eq_true rfl) rfl k9) ?_
          refine qy (fun _ _ k9 => z_eq rfl rfl ((xput_sf (c := (qup (qup (qup (F 173) 9 (cnt (fun k => (tst T A n M) k = 7) n - cnt (fun k => (tst T A n M) k = 7) j)) 10 (cnt (fun k => (tst T A n M) k ≠ M k) n - cnt (fun k => (tst T A n M) k ≠ M k) j)) 9 ((cnt (fun k => (tst T A n M) k = 7) n - cnt (fun k => (tst T A n M) k = 7) j) + (qb (((tst T A n M) e) = 7))))) xi_173 (xsh_7 xo_173)).trans (xput_cg ((gup_gup _ _ _).trans (gup_cg rfl ((qup_comm (by decide)).trans (congrArg (fun z => qup z 10 (cnt (fun k => (tst T A n M) k ≠ M k) n - cnt (fun k => (tst T A n M) k ≠ M k) j)) (qup_qup _ _ _ _))))) rfl)) k9) ?_
          refine qy (fun _ _ k9 => z_aload_n d_X7_breatheTree_185 rfl rfl k9) ?_
          refine qy (fun _ _ k9 => z_dup d_X7_breatheTree_186 rfl k9) ?_
          refine qy (fun _ _ k9 => z_getf (v := qI (cnt (fun k => (tst T A n M) k ≠ M k) n - cnt (fun k => (tst T A n M) k ≠ M k) j)) d_X7_breatheTree_187 fl_X7_44 (xput_ob (c := (qup (qup (F 173) 9 ((cnt (fun k => (tst T A n M) k = 7) n - cnt (fun k => (tst T A n M) k = 7) j) + (qb (((tst T A n M) e) = 7)))) 10 (cnt (fun k => (tst T A n M) k ≠ M k) n - cnt (fun k => (tst T A n M) k ≠ M k) j))) xi_173 rfl (xsh_7 xo_173)) rfl k9) ?_
          refine qy (fun _ _ k9 => z_aload_n d_X7_breatheTree_190 rfl rfl k9) ?_
          refine qy (fun _ _ k9 => z_getf (v := qR 174) d_X7_breatheTree_191 fl_X7_9 (xput_ob (c := (qup (qup (F 173) 9 ((cnt (fun k => (tst T A n M) k = 7) n - cnt (fun k => (tst T A n M) k = 7) j) + (qb (((tst T A n M) e) = 7)))) 10 (cnt (fun k => (tst T A n M) k ≠ M k) n - cnt (fun k => (tst T A n M) k ≠ M k) j))) xi_173 rfl (xsh_7 xo_173)) rfl k9) ?_
          refine qy (fun _ _ k9 => z_iload_n d_X7_breatheTree_194 rfl rfl k9) ?_
          refine qy (fun _ _ k9 => z_ild e d_X7_breatheTree_195 (xput_ar (g := (qup (Gb 174) e ((tst T A n M) e))) xa_174 rfl) rfl (by omega) k9) ?_
          refine qy (fun _ _ k9 => z_eq rfl (qc (qi (show ((qup (Gb 174) e ((tst T A n M) e)) e) = ((tst T A n M) e) from by first | rfl | exact qup_eq _ _ _)) rfl) rfl k9) ?_
          refine qy (fun _ _ k9 => z_iload_n d_X7_breatheTree_196 rfl rfl k9) ?_
          suffices kJ197 : qEy M_X7_breatheTree 205 [qR 173, qR 6, qI (e : Int), qI (M e), qI (tsL A M e), qI (bel A M (e : Int) n)] [qI (qb (((tst T A n M) e) ≠ (M e))), qI (cnt (fun k => (tst T A n M) k ≠ M k) n - cnt (fun k => (tst T A n M) k ≠ M k) j), qR 173] (xput h (gup F 173 (qup (qup (F 173) 9 ((cnt (fun k => (tst T A n M) k = 7) n - cnt (fun k => (tst T A n M) k = 7) j) + (qb (((tst T A n M) e) = 7)))) 10 (cnt (fun k => (tst T A n M) k ≠ M k) n - cnt (fun k => (tst T A n M) k ≠ M k) j))) (gup Gb 174 (qup (Gb 174) e ((tst T A n M) e)))) Q by
            refine qy2 (fun _ _ => z_icmp_eq 204 d_X7_breatheTree_197 (by decide)) (fun hc4 => ?_) (fun hc4 => ?_)
            · refine qy (fun _ _ k9 => z_iconst d_X7_breatheTree_204 (by decide) k9) ?_
              exact qy (fun _ _ k9 => z_eq rfl (qc (qi (qb_f (by omega)).symm) (qc rfl (qc rfl rfl))) rfl k9) kJ197
            · refine qy (fun _ _ k9 => z_iconst d_X7_breatheTree_200 (by decide) k9) ?_
              refine qy (fun _ _ k9 => z_goto 205 d_X7_breatheTree_201 (by decide) k9) ?_
              exact qy (fun _ _ k9 => z_eq rfl (qc (qi (qb_t (by omega)).symm) (qc rfl (qc rfl rfl))) rfl k9) kJ197
          refine qy (fun _ _ k9 => z_iadd d_X7_breatheTree_205 (by omega) k9) ?_
          refine qy (fun _ _ k9 => z_putf (fs' := [qR 174, qR 175, qR 176, qI ((F 173) 3), qI ((F 173) 4), qI ((F 173) 5), qI ((F 173) 6), qI ((F 173) 7), qI ((F 173) 8), qI ((cnt (fun k => (tst T A n M) k = 7) n - cnt (fun k => (tst T A n M) k = 7) j) + (qb (((tst T A n M) e) = 7))), qI ((cnt (fun k => (tst T A n M) k ≠ M k) n - cnt (fun k => (tst T A n M) k ≠ M k) j) + (qb (((tst T A n M) e) ≠ (M e))))]) d_X7_breatheTree_206 fp_X7_44 (xput_ob (c := (qup (qup (F 173) 9 ((cnt (fun k => (tst T A n M) k = 7) n - cnt (fun k => (tst T A n M) k = 7) j) + (qb (((tst T A n M) e) = 7)))) 10 (cnt (fun k => (tst T A n M) k ≠ M k) n - cnt (fun k => (tst T A n M) k ≠ M k) j))) xi_173 rfl (xsh_7 xo_173)) (fun _ => rfl) (fun _ => rfl) (Nat.le_of_ble_eq_true rfl) rfl k9) ?_
          refine qy (fun _ _ k9 => z_eq rfl rfl ((xput_sf (c := (qup (qup (qup (F 173) 9 ((cnt (fun k => (tst T A n M) k = 7) n - cnt (fun k => (tst T A n M) k = 7) j) + (qb (((tst T A n M) e) = 7)))) 10 (cnt (fun k => (tst T A n M) k ≠ M k) n - cnt (fun k => (tst T A n M) k ≠ M k) j)) 10 ((cnt (fun k => (tst T A n M) k ≠ M k) n - cnt (fun k => (tst T A n M) k ≠ M k) j) + (qb (((tst T A n M) e) ≠ (M e)))))) xi_173 (xsh_7 xo_173)).trans (xput_cg ((gup_gup _ _ _).trans (gup_cg rfl (qup_qup _ _ _ _))) rfl)) k9) ?_
          refine qy (fun _ _ k9 => z_iinc (ls' := [qR 173, qR 6, qI ((e : Int) + (-1)), qI (M e), qI (tsL A M e), qI (bel A M (e : Int) n)]) d_X7_breatheTree_209 rfl (by decide) (by omega) rfl k9) ?_
          refine qy (fun _ _ k9 => z_goto 82 d_X7_breatheTree_212 (by decide) k9) ?_
          exact qy (fun _ _ k9 => z_dr (qle_k rfl (qle_k rfl (qle_k (qi (by omega)) (qle_d (qle_d (qle_d qle_n)))))) rfl (xput_cg (gup_cg rfl (q2_cg (by omega) (by omega))) rfl) k9) (kkj e (gup Gb 174 (qup (Gb 174) e ((tst T A n M) e))) (⟨by omega, fun a h1 h2 => (gup_ne h2).trans (hfb a h1 h2), fun k hk => by rw [gup_ne (by decide)]; exact hbb k hk, fun k hk => by rw [gup_eq, qup_ne (by omega)]; exact hlo k (by omega), fun k h1 h2 => by rw [gup_eq]; by_cases z : k = e; (rw [z, qup_eq]); (rw [qup_ne z]; exact hhi k (by omega) h2)⟩) (by omega))
        · refine qy (fun _ _ k9 => z_bipush d_X7_breatheTree_131 (by decide) k9) ?_
          refine qy (fun _ _ k9 => z_goto 142 d_X7_breatheTree_133 (by decide) k9) ?_
          refine qy (fun _ _ k9 => z_eq rfl (qc (qi (show 8 = (bel A M (e : Int) n) from by unfold bel; rw [qif_f q128])) rfl) rfl k9) ?_
          refine qy (fun _ _ k9 => z_istore (ls' := [qR 173, qR 6, qI (e : Int), qI (M e), qI (tsL A M e), qI (bel A M (e : Int) n)]) d_X7_breatheTree_142 (by decide) rfl k9) ?_
          refine qy (fun _ _ k9 => z_aload_n d_X7_breatheTree_144 rfl rfl k9) ?_
          refine qy (fun _ _ k9 => z_getf (v := qR 174) d_X7_breatheTree_145 fl_X7_9 (xput_ob (c := (qup (qup (F 173) 9 (cnt (fun k => (tst T A n M) k = 7) n - cnt (fun k => (tst T A n M) k = 7) j)) 10 (cnt (fun k => (tst T A n M) k ≠ M k) n - cnt (fun k => (tst T A n M) k ≠ M k) j))) xi_173 rfl (xsh_7 xo_173)) rfl k9) ?_
          refine qy (fun _ _ k9 => z_iload_n d_X7_breatheTree_148 rfl rfl k9) ?_
          refine qy (fun _ _ k9 => z_aload_n d_X7_breatheTree_149 rfl rfl k9) ?_
          refine qy (fun _ _ k9 => z_iload_n d_X7_breatheTree_150 rfl rfl k9) ?_
          refine qy (fun _ _ k9 => z_iload d_X7_breatheTree_151 rfl k9) ?_
          refine qy (fun _ _ k9 => z_iload d_X7_breatheTree_153 rfl k9) ?_
          refine qy (fun _ _ k9 => z_cs (M1 := M_X11_caseOf) d_X7_breatheTree_155 ls_X7_81 k_X11_caseOf [qI (M e), qI (tsL A M e), qI (bel A M (e : Int) n)] rfl rfl (Nat.le_of_ble_eq_true rfl) (by decide) (by decide) (Nat.le_of_ble_eq_true rfl) (c_caseOf (M e) (tsL A M e) (bel A M (e : Int) n) (by omega) (by omega) (by omega)) k9) ?_
          refine qy (fun _ _ k9 => z_eq rfl (qc (qi (show (81 * (M e) + 9 * (tsL A M e) + (bel A M (e : Int) n)) = (tsC A n M e) from rfl)) rfl) rfl k9) ?_
          refine qy (fun _ _ k9 => z_ild ((tsC A n M e).toNat) d_X7_breatheTree_158 (xput_ar (g := (Gb 6)) xa_6 rfl) (by omega) (by omega) k9) ?_
          refine qy (fun _ _ k9 => z_eq rfl (qc (qi (show ((Gb 6) ((tsC A n M e).toNat)) = ((tst T A n M) e) from by rw [hfb 6 (by decide) (by decide)]; exact hT _ (by omega))) rfl) rfl k9) ?_
          refine qy (fun _ _ k9 => z_ist e d_X7_breatheTree_159 (xput_ar (g := (Gb 174)) xa_174 rfl) (by omega) rfl (by omega) k9) ?_
          refine qy (fun _ _ k9 => z_eq rfl rfl (xput_sa xa_174) k9) ?_
          refine qy (fun _ _ k9 => z_aload_n d_X7_breatheTree_160 rfl rfl k9) ?_
          refine qy (fun _ _ k9 => z_dup d_X7_breatheTree_161 rfl k9) ?_
          refine qy (fun _ _ k9 => z_getf (v := qI (cnt (fun k => (tst T A n M) k = 7) n - cnt (fun k => (tst T A n M) k = 7) j)) d_X7_breatheTree_162 fl_X7_41 (xput_ob (c := (qup (qup (F 173) 9 (cnt (fun k => (tst T A n M) k = 7) n - cnt (fun k => (tst T A n M) k = 7) j)) 10 (cnt (fun k => (tst T A n M) k ≠ M k) n - cnt (fun k => (tst T A n M) k ≠ M k) j))) xi_173 rfl (xsh_7 xo_173)) rfl k9) ?_
          refine qy (fun _ _ k9 => z_aload_n d_X7_breatheTree_165 rfl rfl k9) ?_
          refine qy (fun _ _ k9 => z_getf (v := qR 174) d_X7_breatheTree_166 fl_X7_9 (xput_ob (c := (qup (qup (F 173) 9 (cnt (fun k => (tst T A n M) k = 7) n - cnt (fun k => (tst T A n M) k = 7) j)) 10 (cnt (fun k => (tst T A n M) k ≠ M k) n - cnt (fun k => (tst T A n M) k ≠ M k) j))) xi_173 rfl (xsh_7 xo_173)) rfl k9) ?_
          refine qy (fun _ _ k9 => z_iload_n d_X7_breatheTree_169 rfl rfl k9) ?_
          refine qy (fun _ _ k9 => z_ild e d_X7_breatheTree_170 (xput_ar (g := (qup (Gb 174) e ((tst T A n M) e))) xa_174 rfl) rfl (by omega) k9) ?_
          refine qy (fun _ _ k9 => z_eq rfl (qc (qi (show ((qup (Gb 174) e ((tst T A n M) e)) e) = ((tst T A n M) e) from by first | rfl | exact qup_eq _ _ _)) rfl) rfl k9) ?_
          refine qy (fun _ _ k9 => z_bipush d_X7_breatheTree_171 (by decide) k9) ?_
          suffices kJ173 : qEy M_X7_breatheTree 181 [qR 173, qR 6, qI (e : Int), qI (M e), qI (tsL A M e), qI (bel A M (e : Int) n)] [qI (qb (((tst T A n M) e) = 7)), qI (cnt (fun k => (tst T A n M) k = 7) n - cnt (fun k => (tst T A n M) k = 7) j), qR 173] (xput h (gup F 173 (qup (qup (F 173) 9 (cnt (fun k => (tst T A n M) k = 7) n - cnt (fun k => (tst T A n M) k = 7) j)) 10 (cnt (fun k => (tst T A n M) k ≠ M k) n - cnt (fun k => (tst T A n M) k ≠ M k) j))) (gup Gb 174 (qup (Gb 174) e ((tst T A n M) e)))) Q by
            refine qy2 (fun _ _ => z_icmp_ne 180 d_X7_breatheTree_173 (by decide)) (fun hc5 => ?_) (fun hc5 => ?_)
            · refine qy (fun _ _ k9 => z_iconst d_X7_breatheTree_180 (by decide) k9) ?_
              exact qy (fun _ _ k9 => z_eq rfl (qc (qi (qb_f (by omega)).symm) (qc rfl (qc rfl rfl))) rfl k9) kJ173
            · refine qy (fun _ _ k9 => z_iconst d_X7_breatheTree_176 (by decide) k9) ?_
              refine qy (fun _ _ k9 => z_goto 181 d_X7_breatheTree_177 (by decide) k9) ?_
              exact qy (fun _ _ k9 => z_eq rfl (qc (qi (qb_t (by omega)).symm) (qc rfl (qc rfl rfl))) rfl k9) kJ173
          refine qy (fun _ _ k9 => z_iadd d_X7_breatheTree_181 (by omega) k9) ?_
          refine qy (fun _ _ k9 => z_putf (fs' := [qR 174, qR 175, qR 176, qI ((F 173) 3), qI ((F 173) 4), qI ((F 173) 5), qI ((F 173) 6), qI ((F 173) 7), qI ((F 173) 8), qI ((cnt (fun k => (tst T A n M) k = 7) n - cnt (fun k => (tst T A n M) k = 7) j) + (qb (((tst T A n M) e) = 7))), qI (cnt (fun k => (tst T A n M) k ≠ M k) n - cnt (fun k => (tst T A n M) k ≠ M k) j)]) d_X7_breatheTree_182 fp_X7_41 (xput_ob (c := (qup (qup (F 173) 9 (cnt (fun k => (tst T A n M) k = 7) n - cnt (fun k => (tst T A n M) k = 7) j)) 10 (cnt (fun k => (tst T A n M) k ≠ M k) n - cnt (fun k => (tst T A n M) k ≠ M k) j))) xi_173 rfl (xsh_7 xo_173)) (fun _ => rfl) (fun _ => rfl) (Nat.le_of_ble_eq_true rfl) rfl k9) ?_
          refine qy (fun _ _ k9 => z_eq rfl rfl ((xput_sf (c := (qup (qup (qup (F 173) 9 (cnt (fun k => (tst T A n M) k = 7) n - cnt (fun k => (tst T A n M) k = 7) j)) 10 (cnt (fun k => (tst T A n M) k ≠ M k) n - cnt (fun k => (tst T A n M) k ≠ M k) j)) 9 ((cnt (fun k => (tst T A n M) k = 7) n - cnt (fun k => (tst T A n M) k = 7) j) + (qb (((tst T A n M) e) = 7))))) xi_173 (xsh_7 xo_173)).trans (xput_cg ((gup_gup _ _ _).trans (gup_cg rfl ((qup_comm (by decide)).trans (congrArg (fun z => qup z 10 (cnt (fun k => (tst T A n M) k ≠ M k) n - cnt (fun k => (tst T A n M) k ≠ M k) j)) (qup_qup _ _ _ _))))) rfl)) k9) ?_
          refine qy (fun _ _ k9 => z_aload_n d_X7_breatheTree_185 rfl rfl k9) ?_
          refine qy (fun _ _ k9 => z_dup d_X7_breatheTree_186 rfl k9) ?_
          refine qy (fun _ _ k9 => z_getf (v := qI (cnt (fun k => (tst T A n M) k ≠ M k) n - cnt (fun k => (tst T A n M) k ≠ M k) j)) d_X7_breatheTree_187 fl_X7_44 (xput_ob (c := (qup (qup (F 173) 9 ((cnt (fun k => (tst T A n M) k = 7) n - cnt (fun k => (tst T A n M) k = 7) j) + (qb (((tst T A n M) e) = 7)))) 10 (cnt (fun k => (tst T A n M) k ≠ M k) n - cnt (fun k => (tst T A n M) k ≠ M k) j))) xi_173 rfl (xsh_7 xo_173)) rfl k9) ?_
          refine qy (fun _ _ k9 => z_aload_n d_X7_breatheTree_190 rfl rfl k9) ?_
          refine qy (fun _ _ k9 => z_getf (v := qR 174) d_X7_breatheTree_191 fl_X7_9 (xput_ob (c := (qup (qup (F 173) 9 ((cnt (fun k => (tst T A n M) k = 7) n - cnt (fun k => (tst T A n M) k = 7) j) + (qb (((tst T A n M) e) = 7)))) 10 (cnt (fun k => (tst T A n M) k ≠ M k) n - cnt (fun k => (tst T A n M) k ≠ M k) j))) xi_173 rfl (xsh_7 xo_173)) rfl k9) ?_
          refine qy (fun _ _ k9 => z_iload_n d_X7_breatheTree_194 rfl rfl k9) ?_
          refine qy (fun _ _ k9 => z_ild e d_X7_breatheTree_195 (xput_ar (g := (qup (Gb 174) e ((tst T A n M) e))) xa_174 rfl) rfl (by omega) k9) ?_
          refine qy (fun _ _ k9 => z_eq rfl (qc (qi (show ((qup (Gb 174) e ((tst T A n M) e)) e) = ((tst T A n M) e) from by first | rfl | exact qup_eq _ _ _)) rfl) rfl k9) ?_
          refine qy (fun _ _ k9 => z_iload_n d_X7_breatheTree_196 rfl rfl k9) ?_
          suffices kJ197 : qEy M_X7_breatheTree 205 [qR 173, qR 6, qI (e : Int), qI (M e), qI (tsL A M e), qI (bel A M (e : Int) n)] [qI (qb (((tst T A n M) e) ≠ (M e))), qI (cnt (fun k => (tst T A n M) k ≠ M k) n - cnt (fun k => (tst T A n M) k ≠ M k) j), qR 173] (xput h (gup F 173 (qup (qup (F 173) 9 ((cnt (fun k => (tst T A n M) k = 7) n - cnt (fun k => (tst T A n M) k = 7) j) + (qb (((tst T A n M) e) = 7)))) 10 (cnt (fun k => (tst T A n M) k ≠ M k) n - cnt (fun k => (tst T A n M) k ≠ M k) j))) (gup Gb 174 (qup (Gb 174) e ((tst T A n M) e)))) Q by
            refine qy2 (fun _ _ => z_icmp_eq 204 d_X7_breatheTree_197 (by decide)) (fun hc6 => ?_) (fun hc6 => ?_)
            · refine qy (fun _ _ k9 => z_iconst d_X7_breatheTree_204 (by decide) k9) ?_
              exact qy (fun _ _ k9 => z_eq rfl (qc (qi (qb_f (by omega)).symm) (qc rfl (qc rfl rfl))) rfl k9) kJ197
            · refine qy (fun _ _ k9 => z_iconst d_X7_breatheTree_200 (by decide) k9) ?_
              refine qy (fun _ _ k9 => z_goto 205 d_X7_breatheTree_201 (by decide) k9) ?_
              exact qy (fun _ _ k9 => z_eq rfl (qc (qi (qb_t (by omega)).symm) (qc rfl (qc rfl rfl))) rfl k9) kJ197
          refine qy (fun _ _ k9 => z_iadd d_X7_breatheTree_205 (by omega) k9) ?_
          refine qy (fun _ _ k9 => z_putf (fs' := [qR 174, qR 175, qR 176, qI ((F 173) 3), qI ((F 173) 4), qI ((F 173) 5), qI ((F 173) 6), qI ((F 173) 7), qI ((F 173) 8), qI ((cnt (fun k => (tst T A n M) k = 7) n - cnt (fun k => (tst T A n M) k = 7) j) + (qb (((tst T A n M) e) = 7))), qI ((cnt (fun k => (tst T A n M) k ≠ M k) n - cnt (fun k => (tst T A n M) k ≠ M k) j) + (qb (((tst T A n M) e) ≠ (M e))))]) d_X7_breatheTree_206 fp_X7_44 (xput_ob (c := (qup (qup (F 173) 9 ((cnt (fun k => (tst T A n M) k = 7) n - cnt (fun k => (tst T A n M) k = 7) j) + (qb (((tst T A n M) e) = 7)))) 10 (cnt (fun k => (tst T A n M) k ≠ M k) n - cnt (fun k => (tst T A n M) k ≠ M k) j))) xi_173 rfl (xsh_7 xo_173)) (fun _ => rfl) (fun _ => rfl) (Nat.le_of_ble_eq_true rfl) rfl k9) ?_
          refine qy (fun _ _ k9 => z_eq rfl rfl ((xput_sf (c := (qup (qup (qup (F 173) 9 ((cnt (fun k => (tst T A n M) k = 7) n - cnt (fun k => (tst T A n M) k = 7) j) + (qb (((tst T A n M) e) = 7)))) 10 (cnt (fun k => (tst T A n M) k ≠ M k) n - cnt (fun k => (tst T A n M) k ≠ M k) j)) 10 ((cnt (fun k => (tst T A n M) k ≠ M k) n - cnt (fun k => (tst T A n M) k ≠ M k) j) + (qb (((tst T A n M) e) ≠ (M e)))))) xi_173 (xsh_7 xo_173)).trans (xput_cg ((gup_gup _ _ _).trans (gup_cg rfl (qup_qup _ _ _ _))) rfl)) k9) ?_
          refine qy (fun _ _ k9 => z_iinc (ls' := [qR 173, qR 6, qI ((e : Int) + (-1)), qI (M e), qI (tsL A M e), qI (bel A M (e : Int) n)]) d_X7_breatheTree_209 rfl (by decide) (by omega) rfl k9) ?_
          refine qy (fun _ _ k9 => z_goto 82 d_X7_breatheTree_212 (by decide) k9) ?_
          exact qy (fun _ _ k9 => z_dr (qle_k rfl (qle_k rfl (qle_k (qi (by omega)) (qle_d (qle_d (qle_d qle_n)))))) rfl (xput_cg (gup_cg rfl (q2_cg (by omega) (by omega))) rfl) k9) (kkj e (gup Gb 174 (qup (Gb 174) e ((tst T A n M) e))) (⟨by omega, fun a h1 h2 => (gup_ne h2).trans (hfb a h1 h2), fun k hk => by rw [gup_ne (by decide)]; exact hbb k hk, fun k hk => by rw [gup_eq, qup_ne (by omega)]; exact hlo k (by omega), fun k h1 h2 => by rw [gup_eq]; by_cases z : k = e; (rw [z, qup_eq]); (rw [qup_ne z]; exact hhi k (by omega) h2)⟩) (by omega))
      · refine qy (fun _ _ k9 => z_bipush d_X7_breatheTree_103 (by decide) k9) ?_
        refine qy (fun _ _ k9 => z_goto 119 d_X7_breatheTree_105 (by decide) k9) ?_
        refine qy (fun _ _ k9 => z_eq rfl (qc (qi (show 8 = (tsL A M e) from by unfold tsL; rw [qif_f q100])) rfl) rfl k9) ?_
        refine qy (fun _ _ k9 => z_istore (ls' := [qR 173, qR 6, qI (e : Int), qI (M e), qI (tsL A M e), qU]) d_X7_breatheTree_119 (by decide) rfl k9) ?_
        refine qy (fun _ _ k9 => z_aload_n d_X7_breatheTree_121 rfl rfl k9) ?_
        refine qy (fun _ _ k9 => z_getf (v := qR 176) d_X7_breatheTree_122 fl_X7_18 (xput_ob (c := (qup (qup (F 173) 9 (cnt (fun k => (tst T A n M) k = 7) n - cnt (fun k => (tst T A n M) k = 7) j)) 10 (cnt (fun k => (tst T A n M) k ≠ M k) n - cnt (fun k => (tst T A n M) k ≠ M k) j))) xi_173 rfl (xsh_7 xo_173)) rfl k9) ?_
        refine qy (fun _ _ k9 => z_iload_n d_X7_breatheTree_125 rfl rfl k9) ?_
        refine qy (fun _ _ k9 => z_ild e d_X7_breatheTree_126 (xput_ar (g := (Gb 176)) xa_176 rfl) rfl (by omega) k9) ?_
        refine qy (fun _ _ k9 => z_eq rfl (qc (qi (show ((Gb 176) e) = (blF A M (e : Int) n) from hbb e (by omega))) rfl) rfl k9) ?_
        refine qy (fun _ _ k9 => z_iconst d_X7_breatheTree_127 (by decide) k9) ?_
        refine qy2 (fun _ _ => z_icmp_ne 136 d_X7_breatheTree_128 (by decide)) (fun q128 => ?_) (fun q128 => ?_)
        · refine qy (fun _ _ k9 => z_aload_n d_X7_breatheTree_136 rfl rfl k9) ?_
          refine qy (fun _ _ k9 => z_getf (v := qR 176) d_X7_breatheTree_137 fl_X7_18 (xput_ob (c := (qup (qup (F 173) 9 (cnt (fun k => (tst T A n M) k = 7) n - cnt (fun k => (tst T A n M) k = 7) j)) 10 (cnt (fun k => (tst T A n M) k ≠ M k) n - cnt (fun k => (tst T A n M) k ≠ M k) j))) xi_173 rfl (xsh_7 xo_173)) rfl k9) ?_
          refine qy (fun _ _ k9 => z_iload_n d_X7_breatheTree_140 rfl rfl k9) ?_
          refine qy (fun _ _ k9 => z_ild e d_X7_breatheTree_141 (xput_ar (g := (Gb 176)) xa_176 rfl) rfl (by omega) k9) ?_
          refine qy (fun _ _ k9 => z_eq rfl (qc (qi (show ((Gb 176) e) = (bel A M (e : Int) n) from by unfold bel; rw [qif_t q128]; exact hbb e (by omega))) rfl) rfl k9) ?_
          refine qy (fun _ _ k9 => z_istore (ls' := [qR 173, qR 6, qI (e : Int), qI (M e), qI (tsL A M e), qI (bel A M (e : Int) n)]) d_X7_breatheTree_142 (by decide) rfl k9) ?_
          refine qy (fun _ _ k9 => z_aload_n d_X7_breatheTree_144 rfl rfl k9) ?_
          refine qy (fun _ _ k9 => z_getf (v := qR 174) d_X7_breatheTree_145 fl_X7_9 (xput_ob (c := (qup (qup (F 173) 9 (cnt (fun k => (tst T A n M) k = 7) n - cnt (fun k => (tst T A n M) k = 7) j)) 10 (cnt (fun k => (tst T A n M) k ≠ M k) n - cnt (fun k => (tst T A n M) k ≠ M k) j))) xi_173 rfl (xsh_7 xo_173)) rfl k9) ?_
          refine qy (fun _ _ k9 => z_iload_n d_X7_breatheTree_148 rfl rfl k9) ?_
          refine qy (fun _ _ k9 => z_aload_n d_X7_breatheTree_149 rfl rfl k9) ?_
          refine qy (fun _ _ k9 => z_iload_n d_X7_breatheTree_150 rfl rfl k9) ?_
          refine qy (fun _ _ k9 => z_iload d_X7_breatheTree_151 rfl k9) ?_
          refine qy (fun _ _ k9 => z_iload d_X7_breatheTree_153 rfl k9) ?_
          refine qy (fun _ _ k9 => z_cs (M1 := M_X11_caseOf) d_X7_breatheTree_155 ls_X7_81 k_X11_caseOf [qI (M e), qI (tsL A M e), qI (bel A M (e : Int) n)] rfl rfl (Nat.le_of_ble_eq_true rfl) (by decide) (by decide) (Nat.le_of_ble_eq_true rfl) (c_caseOf (M e) (tsL A M e) (bel A M (e : Int) n) (by omega) (by omega) (by omega)) k9) ?_
          refine qy (fun _ _ k9 => z_eq rfl (qc (qi (show (81 * (M e) + 9 * (tsL A M e) + (bel A M (e : Int) n)) = (tsC A n M e) from rfl)) rfl) rfl k9) ?_
          refine qy (fun _ _ k9 => z_ild ((tsC A n M e).toNat) d_X7_breatheTree_158 (xput_ar (g := (Gb 6)) xa_6 rfl) (by omega) (by omega) k9) ?_
          refine qy (fun _ _ k9 => z_eq rfl (qc (qi (show ((Gb 6) ((tsC A n M e).toNat)) = ((tst T A n M) e) from by rw [hfb 6 (by decide) (by decide)]; exact hT _ (by omega))) rfl) rfl k9) ?_
          refine qy (fun _ _ k9 => z_ist e d_X7_breatheTree_159 (xput_ar (g := (Gb 174)) xa_174 rfl) (by omega) rfl (by omega) k9) ?_
          refine qy (fun _ _ k9 => z_eq rfl rfl (xput_sa xa_174) k9) ?_
          refine qy (fun _ _ k9 => z_aload_n d_X7_breatheTree_160 rfl rfl k9) ?_
          refine qy (fun _ _ k9 => z_dup d_X7_breatheTree_161 rfl k9) ?_
          refine qy (fun _ _ k9 => z_getf (v := qI (cnt (fun k => (tst T A n M) k = 7) n - cnt (fun k => (tst T A n M) k = 7) j)) d_X7_breatheTree_162 fl_X7_41 (xput_ob (c := (qup (qup (F 173) 9 (cnt (fun k => (tst T A n M) k = 7) n - cnt (fun k => (tst T A n M) k = 7) j)) 10 (cnt (fun k => (tst T A n M) k ≠ M k) n - cnt (fun k => (tst T A n M) k ≠ M k) j))) xi_173 rfl (xsh_7 xo_173)) rfl k9) ?_
          refine qy (fun _ _ k9 => z_aload_n d_X7_breatheTree_165 rfl rfl k9) ?_
          refine qy (fun _ _ k9 => z_getf (v := qR 174) d_X7_breatheTree_166 fl_X7_9 (xput_ob (c := (qup (qup (F 173) 9 (cnt (fun k => (tst T A n M) k = 7) n - cnt (fun k => (tst T A n M) k = 7) j)) 10 (cnt (fun k => (tst T A n M) k ≠ M k) n - cnt (fun k => (tst T A n M) k ≠ M k) j))) xi_173 rfl (xsh_7 xo_173)) rfl k9) ?_
          refine qy (fun _ _ k9 => z_iload_n d_X7_breatheTree_169 rfl rfl k9) ?_
          refine qy (fun _ _ k9 => z_ild e d_X7_breatheTree_170 (xput_ar (g := (qup (Gb 174) e ((tst T A n M) e))) xa_174 rfl) rfl (by omega) k9) ?_
          refine qy (fun _ _ k9 => z_eq rfl (qc (qi (show ((qup (Gb 174) e ((tst T A n M) e)) e) = ((tst T A n M) e) from by first | rfl | exact qup_eq _ _ _)) rfl) rfl k9) ?_
          refine qy (fun _ _ k9 => z_bipush d_X7_breatheTree_171 (by decide) k9) ?_
          suffices kJ173 : qEy M_X7_breatheTree 181 [qR 173, qR 6, qI (e : Int), qI (M e), qI (tsL A M e), qI (bel A M (e : Int) n)] [qI (qb (((tst T A n M) e) = 7)), qI (cnt (fun k => (tst T A n M) k = 7) n - cnt (fun k => (tst T A n M) k = 7) j), qR 173] (xput h (gup F 173 (qup (qup (F 173) 9 (cnt (fun k => (tst T A n M) k = 7) n - cnt (fun k => (tst T A n M) k = 7) j)) 10 (cnt (fun k => (tst T A n M) k ≠ M k) n - cnt (fun k => (tst T A n M) k ≠ M k) j))) (gup Gb 174 (qup (Gb 174) e ((tst T A n M) e)))) Q by
            refine qy2 (fun _ _ => z_icmp_ne 180 d_X7_breatheTree_173 (by decide)) (fun hc7 => ?_) (fun hc7 => ?_)
            · refine qy (fun _ _ k9 => z_iconst d_X7_breatheTree_180 (by decide) k9) ?_
              exact qy (fun _ _ k9 => z_eq rfl (qc (qi (qb_f (by omega)).symm) (qc rfl (qc rfl rfl))) rfl k9) kJ173
            · refine qy (fun _ _ k9 => z_iconst d_X7_breatheTree_176 (by decide) k9) ?_
              refine qy (fun _ _ k9 => z_goto 181 d_X7_breatheTree_177 (by decide) k9) ?_
              exact qy (fun _ _ k9 => z_eq rfl (qc (qi (qb_t (by omega)).symm) (qc rfl (qc rfl rfl))) rfl k9) kJ173
          refine qy (fun _ _ k9 => z_iadd d_X7_breatheTree_181 (by omega) k9) ?_
          refine qy (fun _ _ k9 => z_putf (fs' := [qR 174, qR 175, qR 176, qI ((F 173) 3), qI ((F 173) 4), qI ((F 173) 5), qI ((F 173) 6), qI ((F 173) 7), qI ((F 173) 8), qI ((cnt (fun k => (tst T A n M) k = 7) n - cnt (fun k => (tst T A n M) k = 7) j) + (qb (((tst T A n M) e) = 7))), qI (cnt (fun k => (tst T A n M) k ≠ M k) n - cnt (fun k => (tst T A n M) k ≠ M k) j)]) d_X7_breatheTree_182 fp_X7_41 (xput_ob (c := (qup (qup (F 173) 9 (cnt (fun k => (tst T A n M) k = 7) n - cnt (fun k => (tst T A n M) k = 7) j)) 10 (cnt (fun k => (tst T A n M) k ≠ M k) n - cnt (fun k => (tst T A n M) k ≠ M k) j))) xi_173 rfl (xsh_7 xo_173)) (fun _ => rfl) (fun _ => rfl) (Nat.le_of_ble_eq_true rfl) rfl k9) ?_
          refine qy (fun _ _ k9 => z_eq rfl rfl ((xput_sf (c := (qup (qup (qup (F 173) 9 (cnt (fun k => (tst T A n M) k = 7) n - cnt (fun k => (tst T A n M) k = 7) j)) 10 (cnt (fun k => (tst T A n M) k ≠ M k) n - cnt (fun k => (tst T A n M) k ≠ M k) j)) 9 ((cnt (fun k => (tst T A n M) k = 7) n - cnt (fun k => (tst T A n M) k = 7) j) + (qb (((tst T A n M) e) = 7))))) xi_173 (xsh_7 xo_173)).trans (xput_cg ((gup_gup _ _ _).trans (gup_cg rfl ((qup_comm (by decide)).trans (congrArg (fun z => qup z 10 (cnt (fun k => (tst T A n M) k ≠ M k) n - cnt (fun k => (tst T A n M) k ≠ M k) j)) (qup_qup _ _ _ _))))) rfl)) k9) ?_
          refine qy (fun _ _ k9 => z_aload_n d_X7_breatheTree_185 rfl rfl k9) ?_
          refine qy (fun _ _ k9 => z_dup d_X7_breatheTree_186 rfl k9) ?_
          refine qy (fun _ _ k9 => z_getf (v := qI (cnt (fun k => (tst T A n M) k ≠ M k) n - cnt (fun k => (tst T A n M) k ≠ M k) j)) d_X7_breatheTree_187 fl_X7_44 (xput_ob (c := (qup (qup (F 173) 9 ((cnt (fun k => (tst T A n M) k = 7) n - cnt (fun k => (tst T A n M) k = 7) j) + (qb (((tst T A n M) e) = 7)))) 10 (cnt (fun k => (tst T A n M) k ≠ M k) n - cnt (fun k => (tst T A n M) k ≠ M k) j))) xi_173 rfl (xsh_7 xo_173)) rfl k9) ?_
          refine qy (fun _ _ k9 => z_aload_n d_X7_breatheTree_190 rfl rfl k9) ?_
          refine qy (fun _ _ k9 => z_getf (v := qR 174) d_X7_breatheTree_191 fl_X7_9 (xput_ob (c := (qup (qup (F 173) 9 ((cnt (fun k => (tst T A n M) k = 7) n - cnt (fun k => (tst T A n M) k = 7) j) + (qb (((tst T A n M) e) = 7)))) 10 (cnt (fun k => (tst T A n M) k ≠ M k) n - cnt (fun k => (tst T A n M) k ≠ M k) j))) xi_173 rfl (xsh_7 xo_173)) rfl k9) ?_
          refine qy (fun _ _ k9 => z_iload_n d_X7_breatheTree_194 rfl rfl k9) ?_
          refine qy (fun _ _ k9 => z_ild e d_X7_breatheTree_195 (xput_ar (g := (qup (Gb 174) e ((tst T A n M) e))) xa_174 rfl) rfl (by omega) k9) ?_
          refine qy (fun _ _ k9 => z_eq rfl (qc (qi (show ((qup (Gb 174) e ((tst T A n M) e)) e) = ((tst T A n M) e) from by first | rfl | exact qup_eq _ _ _)) rfl) rfl k9) ?_
          refine qy (fun _ _ k9 => z_iload_n d_X7_breatheTree_196 rfl rfl k9) ?_
          suffices kJ197 : qEy M_X7_breatheTree 205 [qR 173, qR 6, qI (e : Int), qI (M e), qI (tsL A M e), qI (bel A M (e : Int) n)] [qI (qb (((tst T A n M) e) ≠ (M e))), qI (cnt (fun k => (tst T A n M) k ≠ M k) n - cnt (fun k => (tst T A n M) k ≠ M k) j), qR 173] (xput h (gup F 173 (qup (qup (F 173) 9 ((cnt (fun k => (tst T A n M) k = 7) n - cnt (fun k => (tst T A n M) k = 7) j) + (qb (((tst T A n M) e) = 7)))) 10 (cnt (fun k => (tst T A n M) k ≠ M k) n - cnt (fun k => (tst T A n M) k ≠ M k) j))) (gup Gb 174 (qup (Gb 174) e ((tst T A n M) e)))) Q by
            refine qy2 (fun _ _ => z_icmp_eq 204 d_X7_breatheTree_197 (by decide)) (fun hc8 => ?_) (fun hc8 => ?_)
            · refine qy (fun _ _ k9 => z_iconst d_X7_breatheTree_204 (by decide) k9) ?_
              exact qy (fun _ _ k9 => z_eq rfl (qc (qi (qb_f (by omega)).symm) (qc rfl (qc rfl rfl))) rfl k9) kJ197
            · refine qy (fun _ _ k9 => z_iconst d_X7_breatheTree_200 (by decide) k9) ?_
              refine qy (fun _ _ k9 => z_goto 205 d_X7_breatheTree_201 (by decide) k9) ?_
              exact qy (fun _ _ k9 => z_eq rfl (qc (qi (qb_t (by omega)).symm) (qc rfl (qc rfl rfl))) rfl k9) kJ197
          refine qy (fun _ _ k9 => z_iadd d_X7_breatheTree_205 (by omega) k9) ?_
          refine qy (fun _ _ k9 => z_putf (fs' := [qR 174, qR 175, qR 176, qI ((F 173) 3), qI ((F 173) 4), qI ((F 173) 5), qI ((F 173) 6), qI ((F 173) 7), qI ((F 173) 8), qI ((cnt (fun k => (tst T A n M) k = 7) n - cnt (fun k => (tst T A n M) k = 7) j) + (qb (((tst T A n M) e) = 7))), qI ((cnt (fun k => (tst T A n M) k ≠ M k) n - cnt (fun k => (tst T A n M) k ≠ M k) j) + (qb (((tst T A n M) e) ≠ (M e))))]) d_X7_breatheTree_206 fp_X7_44 (xput_ob (c := (qup (qup (F 173) 9 ((cnt (fun k => (tst T A n M) k = 7) n - cnt (fun k => (tst T A n M) k = 7) j) + (qb (((tst T A n M) e) = 7)))) 10 (cnt (fun k => (tst T A n M) k ≠ M k) n - cnt (fun k => (tst T A n M) k ≠ M k) j))) xi_173 rfl (xsh_7 xo_173)) (fun _ => rfl) (fun _ => rfl) (Nat.le_of_ble_eq_true rfl) rfl k9) ?_
          refine qy (fun _ _ k9 => z_eq rfl rfl ((xput_sf (c := (qup (qup (qup (F 173) 9 ((cnt (fun k => (tst T A n M) k = 7) n - cnt (fun k => (tst T A n M) k = 7) j) + (qb (((tst T A n M) e) = 7)))) 10 (cnt (fun k => (tst T A n M) k ≠ M k) n - cnt (fun k => (tst T A n M) k ≠ M k) j)) 10 ((cnt (fun k => (tst T A n M) k ≠ M k) n - cnt (fun k => (tst T A n M) k ≠ M k) j) + (qb (((tst T A n M) e) ≠ (M e)))))) xi_173 (xsh_7 xo_173)).trans (xput_cg ((gup_gup _ _ _).trans (gup_cg rfl (qup_qup _ _ _ _))) rfl)) k9) ?_
          refine qy (fun _ _ k9 => z_iinc (ls' := [qR 173, qR 6, qI ((e : Int) + (-1)), qI (M e), qI (tsL A M e), qI (bel A M (e : Int) n)]) d_X7_breatheTree_209 rfl (by decide) (by omega) rfl k9) ?_
          refine qy (fun _ _ k9 => z_goto 82 d_X7_breatheTree_212 (by decide) k9) ?_
          exact qy (fun _ _ k9 => z_dr (qle_k rfl (qle_k rfl (qle_k (qi (by omega)) (qle_d (qle_d (qle_d qle_n)))))) rfl (xput_cg (gup_cg rfl (q2_cg (by omega) (by omega))) rfl) k9) (kkj e (gup Gb 174 (qup (Gb 174) e ((tst T A n M) e))) (⟨by omega, fun a h1 h2 => (gup_ne h2).trans (hfb a h1 h2), fun k hk => by rw [gup_ne (by decide)]; exact hbb k hk, fun k hk => by rw [gup_eq, qup_ne (by omega)]; exact hlo k (by omega), fun k h1 h2 => by rw [gup_eq]; by_cases z : k = e; (rw [z, qup_eq]); (rw [qup_ne z]; exact hhi k (by omega) h2)⟩) (by omega))
        · refine qy (fun _ _ k9 => z_bipush d_X7_breatheTree_131 (by decide) k9) ?_
          refine qy (fun _ _ k9 => z_goto 142 d_X7_breatheTree_133 (by decide) k9) ?_
          refine qy (fun _ _ k9 => z_eq rfl (qc (qi (show 8 = (bel A M (e : Int) n) from by unfold bel; rw [qif_f q128])) rfl) rfl k9) ?_
          refine qy (fun _ _ k9 => z_istore (ls' := [qR 173, qR 6, qI (e : Int), qI (M e), qI (tsL A M e), qI (bel A M (e : Int) n)]) d_X7_breatheTree_142 (by decide) rfl k9) ?_
          refine qy (fun _ _ k9 => z_aload_n d_X7_breatheTree_144 rfl rfl k9) ?_
          refine qy (fun _ _ k9 => z_getf (v := qR 174) d_X7_breatheTree_145 fl_X7_9 (xput_ob (c := (qup (qup (F 173) 9 (cnt (fun k => (tst T A n M) k = 7) n - cnt (fun k => (tst T A n M) k = 7) j)) 10 (cnt (fun k => (tst T A n M) k ≠ M k) n - cnt (fun k => (tst T A n M) k ≠ M k) j))) xi_173 rfl (xsh_7 xo_173)) rfl k9) ?_
          refine qy (fun _ _ k9 => z_iload_n d_X7_breatheTree_148 rfl rfl k9) ?_
          refine qy (fun _ _ k9 => z_aload_n d_X7_breatheTree_149 rfl rfl k9) ?_
          refine qy (fun _ _ k9 => z_iload_n d_X7_breatheTree_150 rfl rfl k9) ?_
          refine qy (fun _ _ k9 => z_iload d_X7_breatheTree_151 rfl k9) ?_
          refine qy (fun _ _ k9 => z_iload d_X7_breatheTree_153 rfl k9) ?_
          refine qy (fun _ _ k9 => z_cs (M1 := M_X11_caseOf) d_X7_breatheTree_155 ls_X7_81 k_X11_caseOf [qI (M e), qI (tsL A M e), qI (bel A M (e : Int) n)] rfl rfl (Nat.le_of_ble_eq_true rfl) (by decide) (by decide) (Nat.le_of_ble_eq_true rfl) (c_caseOf (M e) (tsL A M e) (bel A M (e : Int) n) (by omega) (by omega) (by omega)) k9) ?_
          refine qy (fun _ _ k9 => z_eq rfl (qc (qi (show (81 * (M e) + 9 * (tsL A M e) + (bel A M (e : Int) n)) = (tsC A n M e) from rfl)) rfl) rfl k9) ?_
          refine qy (fun _ _ k9 => z_ild ((tsC A n M e).toNat) d_X7_breatheTree_158 (xput_ar (g := (Gb 6)) xa_6 rfl) (by omega) (by omega) k9) ?_
          refine qy (fun _ _ k9 => z_eq rfl (qc (qi (show ((Gb 6) ((tsC A n M e).toNat)) = ((tst T A n M) e) from by rw [hfb 6 (by decide) (by decide)]; exact hT _ (by omega))) rfl) rfl k9) ?_
          refine qy (fun _ _ k9 => z_ist e d_X7_breatheTree_159 (xput_ar (g := (Gb 174)) xa_174 rfl) (by omega) rfl (by omega) k9) ?_
          refine qy (fun _ _ k9 => z_eq rfl rfl (xput_sa xa_174) k9) ?_
          refine qy (fun _ _ k9 => z_aload_n d_X7_breatheTree_160 rfl rfl k9) ?_
          refine qy (fun _ _ k9 => z_dup d_X7_breatheTree_161 rfl k9) ?_
          refine qy (fun _ _ k9 => z_getf (v := qI (cnt (fun k => (tst T A n M) k = 7) n - cnt (fun k => (tst T A n M) k = 7) j)) d_X7_breatheTree_162 fl_X7_41 (xput_ob (c := (qup (qup (F 173) 9 (cnt (fun k => (tst T A n M) k = 7) n - cnt (fun k => (tst T A n M) k = 7) j)) 10 (cnt (fun k => (tst T A n M) k ≠ M k) n - cnt (fun k => (tst T A n M) k ≠ M k) j))) xi_173 rfl (xsh_7 xo_173)) rfl k9) ?_
          refine qy (fun _ _ k9 => z_aload_n d_X7_breatheTree_165 rfl rfl k9) ?_
          refine qy (fun _ _ k9 => z_getf (v := qR 174) d_X7_breatheTree_166 fl_X7_9 (xput_ob (c := (qup (qup (F 173) 9 (cnt (fun k => (tst T A n M) k = 7) n - cnt (fun k => (tst T A n M) k = 7) j)) 10 (cnt (fun k => (tst T A n M) k ≠ M k) n - cnt (fun k => (tst T A n M) k ≠ M k) j))) xi_173 rfl (xsh_7 xo_173)) rfl k9) ?_
          refine qy (fun _ _ k9 => z_iload_n d_X7_breatheTree_169 rfl rfl k9) ?_
          refine qy (fun _ _ k9 => z_ild e d_X7_breatheTree_170 (xput_ar (g := (qup (Gb 174) e ((tst T A n M) e))) xa_174 rfl) rfl (by omega) k9) ?_
          refine qy (fun _ _ k9 => z_eq rfl (qc (qi (show ((qup (Gb 174) e ((tst T A n M) e)) e) = ((tst T A n M) e) from by first | rfl | exact qup_eq _ _ _)) rfl) rfl k9) ?_
          refine qy (fun _ _ k9 => z_bipush d_X7_breatheTree_171 (by decide) k9) ?_
          suffices kJ173 : qEy M_X7_breatheTree 181 [qR 173, qR 6, qI (e : Int), qI (M e), qI (tsL A M e), qI (bel A M (e : Int) n)] [qI (qb (((tst T A n M) e) = 7)), qI (cnt (fun k => (tst T A n M) k = 7) n - cnt (fun k => (tst T A n M) k = 7) j), qR 173] (xput h (gup F 173 (qup (qup (F 173) 9 (cnt (fun k => (tst T A n M) k = 7) n - cnt (fun k => (tst T A n M) k = 7) j)) 10 (cnt (fun k => (tst T A n M) k ≠ M k) n - cnt (fun k => (tst T A n M) k ≠ M k) j))) (gup Gb 174 (qup (Gb 174) e ((tst T A n M) e)))) Q by
            refine qy2 (fun _ _ => z_icmp_ne 180 d_X7_breatheTree_173 (by decide)) (fun hc9 => ?_) (fun hc9 => ?_)
            · refine qy (fun _ _ k9 => z_iconst d_X7_breatheTree_180 (by decide) k9) ?_
              exact qy (fun _ _ k9 => z_eq rfl (qc (qi (qb_f (by omega)).symm) (qc rfl (qc rfl rfl))) rfl k9) kJ173
            · refine qy (fun _ _ k9 => z_iconst d_X7_breatheTree_176 (by decide) k9) ?_
              refine qy (fun _ _ k9 => z_goto 181 d_X7_breatheTree_177 (by decide) k9) ?_
              exact qy (fun _ _ k9 => z_eq rfl (qc (qi (qb_t (by omega)).symm) (qc rfl (qc rfl rfl))) rfl k9) kJ173
          refine qy (fun _ _ k9 => z_iadd d_X7_breatheTree_181 (by omega) k9) ?_
          refine qy (fun _ _ k9 => z_putf (fs' := [qR 174, qR 175, qR 176, qI ((F 173) 3), qI ((F 173) 4), qI ((F 173) 5), qI ((F 173) 6), qI ((F 173) 7), qI ((F 173) 8), qI ((cnt (fun k => (tst T A n M) k = 7) n - cnt (fun k => (tst T A n M) k = 7) j) + (qb (((tst T A n M) e) = 7))), qI (cnt (fun k => (tst T A n M) k ≠ M k) n - cnt (fun k => (tst T A n M) k ≠ M k) j)]) d_X7_breatheTree_182 fp_X7_41 (xput_ob (c := (qup (qup (F 173) 9 (cnt (fun k => (tst T A n M) k = 7) n - cnt (fun k => (tst T A n M) k = 7) j)) 10 (cnt (fun k => (tst T A n M) k ≠ M k) n - cnt (fun k => (tst T A n M) k ≠ M k) j))) xi_173 rfl (xsh_7 xo_173)) (fun _ => rfl) (fun _ => rfl) (Nat.le_of_ble_eq_true rfl) rfl k9) ?_
          refine qy (fun _ _ k9 => z_eq rfl rfl ((xput_sf (c := (qup (qup (qup (F 173) 9 (cnt (fun k => (tst T A n M) k = 7) n - cnt (fun k => (tst T A n M) k = 7) j)) 10 (cnt (fun k => (tst T A n M) k ≠ M k) n - cnt (fun k => (tst T A n M) k ≠ M k) j)) 9 ((cnt (fun k => (tst T A n M) k = 7) n - cnt (fun k => (tst T A n M) k = 7) j) + (qb (((tst T A n M) e) = 7))))) xi_173 (xsh_7 xo_173)).trans (xput_cg ((gup_gup _ _ _).trans (gup_cg rfl ((qup_comm (by decide)).trans (congrArg (fun z => qup z 10 (cnt (fun k => (tst T A n M) k ≠ M k) n - cnt (fun k => (tst T A n M) k ≠ M k) j)) (qup_qup _ _ _ _))))) rfl)) k9) ?_
          refine qy (fun _ _ k9 => z_aload_n d_X7_breatheTree_185 rfl rfl k9) ?_
          refine qy (fun _ _ k9 => z_dup d_X7_breatheTree_186 rfl k9) ?_
          refine qy (fun _ _ k9 => z_getf (v := qI (cnt (fun k => (tst T A n M) k ≠ M k) n - cnt (fun k => (tst T A n M) k ≠ M k) j)) d_X7_breatheTree_187 fl_X7_44 (xput_ob (c := (qup (qup (F 173) 9 ((cnt (fun k => (tst T A n M) k = 7) n - cnt (fun k => (tst T A n M) k = 7) j) + (qb (((tst T A n M) e) = 7)))) 10 (cnt (fun k => (tst T A n M) k ≠ M k) n - cnt (fun k => (tst T A n M) k ≠ M k) j))) xi_173 rfl (xsh_7 xo_173)) rfl k9) ?_
          refine qy (fun _ _ k9 => z_aload_n d_X7_breatheTree_190 rfl rfl k9) ?_
          refine qy (fun _ _ k9 => z_getf (v := qR 174) d_X7_breatheTree_191 fl_X7_9 (xput_ob (c := (qup (qup (F 173) 9 ((cnt (fun k => (tst T A n M) k = 7) n - cnt (fun k => (tst T A n M) k = 7) j) + (qb (((tst T A n M) e) = 7)))) 10 (cnt (fun k => (tst T A n M) k ≠ M k) n - cnt (fun k => (tst T A n M) k ≠ M k) j))) xi_173 rfl (xsh_7 xo_173)) rfl k9) ?_
          refine qy (fun _ _ k9 => z_iload_n d_X7_breatheTree_194 rfl rfl k9) ?_
          refine qy (fun _ _ k9 => z_ild e d_X7_breatheTree_195 (xput_ar (g := (qup (Gb 174) e ((tst T A n M) e))) xa_174 rfl) rfl (by omega) k9) ?_
          refine qy (fun _ _ k9 => z_eq rfl (qc (qi (show ((qup (Gb 174) e ((tst T A n M) e)) e) = ((tst T A n M) e) from by first | rfl | exact qup_eq _ _ _)) rfl) rfl k9) ?_
          refine qy (fun _ _ k9 => z_iload_n d_X7_breatheTree_196 rfl rfl k9) ?_
          suffices kJ197 : qEy M_X7_breatheTree 205 [qR 173, qR 6, qI (e : Int), qI (M e), qI (tsL A M e), qI (bel A M (e : Int) n)] [qI (qb (((tst T A n M) e) ≠ (M e))), qI (cnt (fun k => (tst T A n M) k ≠ M k) n - cnt (fun k => (tst T A n M) k ≠ M k) j), qR 173] (xput h (gup F 173 (qup (qup (F 173) 9 ((cnt (fun k => (tst T A n M) k = 7) n - cnt (fun k => (tst T A n M) k = 7) j) + (qb (((tst T A n M) e) = 7)))) 10 (cnt (fun k => (tst T A n M) k ≠ M k) n - cnt (fun k => (tst T A n M) k ≠ M k) j))) (gup Gb 174 (qup (Gb 174) e ((tst T A n M) e)))) Q by
            refine qy2 (fun _ _ => z_icmp_eq 204 d_X7_breatheTree_197 (by decide)) (fun hc10 => ?_) (fun hc10 => ?_)
            · refine qy (fun _ _ k9 => z_iconst d_X7_breatheTree_204 (by decide) k9) ?_
              exact qy (fun _ _ k9 => z_eq rfl (qc (qi (qb_f (by omega)).symm) (qc rfl (qc rfl rfl))) rfl k9) kJ197
            · refine qy (fun _ _ k9 => z_iconst d_X7_breatheTree_200 (by decide) k9) ?_
              refine qy (fun _ _ k9 => z_goto 205 d_X7_breatheTree_201 (by decide) k9) ?_
              exact qy (fun _ _ k9 => z_eq rfl (qc (qi (qb_t (by omega)).symm) (qc rfl (qc rfl rfl))) rfl k9) kJ197
          refine qy (fun _ _ k9 => z_iadd d_X7_breatheTree_205 (by omega) k9) ?_
          refine qy (fun _ _ k9 => z_putf (fs' := [qR 174, qR 175, qR 176, qI ((F 173) 3), qI ((F 173) 4), qI ((F 173) 5), qI ((F 173) 6), qI ((F 173) 7), qI ((F 173) 8), qI ((cnt (fun k => (tst T A n M) k = 7) n - cnt (fun k => (tst T A n M) k = 7) j) + (qb (((tst T A n M) e) = 7))), qI ((cnt (fun k => (tst T A n M) k ≠ M k) n - cnt (fun k => (tst T A n M) k ≠ M k) j) + (qb (((tst T A n M) e) ≠ (M e))))]) d_X7_breatheTree_206 fp_X7_44 (xput_ob (c := (qup (qup (F 173) 9 ((cnt (fun k => (tst T A n M) k = 7) n - cnt (fun k => (tst T A n M) k = 7) j) + (qb (((tst T A n M) e) = 7)))) 10 (cnt (fun k => (tst T A n M) k ≠ M k) n - cnt (fun k => (tst T A n M) k ≠ M k) j))) xi_173 rfl (xsh_7 xo_173)) (fun _ => rfl) (fun _ => rfl) (Nat.le_of_ble_eq_true rfl) rfl k9) ?_
          refine qy (fun _ _ k9 => z_eq rfl rfl ((xput_sf (c := (qup (qup (qup (F 173) 9 ((cnt (fun k => (tst T A n M) k = 7) n - cnt (fun k => (tst T A n M) k = 7) j) + (qb (((tst T A n M) e) = 7)))) 10 (cnt (fun k => (tst T A n M) k ≠ M k) n - cnt (fun k => (tst T A n M) k ≠ M k) j)) 10 ((cnt (fun k => (tst T A n M) k ≠ M k) n - cnt (fun k => (tst T A n M) k ≠ M k) j) + (qb (((tst T A n M) e) ≠ (M e)))))) xi_173 (xsh_7 xo_173)).trans (xput_cg ((gup_gup _ _ _).trans (gup_cg rfl (qup_qup _ _ _ _))) rfl)) k9) ?_
          refine qy (fun _ _ k9 => z_iinc (ls' := [qR 173, qR 6, qI ((e : Int) + (-1)), qI (M e), qI (tsL A M e), qI (bel A M (e : Int) n)]) d_X7_breatheTree_209 rfl (by decide) (by omega) rfl k9) ?_
          refine qy (fun _ _ k9 => z_goto 82 d_X7_breatheTree_212 (by decide) k9) ?_
          exact qy (fun _ _ k9 => z_dr (qle_k rfl (qle_k rfl (qle_k (qi (by omega)) (qle_d (qle_d (qle_d qle_n)))))) rfl (xput_cg (gup_cg rfl (q2_cg (by omega) (by omega))) rfl) k9) (kkj e (gup Gb 174 (qup (Gb 174) e ((tst T A n M) e))) (⟨by omega, fun a h1 h2 => (gup_ne h2).trans (hfb a h1 h2), fun k hk => by rw [gup_ne (by decide)]; exact hbb k hk, fun k hk => by rw [gup_eq, qup_ne (by omega)]; exact hlo k (by omega), fun k h1 h2 => by rw [gup_eq]; by_cases z : k = e; (rw [z, qup_eq]); (rw [qup_ne z]; exact hhi k (by omega) h2)⟩) (by omega))
  · have hAi := hAt i (by omega)
    refine qy (fun _ _ k9 => z_aload_n d_X7_breatheTree_18 rfl rfl k9) ?_
    refine qy (fun _ _ k9 => z_getf (v := qR 175) d_X7_breatheTree_19 fl_X7_15 (xput_ob (c := (F 173)) xi_173 rfl (xsh_7 xo_173)) rfl k9) ?_
    refine qy (fun _ _ k9 => z_iload_n d_X7_breatheTree_22 rfl rfl k9) ?_
    refine qy (fun _ _ k9 => z_ild i d_X7_breatheTree_23 (xput_ar (g := (Ga 175)) xa_175 rfl) rfl (by omega) k9) ?_
    refine qy (fun _ _ k9 => z_eq rfl (qc (qi (show ((Ga 175) i) = (A i) from by rw [hfr 175 (by decide)]; exact hA i (by omega))) rfl) rfl k9) ?_
    refine qy (fun _ _ k9 => z_iconst d_X7_breatheTree_24 (by decide) k9) ?_
    refine qy2 (fun _ _ => z_icmp_eq 59 d_X7_breatheTree_25 (by decide)) (fun q25 => ?_) (fun q25 => ?_)
    · refine qy (fun _ _ k9 => z_iinc (ls' := [qR 173, qR 6, qI ((i : Int) + 1), qU, qU, qU]) d_X7_breatheTree_59 rfl (by decide) (by omega) rfl k9) ?_
      refine qy (fun _ _ k9 => z_goto 10 d_X7_breatheTree_62 (by decide) k9) ?_
      exact qy (fun _ _ k9 => z_eq (qc rfl (qc rfl (qc (qi (by omega)) (qc rfl (qc rfl (qc rfl rfl)))))) rfl rfl k9) (kk (i + 1) Ga (⟨by omega, hfr, fun k hk => (hbl k hk).trans (blF_s (a := 0) q25).symm⟩) (by omega))
    · refine qy (fun _ _ k9 => z_aload_n d_X7_breatheTree_28 rfl rfl k9) ?_
      refine qy (fun _ _ k9 => z_getf (v := qR 176) d_X7_breatheTree_29 fl_X7_18 (xput_ob (c := (F 173)) xi_173 rfl (xsh_7 xo_173)) rfl k9) ?_
      refine qy (fun _ _ k9 => z_aload_n d_X7_breatheTree_32 rfl rfl k9) ?_
      refine qy (fun _ _ k9 => z_getf (v := qR 175) d_X7_breatheTree_33 fl_X7_15 (xput_ob (c := (F 173)) xi_173 rfl (xsh_7 xo_173)) rfl k9) ?_
      refine qy (fun _ _ k9 => z_iload_n d_X7_breatheTree_36 rfl rfl k9) ?_
      refine qy (fun _ _ k9 => z_ild i d_X7_breatheTree_37 (xput_ar (g := (Ga 175)) xa_175 rfl) rfl (by omega) k9) ?_
      refine qy (fun _ _ k9 => z_eq rfl (qc (qi (show ((Ga 175) i) = (A i) from by rw [hfr 175 (by decide)]; exact hA i (by omega))) rfl) rfl k9) ?_
      refine qy (fun _ _ k9 => z_aload_n d_X7_breatheTree_38 rfl rfl k9) ?_
      refine qy (fun _ _ k9 => z_getf (v := qR 176) d_X7_breatheTree_39 fl_X7_18 (xput_ob (c := (F 173)) xi_173 rfl (xsh_7 xo_173)) rfl k9) ?_
      refine qy (fun _ _ k9 => z_aload_n d_X7_breatheTree_42 rfl rfl k9) ?_
      refine qy (fun _ _ k9 => z_getf (v := qR 175) d_X7_breatheTree_43 fl_X7_15 (xput_ob (c := (F 173)) xi_173 rfl (xsh_7 xo_173)) rfl k9) ?_
      refine qy (fun _ _ k9 => z_iload_n d_X7_breatheTree_46 rfl rfl k9) ?_
      refine qy (fun _ _ k9 => z_ild i d_X7_breatheTree_47 (xput_ar (g := (Ga 175)) xa_175 rfl) rfl (by omega) k9) ?_
      refine qy (fun _ _ k9 => z_eq rfl (qc (qi (show ((Ga 175) i) = (A i) from by rw [hfr 175 (by decide)]; exact hA i (by omega))) rfl) rfl k9) ?_
      refine qy (fun _ _ k9 => z_ild ((A i).toNat) d_X7_breatheTree_48 (xput_ar (g := (Ga 176)) xa_176 rfl) (by omega) (by omega) k9) ?_
      refine qy (fun _ _ k9 => z_eq rfl (qc (qi (show ((Ga 176) ((A i).toNat)) = (blF A M (A i) i) from by rw [hbl _ (by omega), show (((A i).toNat : Nat) : Int) = A i by omega])) rfl) rfl k9) ?_
      refine qy (fun _ _ k9 => z_aload_n d_X7_breatheTree_49 rfl rfl k9) ?_
      refine qy (fun _ _ k9 => z_getf (v := qR 174) d_X7_breatheTree_50 fl_X7_9 (xput_ob (c := (F 173)) xi_173 rfl (xsh_7 xo_173)) rfl k9) ?_
      refine qy (fun _ _ k9 => z_iload_n d_X7_breatheTree_53 rfl rfl k9) ?_
      refine qy (fun _ _ k9 => z_ild i d_X7_breatheTree_54 (xput_ar (g := (Ga 174)) xa_174 rfl) rfl (by omega) k9) ?_
      refine qy (fun _ _ k9 => z_eq rfl (qc (qi (show ((Ga 174) i) = (M i) from by rw [hfr 174 (by decide)]; exact hM i (by omega))) rfl) rfl k9) ?_
      refine qy (fun _ _ k9 => z_max d_X7_breatheTree_55 lb_X7_62 (by decide) (Nat.le_of_ble_eq_true rfl) k9) ?_
      refine qy (fun _ _ k9 => z_eq rfl (qc (qi (show (if (blF A M (A i) i) < (M i) then (M i) else (blF A M (A i) i)) = (if blF A M (A i) i > M i then blF A M (A i) i else M i) from by split <;> split <;> omega)) rfl) rfl k9) ?_
      refine qy (fun _ _ k9 => z_ist ((A i).toNat) d_X7_breatheTree_58 (xput_ar (g := (Ga 176)) xa_176 rfl) (by omega) (by omega) (by omega) k9) ?_
      refine qy (fun _ _ k9 => z_eq rfl rfl (xput_sa xa_176) k9) ?_
      refine qy (fun _ _ k9 => z_iinc (ls' := [qR 173, qR 6, qI ((i : Int) + 1), qU, qU, qU]) d_X7_breatheTree_59 rfl (by decide) (by omega) rfl k9) ?_
      refine qy (fun _ _ k9 => z_goto 10 d_X7_breatheTree_62 (by decide) k9) ?_
      exact qy (fun _ _ k9 => z_eq (qc rfl (qc rfl (qc (qi (by omega)) (qc rfl (qc rfl (qc rfl rfl)))))) rfl rfl k9) (kk (i + 1) (gup Ga 176 (qup (Ga 176) ((A i).toNat) (if blF A M (A i) i > M i then blF A M (A i) i else M i))) (⟨by omega, fun a ha => (gup_ne ha).trans (hfr a ha), fun k hk => (by rw [gup_eq]; show _ = qif (A i ≠ (k : Int)) _ _; by_cases z : k = (A i).toNat; (rw [z, qup_eq, qif_f (by omega), show (((A i).toNat : Nat) : Int) = A i by omega]); (rw [qup_ne z, qif_t (by omega)]; exact hbl k hk))⟩) (by omega))
