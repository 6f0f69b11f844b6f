/-! ===== CONTRACTS: a run on a tree: breathe, finish ===== -/
def litT (T A : Nat → Int) (n t : Nat) : Prop := cnt (fun k => tps T A n t k = 7) n > 0
theorem tps_0 {T A : Nat → Int} {n : Nat} : cnt (fun k => tps T A n 0 k = 7) n = 0 := cnt_0.mpr (fun k _ => by
  have := qb_bd ((k : Int) = 0)
  show qb ((k : Int) = 0) ≠ 7
  omega)
theorem tps_st {T A : Nat → Int} {n t : Nat} (hA : trA A) (hn : n ≤ 16) (h : ∀ k, k < n → tps T A n (t + 1) k = tps T A n t k) : ∀ s k, k < n → tps T A n (t + s) k = tps T A n t k
  | 0, _, _ => rfl
  | s + 1, k, hk => by
    have e := tsC_cg hA hn hk (fun j hj => tps_st hA hn h s j hj)
    have e2 : tps T A n (t + (s + 1)) k = T (tsC A n (tps T A n (t + s)) k).toNat := rfl
    rw [e2, e]
    exact h k hk
theorem trV_no {T A : Nat → Int} {n k : Nat} (h : ¬ litT T A n k) : trV T A n k = -1 := by
  cases k with
  | zero => rfl
  | succ i =>
    unfold litT at h
    show qif (cnt (fun k => tps T A n (i + 1) k = 7) n ≤ 0) _ _ = _
    rw [qif_t (by omega)]
theorem tr_end {T A : Nat → Int} {n t : Nat} (hA : trA A) (hn : n ≤ 16) (ht : t ≤ 3 * n + 20) (hp : ∀ k, k + 1 < t → ¬ litT T A n (k + 1)) (hx : t = 3 * n + 20 ∨ litT T A n t ∨ (1 ≤ t ∧ ∀ k, k < n → tps T A n t k = tps T A n (t - 1) k)) : (∀ k, k < n → tps T A n t k = tps T A n (trJ T A n) k) ∧ trV T A n (trJ T A n) = qif (cnt (fun k => tps T A n t k = 7) n ≠ 0) (t : Int) (-1) := by
  have h0 : ¬ litT T A n 0 := by
    unfold litT
    rw [tps_0]; omega
  have hp2 : ∀ k, k < t → ¬ litT T A n k := fun k hk => by
    cases k with
    | zero => exact h0
    | succ i => exact hp i hk
  by_cases hl : litT T A n t
  · have ht0 : t ≠ 0 := fun z => h0 (z ▸ hl)
    obtain ⟨i, rfl⟩ : ∃ i, t = i + 1 := ⟨t - 1, by omega⟩
    have hV : trV T A n (i + 1) = (i : Int) + 1 := by
      unfold litT at hl
      show qif (cnt (fun k => tps T A n (i + 1) k = 7) n ≤ 0) _ _ = _
      rw [qif_f (by omega)]
    have hJ : trJ T A n = i + 1 := utl_at ht (fun k hk z => z.elim (fun q => by omega) (fun q => q (trV_no (hp2 k hk)))) (Or.inr (by rw [hV]; omega))
    rw [hJ, hV]
    unfold litT at hl
    exact ⟨fun _ _ => rfl, by rw [qif_t (by omega)]; omega⟩
  · have hno : ∀ k, k ≤ 3 * n + 20 → ¬ litT T A n k := by
      intro k hk
      rcases Nat.lt_trichotomy k t with q | q | q
      · exact hp2 k q
      · rw [q]; exact hl
      · rcases hx with z | z | ⟨z1, z2⟩
        · omega
        · exact absurd z hl
        · obtain ⟨i, rfl⟩ : ∃ i, t = i + 1 := ⟨t - 1, by omega⟩
          have hst := tps_st hA hn z2 (k - i)
          rw [show i + (k - i) = k by omega] at hst
          intro y
          refine hl ?_
          unfold litT at y ⊢
          rw [cnt_congr (fun j hj => by rw [hst j hj])] at y
          rw [cnt_congr (fun j hj => by rw [z2 j hj])]
          exact y
    have hJ : trJ T A n = 3 * n + 20 := utl_at (Nat.le_refl _) (fun k hk z => z.elim (fun q => by omega) (fun q => q (trV_no (hno k (by omega))))) (Or.inl (Nat.le_refl _))
    have c0 := cnt_bd (fun k => tps T A n t k = 7) n
    have c1 : cnt (fun k => tps T A n t k = 7) n = 0 := by
      unfold litT at hl; omega
    rw [hJ, trV_no (hno _ (Nat.le_refl _)), c1, qif_f (fun z => z rfl)]
    refine ⟨fun k hk => ?_, rfl⟩
    rcases hx with z | z | ⟨z1, z2⟩
    · rw [z]
    · exact absurd z hl
    · obtain ⟨i, rfl⟩ : ∃ i, t = i + 1 := ⟨t - 1, by omega⟩
      have hst := tps_st hA hn z2 (3 * n + 20 - i) k hk
      rw [show i + (3 * n + 20 - i) = 3 * n + 20 by omega] at hst
      exact (z2 k hk).trans hst.symm
set_option maxRecDepth 20000 in
set_option maxHeartbeats 4000000 in
theorem c_trBr {h : qH} {F G : Nat → Nat → Int} {n t : Nat} {lt ch : Int} {A M T : Nat → Int} (hn : 1 ≤ n ∧ n ≤ 16) (hA : ∀ k, k < n → G 175 k = A k) (hAt : trA A) (hT : ∀ c, c < 648 → G 6 c = T c) (hS : rnS F G 173 n 0 1 (-1) t lt ch M) (hMb : ∀ k, k < n → 0 ≤ M k ∧ M k ≤ 7) (ht : t ≤ 999) : ∃ F' G', (xfr 173 176 F G F' G' ∧ rnS F' G' 173 n 0 1 (-1) (t + 1) (cnt (fun k => (tst T A n M) k = 7) n) (cnt (fun k => (tst T A n M) k ≠ M k) n) (tst T A n M) ∧ G' 175 = G 175) ∧ qEx M_X7_breathe 0 [qR 173, qR 6] [] (xput h F G) none (xput h F' G') := by
  refine x_in (fun Q hQ => ?_)
  refine qy (fun _ _ k9 => z_aload_n d_X7_breathe_0 rfl rfl k9) ?_
  refine qy (fun _ _ k9 => z_getf (v := qI ((F 173) 5)) d_X7_breathe_1 fl_X7_29 (xput_ob (c := (F 173)) xi_173 rfl (xsh_7 xo_173)) rfl k9) ?_
  refine qy (fun _ _ k9 => z_eq rfl (qc (qi hS.1.2.2.1) rfl) rfl k9) ?_
  refine qy2 (fun _ _ => z_if_eq 15 d_X7_breathe_4 (by decide)) (fun hc1 => absurd hc1 (by decide)) (fun hc1 => ?_)
  refine qy (fun _ _ k9 => z_aload_n d_X7_breathe_7 rfl rfl k9) ?_
  refine qy (fun _ _ k9 => z_aload_n d_X7_breathe_8 rfl rfl k9) ?_
  obtain ⟨F1, G1, ⟨hv1, hu1, ha1, hw1⟩, hx1⟩ := c_trBreath (h := h) (F := F) (G := G) hS.1.1 hn hA hAt hS.2.2 hMb hT
  refine qy (fun _ _ k9 => z_cv0 (M1 := M_X7_breatheTree) d_X7_breathe_9 lv_X7_75 k_X7_breatheTree [qR 6] rfl rfl (xput_ob (c := (F 173)) xi_173 rfl (xsh_7 xo_173)) ⟨_, _, rfl⟩ (Nat.le_of_ble_eq_true rfl) (by decide) (by decide) (Nat.le_of_ble_eq_true rfl) hx1 k9) ?_
  refine qy (fun _ _ k9 => z_goto 20 d_X7_breathe_12 (by decide) k9) ?_
  refine qy (fun _ _ k9 => z_aload_n d_X7_breathe_20 rfl rfl k9) ?_
  refine qy (fun _ _ k9 => z_dup d_X7_breathe_21 rfl k9) ?_
  refine qy (fun _ _ k9 => z_getf (v := qI ((F1 173) 8)) d_X7_breathe_22 fl_X7_38 (xput_ob (c := (F1 173)) xi_173 rfl (xsh_7 xo_173)) rfl k9) ?_
  refine qy (fun _ _ k9 => z_eq rfl (qc (qi (show ((F1 173) 8) = (t : Int) from by rw [hu1]; exact hS.2.1.2.1)) rfl) rfl k9) ?_
  refine qy (fun _ _ k9 => z_iconst d_X7_breathe_25 (by decide) k9) ?_
  refine qy (fun _ _ k9 => z_iadd d_X7_breathe_26 (by omega) k9) ?_
  refine qy (fun _ _ k9 => z_putf (fs' := [qR 174, qR 175, qR 176, qI ((F1 173) 3), qI ((F1 173) 4), qI ((F1 173) 5), qI ((F1 173) 6), qI ((F1 173) 7), qI ((t : Int) + 1), qI ((F1 173) 9), qI ((F1 173) 10)]) d_X7_breathe_27 fp_X7_38 (xput_ob (c := (F1 173)) xi_173 rfl (xsh_7 xo_173)) (fun _ => rfl) (fun _ => rfl) (Nat.le_of_ble_eq_true rfl) rfl k9) ?_
  refine qy (fun _ _ k9 => z_eq rfl rfl (xput_sf (c := (qup (F1 173) 8 ((t : Int) + 1))) xi_173 (xsh_7 xo_173)) k9) ?_
  exact y_ret (hQ (gup F1 173 (qup (F1 173) 8 ((t : Int) + 1))) G1 (⟨xfr_f hv1 (by decide) (by decide), ⟨(by rw [gup_eq, hu1]; exact hS.1), (by rw [gup_eq, hu1]; exact ⟨hS.2.1.1, qup_eq _ _ _, rfl, rfl⟩), hw1⟩, ha1⟩)) (z_vret d_X7_breathe_30 rfl rfl rfl)
theorem litT_s {T A : Nat → Int} {n t : Nat} (hp : ∀ k, k + 1 < t → ¬ litT T A n (k + 1)) (hl : ¬ litT T A n t) : ∀ k, k + 1 < t + 1 → ¬ litT T A n (k + 1) := fun k hk => by
  by_cases z : k + 1 < t
  · exact hp k z
  · rw [show k + 1 = t by omega]; exact hl
set_option maxRecDepth 20000 in
set_option maxHeartbeats 4000000 in
theorem c_trFin {h : qH} {F G : Nat → Nat → Int} {n : Nat} {ch0 : Int} {A T : Nat → Int} (hn : 1 ≤ n ∧ n ≤ 16) (hA : ∀ k, k < n → G 175 k = A k) (hAt : trA A) (hT : ∀ c, c < 648 → G 6 c = T c) (hB : ∀ c, c < 648 → 0 ≤ T c ∧ T c ≤ 7) (hS : rnS F G 173 n 0 1 (-1) 0 0 ch0 (fun k => qb ((k : Int) = 0))) : ∃ F' G', (∃ (tt : Nat) (ch' : Int), xfr 173 176 F G F' G' ∧ rnS F' G' 173 n 0 1 (-1) tt (cnt (fun k => (tps T A n (trJ T A n)) k = 7) n) ch' (tps T A n (trJ T A n)) ∧ trV T A n (trJ T A n) = qif (cnt (fun k => (tps T A n (trJ T A n)) k = 7) n ≠ 0) (tt : Int) (-1)) ∧ qEx M_X7_finish 0 [qR 173, qR 6, qU, qU] [] (xput h F G) none (xput h F' G') := by
  refine x_in (fun Q hQ => ?_)
  refine qy (fun _ _ k9 => z_iconst d_X7_finish_0 (by decide) k9) ?_
  refine qy (fun _ _ k9 => z_istore_n (ls' := [qR 173, qR 6, qI 1, qU]) d_X7_finish_1 rfl (by decide) rfl k9) ?_
  refine qy (fun _ _ k9 => z_iconst d_X7_finish_2 (by decide) k9) ?_
  refine qy (fun _ _ k9 => z_istore_n (ls' := [qR 173, qR 6, qI 1, qI 0]) d_X7_finish_3 rfl (by decide) rfl k9) ?_
  refine qy (fun _ _ k9 => z_eq (qc rfl (qc rfl (qc (qi (qb_t (Or.inl rfl)).symm) (qc (qi (rfl)) rfl)))) rfl rfl k9) (y_wh4 (fun (t : Nat) (c : Int) (Fa : Nat → Nat → Int) (Ga : Nat → Nat → Int) => 3 * n + 20 - t) (fun (t : Nat) (c : Int) (Fa : Nat → Nat → Int) (Ga : Nat → Nat → Int) => [qR 173, qR 6, qI (qb (t = 0 ∨ c > 0)), qI (t : Int)]) (fun (t : Nat) (c : Int) (Fa : Nat → Nat → Int) (Ga : Nat → Nat → Int) => (xput h Fa Ga)) (fun (t : Nat) (c : Int) (Fa : Nat → Nat → Int) (Ga : Nat → Nat → Int) => t ≤ 3 * n + 20 ∧ xfr 173 176 F G Fa Ga ∧ (rnS Fa Ga 173 n 0 1 (-1) t (cnt (fun k => (tps T A n t) k = 7) n) c (tps T A n t)) ∧ Ga 175 = G 175 ∧ (∀ k, k + 1 < t → ¬ litT T A n (k + 1)) ∧ (t = 0 ∨ c > 0 ∨ (1 ≤ t ∧ ∀ k, k < n → (tps T A n t) k = (tps T A n (t - 1)) k))) 0 ch0 F G (⟨by omega, xfr_rf _ _ _ _, rnS_M hS (fun _ _ => rfl) tps_0.symm rfl, rfl, fun k hk => absurd hk (by omega), Or.inl rfl⟩) (fun t c Fa Ga hp kk => ?_))
  obtain ⟨ht, hfr, hS1, hab, hp, hst⟩ := hp
  show qEy M_X7_finish 4 [qR 173, qR 6, qI (qb (t = 0 ∨ c > 0)), qI (t : Int)] [] (xput h Fa Ga) Q
  have hT1 : ∀ c, c < 648 → Ga 6 c = T c := fun c hc => by rw [xfr_G hfr (by decide)]; exact hT c hc
  have f7 : Fa 173 7 = 3 * (n : Int) + 20 := hS1.2.1.1
  have f9 : Fa 173 9 = cnt (fun k => tps T A n t k = 7) n := hS1.2.1.2.2.1
  have c0 := cnt_bd (fun k => tps T A n t k = 7) n
  refine qy (fun _ _ k9 => z_iload_n d_X7_finish_4 rfl rfl k9) ?_
  refine qy (fun _ _ k9 => z_aload_n d_X7_finish_5 rfl rfl k9) ?_
  refine qy (fun _ _ k9 => z_getf (v := qI ((Fa 173) 7)) d_X7_finish_6 fl_X7_35 (xput_ob (c := (Fa 173)) xi_173 rfl (xsh_7 xo_173)) rfl k9) ?_
  refine qy2 (fun _ _ => z_icmp_ge 47 d_X7_finish_9 (by decide)) (fun q9 => ?_) (fun q9 => ?_)
  · exact y_ret (hQ Fa Ga (by have he := tr_end hAt hn.2 ht hp (Or.inl (by omega)); exact ⟨t, _, hfr, rnS_M hS1 he.1 (cnt_congr (fun k hk => by rw [he.1 k hk])) rfl, he.2.trans (by rw [cnt_congr (fun k hk => by rw [he.1 k hk])])⟩)) (z_vret d_X7_finish_47 rfl rfl rfl)
  · refine qy (fun _ _ k9 => z_aload_n d_X7_finish_12 rfl rfl k9) ?_
    refine qy (fun _ _ k9 => z_getf (v := qI ((Fa 173) 9)) d_X7_finish_13 fl_X7_41 (xput_ob (c := (Fa 173)) xi_173 rfl (xsh_7 xo_173)) rfl k9) ?_
    refine qy2 (fun _ _ => z_if_ne 47 d_X7_finish_16 (by decide)) (fun q16 => ?_) (fun q16 => ?_)
    · exact y_ret (hQ Fa Ga (by have he := tr_end hAt hn.2 ht hp (Or.inr (Or.inl (by unfold litT; omega))); exact ⟨t, _, hfr, rnS_M hS1 he.1 (cnt_congr (fun k hk => by rw [he.1 k hk])) rfl, he.2.trans (by rw [cnt_congr (fun k hk => by rw [he.1 k hk])])⟩)) (z_vret d_X7_finish_47 rfl rfl rfl)
    · refine qy (fun _ _ k9 => z_iload_n d_X7_finish_19 rfl rfl k9) ?_
      refine qy2n (fun _ _ => z_ifeqB 47 d_X7_finish_20 (by decide)) (fun q20 => ?_) (fun q20 => ?_)
      · exact y_ret (hQ Fa Ga (by have he := tr_end hAt hn.2 ht hp (Or.inr (Or.inr ((hst.resolve_left (fun z => q20 (Or.inl z))).resolve_left (fun z => q20 (Or.inr z))))); exact ⟨t, _, hfr, rnS_M hS1 he.1 (cnt_congr (fun k hk => by rw [he.1 k hk])) rfl, he.2.trans (by rw [cnt_congr (fun k hk => by rw [he.1 k hk])])⟩)) (z_vret d_X7_finish_47 rfl rfl rfl)
      · refine qy (fun _ _ k9 => z_aload_n d_X7_finish_23 rfl rfl k9) ?_
        refine qy (fun _ _ k9 => z_aload_n d_X7_finish_24 rfl rfl k9) ?_
        obtain ⟨F1, G1, ⟨hv1, hw1, ha1⟩, hx1⟩ := c_trBr (h := h) (F := Fa) (G := Ga) (T := T) (A := A) hn (fun k hk => by rw [hab]; exact hA k hk) hAt hT1 hS1 (tps_bd hB hAt hn.2 t) (by omega)
        refine qy (fun _ _ k9 => z_cv0 (M1 := M_X7_breathe) d_X7_finish_25 lv_X7_71 k_X7_breathe [qR 6] rfl rfl (xput_ob (c := (Fa 173)) xi_173 rfl (xsh_7 xo_173)) ⟨_, _, rfl⟩ (Nat.le_of_ble_eq_true rfl) (by decide) (by decide) (Nat.le_of_ble_eq_true rfl) hx1 k9) ?_
        refine qy (fun _ _ k9 => z_aload_n d_X7_finish_28 rfl rfl k9) ?_
        refine qy (fun _ _ k9 => z_getf (v := qI ((F1 173) 10)) d_X7_finish_29 fl_X7_44 (xput_ob (c := (F1 173)) xi_173 rfl (xsh_7 xo_173)) rfl k9) ?_
        suffices kJ32 : qEy M_X7_finish 40 [qR 173, qR 6, qI (qb (t = 0 ∨ c > 0)), qI (t : Int)] [qI (qb (((F1 173) 10) > 0))] (xput h F1 G1) Q by
          refine qy2 (fun _ _ => z_if_le 39 d_X7_finish_32 (by decide)) (fun hc1 => ?_) (fun hc1 => ?_)
          · refine qy (fun _ _ k9 => z_iconst d_X7_finish_39 (by decide) k9) ?_
            exact qy (fun _ _ k9 => z_eq rfl (qc (qi (qb_f (by omega)).symm) rfl) rfl k9) kJ32
          · refine qy (fun _ _ k9 => z_iconst d_X7_finish_35 (by decide) k9) ?_
            refine qy (fun _ _ k9 => z_goto 40 d_X7_finish_36 (by decide) k9) ?_
            exact qy (fun _ _ k9 => z_eq rfl (qc (qi (qb_t (by omega)).symm) rfl) rfl k9) kJ32
        refine qy (fun _ _ k9 => z_istore_n (ls' := [qR 173, qR 6, qI (qb (((F1 173) 10) > 0)), qI (t : Int)]) d_X7_finish_40 rfl (by decide) rfl k9) ?_
        refine qy (fun _ _ k9 => z_iinc (ls' := [qR 173, qR 6, qI (qb (((F1 173) 10) > 0)), qI ((t : Int) + 1)]) d_X7_finish_41 rfl (by decide) (by omega) rfl k9) ?_
        refine qy (fun _ _ k9 => z_goto 4 d_X7_finish_44 (by decide) k9) ?_
        exact qy (fun _ _ k9 => z_eq (qc rfl (qc rfl (qc (qi (qb_congr (by have e9 : F1 173 10 = cnt (fun k => (tps T A n (t + 1)) k ≠ (tps T A n t) k) n := hw1.2.1.2.2.2; rw [e9]; omega))) (qc (qi (by omega)) rfl)))) rfl rfl k9) (kk (t + 1) (cnt (fun k => (tps T A n (t + 1)) k ≠ (tps T A n t) k) n) F1 G1 (⟨by omega, xfr_tr hfr hv1, hw1, ha1.trans hab, litT_s hp (by unfold litT; omega), (chg_s n).elim (fun z => Or.inr (Or.inl z)) (fun z => Or.inr (Or.inr ⟨by omega, z⟩))⟩) (by omega))
