/-! ===== CONTRACTS: a run in thought: breathe, finish, outcome ===== -/
set_option maxRecDepth 20000 in
set_option maxHeartbeats 4000000 in
theorem c_rnBr0 {h : qH} {F G : Nat → Nat → Int} {u d n : Nat} (hu2 : 2 ≤ u) (hu : xk u = 7) (hs : xAr d 0 648) (hd : d < u ∨ u + 3 < d) (hn : 1 ≤ n ∧ n ≤ 32) (h3 : F u 3 = (n : Int)) (h4 : F u 4 = 0) (h5 : F u 5 = 0) (h8 : 0 ≤ F u 8 ∧ F u 8 ≤ 1000) (hM : ∀ k, k < n → 0 ≤ (G (u + 1)) k ∧ (G (u + 1)) k ≤ 7) : qEx M_X7_breathe 0 [qR u, qR d] [] (xput h F G) none (xput h (gup F u (qup (qup (qup (F u) 9 (cnt (fun k => (stp (G d) n 0 (F u 6) (G (u + 1))) k = 7) n)) 10 (cnt (fun k => (stp (G d) n 0 (F u 6) (G (u + 1))) k ≠ (G (u + 1)) k) n)) 8 (F u 8 + 1))) (gup G (u + 1) (qmx n (stp (G d) n 0 (F u 6) (G (u + 1))) (G (u + 1))))) := by
  refine q_gen (fun r hr er eh => ?_)
  refine z_aload_n d_X7_breathe_0 rfl rfl ?_
  refine z_getf (v := qI ((F u) 5)) d_X7_breathe_1 fl_X7_29 (xput_ob (c := (F u)) (rux_in hu2 hu) rfl (xsh_7 hu)) rfl ?_
  refine z_eq rfl (qc (qi h5) rfl) rfl ?_
  refine z_if_eq 15 d_X7_breathe_4 (by decide) (fun hc1 => ?_) (fun hc1 => absurd (by decide) hc1)
  refine z_aload_n d_X7_breathe_15 rfl rfl ?_
  refine z_aload_n d_X7_breathe_16 rfl rfl ?_
  refine z_cv0 (M1 := M_X7_breatheRow) d_X7_breathe_17 lv_X7_78 k_X7_breatheRow [qR d] rfl rfl (xput_ob (c := (F u)) (rux_in hu2 hu) rfl (xsh_7 hu)) ⟨_, _, rfl⟩ (Nat.le_of_ble_eq_true rfl) (by decide) (by decide) (Nat.le_of_ble_eq_true rfl) (c_rnRow0 hu2 hu hs hd hn h3 h4 hM) ?_
  refine z_aload_n d_X7_breathe_20 rfl rfl ?_
  refine z_dup d_X7_breathe_21 rfl ?_
  refine z_getf (v := qI ((qup (qup (F u) 9 (cnt (fun k => (stp (G d) n 0 (F u 6) (G (u + 1))) k = 7) n)) 10 (cnt (fun k => (stp (G d) n 0 (F u 6) (G (u + 1))) k ≠ (G (u + 1)) k) n)) 8)) d_X7_breathe_22 fl_X7_38 (xput_ob (c := (qup (qup (F u) 9 (cnt (fun k => (stp (G d) n 0 (F u 6) (G (u + 1))) k = 7) n)) 10 (cnt (fun k => (stp (G d) n 0 (F u 6) (G (u + 1))) k ≠ (G (u + 1)) k) n))) (rux_in hu2 hu) (gup_eq _ _) (xsh_7 hu)) rfl ?_
  refine z_eq rfl (qc (qi (show ((qup (qup (F u) 9 (cnt (fun k => (stp (G d) n 0 (F u 6) (G (u + 1))) k = 7) n)) 10 (cnt (fun k => (stp (G d) n 0 (F u 6) (G (u + 1))) k ≠ (G (u + 1)) k) n)) 8) = (F u 8) from rfl)) rfl) rfl ?_
  refine z_iconst d_X7_breathe_25 (by decide) ?_
  refine z_iadd d_X7_breathe_26 (by omega) ?_
  refine z_putf (fs' := [qR (u + 1), qR (u + 2), qR (u + 3), qI ((qup (qup (F u) 9 (cnt (fun k => (stp (G d) n 0 (F u 6) (G (u + 1))) k = 7) n)) 10 (cnt (fun k => (stp (G d) n 0 (F u 6) (G (u + 1))) k ≠ (G (u + 1)) k) n)) 3), qI ((qup (qup (F u) 9 (cnt (fun k => (stp (G d) n 0 (F u 6) (G (u + 1))) k = 7) n)) 10 (cnt (fun k => (stp (G d) n 0 (F u 6) (G (u + 1))) k ≠ (G (u + 1)) k) n)) 4), qI ((qup (qup (F u) 9 (cnt (fun k => (stp (G d) n 0 (F u 6) (G (u + 1))) k = 7) n)) 10 (cnt (fun k => (stp (G d) n 0 (F u 6) (G (u + 1))) k ≠ (G (u + 1)) k) n)) 5), qI ((qup (qup (F u) 9 (cnt (fun k => (stp (G d) n 0 (F u 6) (G (u + 1))) k = 7) n)) 10 (cnt (fun k => (stp (G d) n 0 (F u 6) (G (u + 1))) k ≠ (G (u + 1)) k) n)) 6), qI ((qup (qup (F u) 9 (cnt (fun k => (stp (G d) n 0 (F u 6) (G (u + 1))) k = 7) n)) 10 (cnt (fun k => (stp (G d) n 0 (F u 6) (G (u + 1))) k ≠ (G (u + 1)) k) n)) 7), qI ((F u 8) + 1), qI ((qup (qup (F u) 9 (cnt (fun k => (stp (G d) n 0 (F u 6) (G (u + 1))) k = 7) n)) 10 (cnt (fun k => (stp (G d) n 0 (F u 6) (G (u + 1))) k ≠ (G (u + 1)) k) n)) 9), qI ((qup (qup (F u) 9 (cnt (fun k => (stp (G d) n 0 (F u 6) (G (u + 1))) k = 7) n)) 10 (cnt (fun k => (stp (G d) n 0 (F u 6) (G (u + 1))) k ≠ (G (u + 1)) k) n)) 10)]) d_X7_breathe_27 fp_X7_38 (xput_ob (c := (qup (qup (F u) 9 (cnt (fun k => (stp (G d) n 0 (F u 6) (G (u + 1))) k = 7) n)) 10 (cnt (fun k => (stp (G d) n 0 (F u 6) (G (u + 1))) k ≠ (G (u + 1)) k) n))) (rux_in hu2 hu) (gup_eq _ _) (xsh_7 hu)) (fun _ => rfl) (fun _ => rfl) (Nat.le_of_ble_eq_true rfl) rfl ?_
  refine z_eq rfl rfl ((xput_sf (c := (qup (qup (qup (F u) 9 (cnt (fun k => (stp (G d) n 0 (F u 6) (G (u + 1))) k = 7) n)) 10 (cnt (fun k => (stp (G d) n 0 (F u 6) (G (u + 1))) k ≠ (G (u + 1)) k) n)) 8 ((F u 8) + 1))) (rux_in hu2 hu) (xsh_7 hu)).trans (xput_cg (gup_gup _ _ _) rfl)) ?_
  exact z_vret d_X7_breathe_30 rfl er eh
set_option maxRecDepth 20000 in
set_option maxHeartbeats 4000000 in
theorem c_rnBr1 {h : qH} {F G : Nat → Nat → Int} {u d n : Nat} (hu2 : 2 ≤ u) (hu : xk u = 7) (hs : xAr d 0 648) (hd : d < u ∨ u + 3 < d) (hn : 1 ≤ n ∧ n ≤ 32) (h3 : F u 3 = (n : Int)) (h4 : F u 4 = 1) (h5 : F u 5 = 0) (h8 : 0 ≤ F u 8 ∧ F u 8 ≤ 1000) (hM : ∀ k, k < n → 0 ≤ (G (u + 1)) k ∧ (G (u + 1)) k ≤ 7) : qEx M_X7_breathe 0 [qR u, qR d] [] (xput h F G) none (xput h (gup F u (qup (qup (qup (F u) 9 (cnt (fun k => (stp (G d) n 1 (F u 6) (G (u + 1))) k = 7) n)) 10 (cnt (fun k => (stp (G d) n 1 (F u 6) (G (u + 1))) k ≠ (G (u + 1)) k) n)) 8 (F u 8 + 1))) (gup G (u + 1) (qmx n (stp (G d) n 1 (F u 6) (G (u + 1))) (G (u + 1))))) := by
  refine q_gen (fun r hr er eh => ?_)
  refine z_aload_n d_X7_breathe_0 rfl rfl ?_
  refine z_getf (v := qI ((F u) 5)) d_X7_breathe_1 fl_X7_29 (xput_ob (c := (F u)) (rux_in hu2 hu) rfl (xsh_7 hu)) rfl ?_
  refine z_eq rfl (qc (qi h5) rfl) rfl ?_
  refine z_if_eq 15 d_X7_breathe_4 (by decide) (fun hc1 => ?_) (fun hc1 => absurd (by decide) hc1)
  refine z_aload_n d_X7_breathe_15 rfl rfl ?_
  refine z_aload_n d_X7_breathe_16 rfl rfl ?_
  refine z_cv0 (M1 := M_X7_breatheRow) d_X7_breathe_17 lv_X7_78 k_X7_breatheRow [qR d] rfl rfl (xput_ob (c := (F u)) (rux_in hu2 hu) rfl (xsh_7 hu)) ⟨_, _, rfl⟩ (Nat.le_of_ble_eq_true rfl) (by decide) (by decide) (Nat.le_of_ble_eq_true rfl) (c_rnRow1 hu2 hu hs hd hn h3 h4 hM) ?_
  refine z_aload_n d_X7_breathe_20 rfl rfl ?_
  refine z_dup d_X7_breathe_21 rfl ?_
  refine z_getf (v := qI ((qup (qup (F u) 9 (cnt (fun k => (stp (G d) n 1 (F u 6) (G (u + 1))) k = 7) n)) 10 (cnt (fun k => (stp (G d) n 1 (F u 6) (G (u + 1))) k ≠ (G (u + 1)) k) n)) 8)) d_X7_breathe_22 fl_X7_38 (xput_ob (c := (qup (qup (F u) 9 (cnt (fun k => (stp (G d) n 1 (F u 6) (G (u + 1))) k = 7) n)) 10 (cnt (fun k => (stp (G d) n 1 (F u 6) (G (u + 1))) k ≠ (G (u + 1)) k) n))) (rux_in hu2 hu) (gup_eq _ _) (xsh_7 hu)) rfl ?_
  refine z_eq rfl (qc (qi (show ((qup (qup (F u) 9 (cnt (fun k => (stp (G d) n 1 (F u 6) (G (u + 1))) k = 7) n)) 10 (cnt (fun k => (stp (G d) n 1 (F u 6) (G (u + 1))) k ≠ (G (u + 1)) k) n)) 8) = (F u 8) from rfl)) rfl) rfl ?_
  refine z_iconst d_X7_breathe_25 (by decide) ?_
  refine z_iadd d_X7_breathe_26 (by omega) ?_
  refine z_putf (fs' := [qR (u + 1), qR (u + 2), qR (u + 3), qI ((qup (qup (F u) 9 (cnt (fun k => (stp (G d) n 1 (F u 6) (G (u + 1))) k = 7) n)) 10 (cnt (fun k => (stp (G d) n 1 (F u 6) (G (u + 1))) k ≠ (G (u + 1)) k) n)) 3), qI ((qup (qup (F u) 9 (cnt (fun k => (stp (G d) n 1 (F u 6) (G (u + 1))) k = 7) n)) 10 (cnt (fun k => (stp (G d) n 1 (F u 6) (G (u + 1))) k ≠ (G (u + 1)) k) n)) 4), qI ((qup (qup (F u) 9 (cnt (fun k => (stp (G d) n 1 (F u 6) (G (u + 1))) k = 7) n)) 10 (cnt (fun k => (stp (G d) n 1 (F u 6) (G (u + 1))) k ≠ (G (u + 1)) k) n)) 5), qI ((qup (qup (F u) 9 (cnt (fun k => (stp (G d) n 1 (F u 6) (G (u + 1))) k = 7) n)) 10 (cnt (fun k => (stp (G d) n 1 (F u 6) (G (u + 1))) k ≠ (G (u + 1)) k) n)) 6), qI ((qup (qup (F u) 9 (cnt (fun k => (stp (G d) n 1 (F u 6) (G (u + 1))) k = 7) n)) 10 (cnt (fun k => (stp (G d) n 1 (F u 6) (G (u + 1))) k ≠ (G (u + 1)) k) n)) 7), qI ((F u 8) + 1), qI ((qup (qup (F u) 9 (cnt (fun k => (stp (G d) n 1 (F u 6) (G (u + 1))) k = 7) n)) 10 (cnt (fun k => (stp (G d) n 1 (F u 6) (G (u + 1))) k ≠ (G (u + 1)) k) n)) 9), qI ((qup (qup (F u) 9 (cnt (fun k => (stp (G d) n 1 (F u 6) (G (u + 1))) k = 7) n)) 10 (cnt (fun k => (stp (G d) n 1 (F u 6) (G (u + 1))) k ≠ (G (u + 1)) k) n)) 10)]) d_X7_breathe_27 fp_X7_38 (xput_ob (c := (qup (qup (F u) 9 (cnt (fun k => (stp (G d) n 1 (F u 6) (G (u + 1))) k = 7) n)) 10 (cnt (fun k => (stp (G d) n 1 (F u 6) (G (u + 1))) k ≠ (G (u + 1)) k) n))) (rux_in hu2 hu) (gup_eq _ _) (xsh_7 hu)) (fun _ => rfl) (fun _ => rfl) (Nat.le_of_ble_eq_true rfl) rfl ?_
  refine z_eq rfl rfl ((xput_sf (c := (qup (qup (qup (F u) 9 (cnt (fun k => (stp (G d) n 1 (F u 6) (G (u + 1))) k = 7) n)) 10 (cnt (fun k => (stp (G d) n 1 (F u 6) (G (u + 1))) k ≠ (G (u + 1)) k) n)) 8 ((F u 8) + 1))) (rux_in hu2 hu) (xsh_7 hu)).trans (xput_cg (gup_gup _ _ _) rfl)) ?_
  exact z_vret d_X7_breathe_30 rfl er eh
theorem c_rnBr {h : qH} {F G : Nat → Nat → Int} {u d n rg t : Nat} {df lt ch : Int} {M T : Nat → Int} (hu2 : 2 ≤ u) (hu : xk u = 7) (hs : xAr d 0 648) (hd : d < u ∨ u + 3 < d) (hn : 1 ≤ n ∧ n ≤ 32) (hg : rg ≤ 1) (ht : t ≤ 999) (hT : ∀ c, c < 648 → G d c = T c) (hS : rnS F G u n rg 0 df t lt ch M) (hM : ∀ k, k < n → 0 ≤ M k ∧ M k ≤ 7) : ∃ F' G', (xfr u (u + 3) F G F' G' ∧ rnS F' G' u n rg 0 df (t + 1) (cnt (fun k => stp T n rg df M k = 7) n) (cnt (fun k => stp T n rg df M k ≠ M k) n) (stp T n rg df M)) ∧ qEx M_X7_breathe 0 [qR u, qR d] [] (xput h F G) none (xput h F' G') := by
  obtain ⟨⟨h3, h4, h5, h6⟩, ⟨h7, h8, h9, h10⟩, hm⟩ := hS
  have hM0 : ∀ k, k < n → 0 ≤ G (u + 1) k ∧ G (u + 1) k ≤ 7 := fun k hk => by rw [hm k hk]; exact hM k hk
  have hX : ∀ k, k < n → stp (G d) n rg (F u 6) (G (u + 1)) k = stp T n rg df M k := fun k hk => by rw [h6]; exact stp_cg hk hT hm hM0
  have hg2 : rg = 0 ∨ rg = 1 := by omega
  rcases hg2 with rfl | rfl
  · refine ⟨_, _, ⟨xfr_f (xfr_g (xfr_rf _ _ _ _) (by omega) (by omega)) (by omega) (by omega), ⟨?_, ?_, fun k hk => ?_⟩⟩, c_rnBr0 hu2 hu hs hd hn h3 h4 h5 (by omega) hM0⟩
    · rw [gup_eq]; exact ⟨h3, h4, h5, h6⟩
    · rw [gup_eq]; exact ⟨h7, (congrArg (· + 1) h8).trans (by omega), cnt_congr (fun k hk => by rw [hX k hk]), cnt_congr (fun k hk => by rw [hX k hk, hm k hk])⟩
    · rw [gup_eq, qmx_lt hk]; exact hX k hk
  · refine ⟨_, _, ⟨xfr_f (xfr_g (xfr_rf _ _ _ _) (by omega) (by omega)) (by omega) (by omega), ⟨?_, ?_, fun k hk => ?_⟩⟩, c_rnBr1 hu2 hu hs hd hn h3 h4 h5 (by omega) hM0⟩
    · rw [gup_eq]; exact ⟨h3, h4, h5, h6⟩
    · rw [gup_eq]; exact ⟨h7, (congrArg (· + 1) h8).trans (by omega), cnt_congr (fun k hk => by rw [hX k hk]), cnt_congr (fun k hk => by rw [hX k hk, hm k hk])⟩
    · rw [gup_eq, qmx_lt hk]; exact hX k hk
/-- the same, with the minds as they come -/
theorem ps_0 {T : Nat → Int} {n rg : Nat} {df b : Int} {k : Nat} : ps T n rg df b 0 k ≠ 7 := by
  have := qb_bd ((k : Int) = b)
  show qb ((k : Int) = b) ≠ 7
  omega
theorem ps_st {T : Nat → Int} {n rg : Nat} {df b : Int} {t : Nat} (hB : ∀ c, c < 648 → 0 ≤ T c ∧ T c ≤ 7) (h : ∀ k, k < n → ps T n rg df b (t + 1) k = ps T n rg df b t k) : ∀ s k, k < n → ps T n rg df b (t + s) k = ps T n rg df b t k
  | 0, _, _ => rfl
  | s + 1, k, hk => by
    have := stp_cg (T := T) (S := T) (rg := rg) (df := df) hk (fun _ _ => rfl) (fun j hj => ps_st hB h s j hj) (ps_bd hB (t + s))
    exact this.trans (h k hk)
theorem litp_s {T : Nat → Int} {n rg t : Nat} {df b : Int} (hp : ∀ k, k + 1 < t → ¬ litAt T n rg df b (k + 1)) (hl : ¬ litAt T n rg df b t) : ∀ k, k + 1 < t + 1 → ¬ litAt T n rg df b (k + 1) := fun k hk => by
  by_cases z : k + 1 < t
  · exact hp k z
  · rw [show k + 1 = t by omega]; exact hl
theorem chg_s {A B : Nat → Int} (n : Nat) : cnt (fun k => A k ≠ B k) n > 0 ∨ ∀ k, k < n → A k = B k := by
  have c9 := cnt_bd (fun k => A k ≠ B k) n
  by_cases z : cnt (fun k => A k ≠ B k) n = 0
  · exact Or.inr (fun k hk => Classical.not_not.mp (cnt_0.mp z k hk))
  · exact Or.inl (by omega)
theorem run_end {T : Nat → Int} {n rg : Nat} {b : Int} {t : Nat} (hB : ∀ c, c < 648 → 0 ≤ T c ∧ T c ≤ 7) (ht : t ≤ 3 * n + 20) (hp : ∀ k, k + 1 < t → ¬ litAt T n rg (-1) b (k + 1)) (hx : t = 3 * n + 20 ∨ litAt T n rg (-1) b t ∨ (1 ≤ t ∧ ∀ k, k < n → ps T n rg (-1) b t k = ps T n rg (-1) b (t - 1) k)) : (∀ k, k < n → ps T n rg (-1) b t k = rnE T n rg b k) ∧ (rnT T n rg b ≠ -1 → rnT T n rg b = (t : Int)) ∧ (rnT T n rg b = -1 ↔ cnt (fun k => ps T n rg (-1) b t k = 7) n = 0) := by
  have h0 : ¬ litAt T n rg (-1) b 0 := by
    unfold litAt
    rw [cnt_0.mpr (fun k _ => ps_0)]
    omega
  by_cases hl : litAt T n rg (-1) b t
  · obtain ⟨i, rfl⟩ : ∃ i, t = i + 1 := by
      rcases Nat.eq_zero_or_pos t with z | z
      · subst z; exact absurd hl h0
      · exact ⟨t - 1, by omega⟩
    have hp2 : ∀ k, k < i → ¬ litAt T n rg (-1) b (k + 1) := fun k hk => hp k (by omega)
    have e1 := rn_t (rg := rg) (b := b) (show i < 3 * n + 20 by omega) hp2 hl
    have e2 := rn_n (rg := rg) (b := b) (show i < 3 * n + 20 by omega) hp2 hl
    refine ⟨fun k _ => by unfold rnE; rw [e2], fun _ => by rw [e1]; omega, ?_⟩
    rw [e1]
    unfold litAt at hl
    constructor <;> intro z <;> omega
  · have hno : ∀ k, k < 3 * n + 20 → ¬ litAt T n rg (-1) b (k + 1) := by
      intro k hk
      rcases Nat.lt_trichotomy (k + 1) t with q | q | q
      · exact hp k q
      · rw [q]; exact hl
      · rcases hx with z | z | ⟨z1, z2⟩
        · omega
        · exact absurd z hl
        · obtain ⟨i, rfl⟩ : ∃ i, t = i + 1 := ⟨t - 1, by omega⟩
          have hst := ps_st hB z2 (k + 1 - i)
          rw [show i + (k + 1 - i) = k + 1 by omega] at hst
          intro y
          refine hl ?_
          unfold litAt at y ⊢
          rw [cnt_congr (fun j hj => by rw [hst j hj])] at y
          rw [cnt_congr (fun j hj => by rw [z2 j hj])]
          exact y
    have e1 := rn_tn (rg := rg) (b := b) hno
    have e2 : rnN T n rg b = 3 * n + 20 := by
      unfold rnN
      rw [rn_fn hno, if_pos rfl]
    refine ⟨fun k hk => ?_, fun z => absurd e1 z, ?_⟩
    · unfold rnE
      rw [e2]
      rcases hx with z | z | ⟨z1, z2⟩
      · rw [z]
      · exact absurd z hl
      · obtain ⟨i, rfl⟩ : ∃ i, t = i + 1 := ⟨t - 1, by omega⟩
        have hst := ps_st hB z2 (3 * n + 20 - i) k hk
        rw [show i + (3 * n + 20 - i) = 3 * n + 20 by omega] at hst
        exact (z2 k hk).trans hst.symm
    · rw [e1]
      unfold litAt at hl
      have := cnt_bd (fun k => ps T n rg (-1) b t k = 7) n
      exact ⟨fun _ => by omega, fun _ => rfl⟩
set_option maxRecDepth 20000 in
set_option maxHeartbeats 4000000 in
theorem c_rnFin {h : qH} {F G : Nat → Nat → Int} {u d n rg : Nat} {b ch0 : Int} {T : Nat → Int} (hu2 : 2 ≤ u) (hu : xk u = 7) (hs : xAr d 0 648) (hd : d < u ∨ u + 3 < d) (hn : 1 ≤ n ∧ n ≤ 32) (hg : rg ≤ 1) (hT : ∀ c, c < 648 → G d c = T c) (hB : ∀ c, c < 648 → 0 ≤ T c ∧ T c ≤ 7) (hS : rnS F G u n rg 0 (-1) 0 0 ch0 (fun k => qb ((k : Int) = b))) : ∃ F' G', (∃ tt ch', xfr u (u + 3) F G F' G' ∧ rnS F' G' u n rg 0 (-1) tt (cnt (fun k => rnE T n rg b k = 7) n) ch' (rnE T n rg b) ∧ tt ≤ 3 * n + 20 ∧ (rnT T n rg b ≠ -1 → rnT T n rg b = (tt : Int)) ∧ (rnT T n rg b = -1 ↔ cnt (fun k => rnE T n rg b k = 7) n = 0)) ∧ qEx M_X7_finish 0 [qR u, qR d, qU, qU] [] (xput h F G) none (xput h F' G') := by
  refine x_in (fun Q hQ => ?_)
  have h00 : cnt (fun k => ps T n rg (-1) b 0 k = 7) n = 0 := cnt_0.mpr (fun k _ => ps_0)
  refine qy (fun _ _ k9 => z_iconst d_X7_finish_0 (by decide) k9) ?_
  refine qy (fun _ _ k9 => z_istore_n (ls' := [qR u, qR d, qI 1, qU]) d_X7_finish_1 rfl (by decide) rfl k9) ?_
  refine qy (fun _ _ k9 => z_iconst d_X7_finish_2 (by decide) k9) ?_
  refine qy (fun _ _ k9 => z_istore_n (ls' := [qR u, qR d, qI 1, qI 0]) d_X7_finish_3 rfl (by decide) rfl k9) ?_
  refine qy (fun _ _ k9 => z_eq (qc rfl (qc rfl (qc (qi (qb_t (Or.inl rfl)).symm) (qc (qi (rfl)) rfl)))) rfl rfl k9) (y_wh4 (fun (t : Nat) (c : Int) (Fa : Nat → Nat → Int) (Ga : Nat → Nat → Int) => 3 * n + 20 - t) (fun (t : Nat) (c : Int) (Fa : Nat → Nat → Int) (Ga : Nat → Nat → Int) => [qR u, qR d, qI (qb (t = 0 ∨ c > 0)), qI (t : Int)]) (fun (t : Nat) (c : Int) (Fa : Nat → Nat → Int) (Ga : Nat → Nat → Int) => (xput h Fa Ga)) (fun (t : Nat) (c : Int) (Fa : Nat → Nat → Int) (Ga : Nat → Nat → Int) => t ≤ 3 * n + 20 ∧ xfr u (u + 3) F G Fa Ga ∧ (rnS Fa Ga u n rg 0 (-1) t (cnt (fun k => (ps T n rg (-1) b t) k = 7) n) c (ps T n rg (-1) b t)) ∧ (∀ k, k + 1 < t → ¬ litAt T n rg (-1) b (k + 1)) ∧ (t = 0 ∨ c > 0 ∨ (1 ≤ t ∧ ∀ k, k < n → (ps T n rg (-1) b t) k = (ps T n rg (-1) b (t - 1)) k))) 0 ch0 F G (⟨by omega, xfr_rf _ _ _ _, rnS_M hS (fun _ _ => rfl) h00.symm rfl, fun k hk => absurd hk (by omega), Or.inl rfl⟩) (fun t c Fa Ga hp kk => ?_))
  obtain ⟨ht, hfr, hS1, hp, hst⟩ := hp
  show qEy M_X7_finish 4 [qR u, qR d, qI (qb (t = 0 ∨ c > 0)), qI (t : Int)] [] (xput h Fa Ga) Q
  have hT1 : ∀ c, c < 648 → Ga d c = T c := fun c hc => by rw [xfr_G hfr (by omega)]; exact hT c hc
  have f7 : Fa u 7 = 3 * (n : Int) + 20 := hS1.2.1.1
  have f9 : Fa u 9 = cnt (fun k => ps T n rg (-1) b t k = 7) n := hS1.2.1.2.2.1
  have c0 := cnt_bd (fun k => ps T n rg (-1) b t k = 7) n
  refine qy (fun _ _ k9 => z_iload_n d_X7_finish_4 rfl rfl k9) ?_
  refine qy (fun _ _ k9 => z_aload_n d_X7_finish_5 rfl rfl k9) ?_
  refine qy (fun _ _ k9 => z_getf (v := qI ((Fa u) 7)) d_X7_finish_6 fl_X7_35 (xput_ob (c := (Fa u)) (rux_in hu2 hu) rfl (xsh_7 hu)) rfl k9) ?_
  refine qy2 (fun _ _ => z_icmp_ge 47 d_X7_finish_9 (by decide)) (fun q9 => ?_) (fun q9 => ?_)
  · exact y_ret (hQ Fa Ga (by have he := run_end hB ht hp (Or.inl (by omega)); exact ⟨t, _, hfr, rnS_M hS1 he.1 (cnt_congr (fun k hk => by rw [he.1 k hk])) rfl, ht, he.2.1, he.2.2.trans (by rw [cnt_congr (fun k hk => by rw [he.1 k hk])])⟩)) (z_vret d_X7_finish_47 rfl rfl rfl)
  · refine qy (fun _ _ k9 => z_aload_n d_X7_finish_12 rfl rfl k9) ?_
    refine qy (fun _ _ k9 => z_getf (v := qI ((Fa u) 9)) d_X7_finish_13 fl_X7_41 (xput_ob (c := (Fa u)) (rux_in hu2 hu) rfl (xsh_7 hu)) rfl k9) ?_
    refine qy2 (fun _ _ => z_if_ne 47 d_X7_finish_16 (by decide)) (fun q16 => ?_) (fun q16 => ?_)
    · exact y_ret (hQ Fa Ga (by have he := run_end hB ht hp (Or.inr (Or.inl (by unfold litAt; omega))); exact ⟨t, _, hfr, rnS_M hS1 he.1 (cnt_congr (fun k hk => by rw [he.1 k hk])) rfl, ht, he.2.1, he.2.2.trans (by rw [cnt_congr (fun k hk => by rw [he.1 k hk])])⟩)) (z_vret d_X7_finish_47 rfl rfl rfl)
    · refine qy (fun _ _ k9 => z_iload_n d_X7_finish_19 rfl rfl k9) ?_
      refine qy2n (fun _ _ => z_ifeqB 47 d_X7_finish_20 (by decide)) (fun q20 => ?_) (fun q20 => ?_)
      · exact y_ret (hQ Fa Ga (by have he := run_end hB ht hp (Or.inr (Or.inr ((hst.resolve_left (fun z => q20 (Or.inl z))).resolve_left (fun z => q20 (Or.inr z))))); exact ⟨t, _, hfr, rnS_M hS1 he.1 (cnt_congr (fun k hk => by rw [he.1 k hk])) rfl, ht, he.2.1, he.2.2.trans (by rw [cnt_congr (fun k hk => by rw [he.1 k hk])])⟩)) (z_vret d_X7_finish_47 rfl rfl rfl)
      · refine qy (fun _ _ k9 => z_aload_n d_X7_finish_23 rfl rfl k9) ?_
        refine qy (fun _ _ k9 => z_aload_n d_X7_finish_24 rfl rfl k9) ?_
        obtain ⟨F1, G1, ⟨hv1, hw1⟩, hx1⟩ := c_rnBr (h := h) (F := Fa) (G := Ga) (u := u) (d := d) hu2 hu hs hd hn hg (by omega) hT1 hS1 (ps_bd hB t)
        refine qy (fun _ _ k9 => z_cv0 (M1 := M_X7_breathe) d_X7_finish_25 lv_X7_71 k_X7_breathe [qR d] rfl rfl (xput_ob (c := (Fa u)) (rux_in hu2 hu) rfl (xsh_7 hu)) ⟨_, _, rfl⟩ (Nat.le_of_ble_eq_true rfl) (by decide) (by decide) (Nat.le_of_ble_eq_true rfl) hx1 k9) ?_
        refine qy (fun _ _ k9 => z_aload_n d_X7_finish_28 rfl rfl k9) ?_
        refine qy (fun _ _ k9 => z_getf (v := qI ((F1 u) 10)) d_X7_finish_29 fl_X7_44 (xput_ob (c := (F1 u)) (rux_in hu2 hu) rfl (xsh_7 hu)) rfl k9) ?_
        suffices kJ32 : qEy M_X7_finish 40 [qR u, qR d, qI (qb (t = 0 ∨ c > 0)), qI (t : Int)] [qI (qb (((F1 u) 10) > 0))] (xput h F1 G1) Q by
          refine qy2 (fun _ _ => z_if_le 39 d_X7_finish_32 (by decide)) (fun hc1 => ?_) (fun hc1 => ?_)
          · refine qy (fun _ _ k9 => z_iconst d_X7_finish_39 (by decide) k9) ?_
            exact qy (fun _ _ k9 => z_eq rfl (qc (qi (qb_f (by omega)).symm) rfl) rfl k9) kJ32
          · refine qy (fun _ _ k9 => z_iconst d_X7_finish_35 (by decide) k9) ?_
            refine qy (fun _ _ k9 => z_goto 40 d_X7_finish_36 (by decide) k9) ?_
            exact qy (fun _ _ k9 => z_eq rfl (qc (qi (qb_t (by omega)).symm) rfl) rfl k9) kJ32
        refine qy (fun _ _ k9 => z_istore_n (ls' := [qR u, qR d, qI (qb (((F1 u) 10) > 0)), qI (t : Int)]) d_X7_finish_40 rfl (by decide) rfl k9) ?_
        refine qy (fun _ _ k9 => z_iinc (ls' := [qR u, qR d, qI (qb (((F1 u) 10) > 0)), qI ((t : Int) + 1)]) d_X7_finish_41 rfl (by decide) (by omega) rfl k9) ?_
        refine qy (fun _ _ k9 => z_goto 4 d_X7_finish_44 (by decide) k9) ?_
        exact qy (fun _ _ k9 => z_eq (qc rfl (qc rfl (qc (qi (qb_congr (by have e9 : F1 u 10 = cnt (fun k => (ps T n rg (-1) b (t + 1)) k ≠ (ps T n rg (-1) b t) k) n := hw1.2.1.2.2.2; rw [e9]; omega))) (qc (qi (by omega)) rfl)))) rfl rfl k9) (kk (t + 1) (cnt (fun k => (ps T n rg (-1) b (t + 1)) k ≠ (ps T n rg (-1) b t) k) n) F1 G1 (⟨by omega, xfr_tr hfr hv1, hw1, litp_s hp (by unfold litAt; omega), (chg_s n).elim (fun z => Or.inr (Or.inl z)) (fun z => Or.inr (Or.inr ⟨by omega, z⟩))⟩) (by omega))
