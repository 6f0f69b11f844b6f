/-! ===== CONTRACTS: trials: noteRun, noteRuns ===== -/
theorem bst_orb {p q : Nat → Prop} : qOr (bst p) (bst q) = bst (fun k => p k ∨ q k) := bst_eq (qOr_R _ _) (fun k hk => by
  rw [tb_or, Bool.or_eq_true, tb_bst hk, tb_bst hk])
noncomputable def vC (T : Nat → Int) (n : Nat) (t k : Nat) : Int := stC n 0 (ps T n 0 (-1) 0 t) k
theorem ex2_b {S : Nat → Prop} {v : Nat → Nat → Int} {n t m : Nat} : (ex2 S v n t 0 m ∨ ∃ k, k < n ∧ v t k = (m : Int)) ↔ ex2 S v n (t + 1) 0 m := by
  unfold ex2
  constructor
  · rintro ((h | ⟨s, h1, h2⟩ | ⟨k, h1, _⟩) | h)
    · exact Or.inl h
    · exact Or.inr (Or.inl ⟨s, by omega, h2⟩)
    · exact absurd h1 (by omega)
    · exact Or.inr (Or.inl ⟨t, by omega, h⟩)
  · rintro (h | ⟨s, h1, h2⟩ | ⟨k, h1, _⟩)
    · exact Or.inl (Or.inl h)
    · rcases Nat.lt_or_ge s t with q | q
      · exact Or.inl (Or.inr (Or.inl ⟨s, q, h2⟩))
      · have : s = t := by omega
        subst this
        exact Or.inr h2
    · exact absurd h1 (by omega)
section RunSets
variable {T : Nat → Int} {n : Nat} {b : Int} {t : Nat}
theorem runJ (hB : ∀ c, c < 648 → 0 ≤ T c ∧ T c ≤ 7) (ht : t ≤ 3 * n + 20) (hp : ∀ k, k + 1 < t → ¬ litAt T n 0 (-1) b (k + 1)) (hx : t = 3 * n + 20 ∨ litAt T n 0 (-1) b t ∨ (1 ≤ t ∧ ∀ k, k < n → ps T n 0 (-1) b t k = ps T n 0 (-1) b (t - 1) k)) (Q : (Nat → Int) → Prop) (hQ : ∀ M M' : Nat → Int, (∀ k, k < n → M k = M' k) → Q M → Q M') : ((∃ s, s < t + 1 ∧ Q (ps T n 0 (-1) b s)) ↔ ∃ s, s < rnJ T n 0 b + 1 ∧ Q (ps T n 0 (-1) b s)) ∧ ((∃ s, s < t ∧ Q (ps T n 0 (-1) b s)) ↔ ∃ s, s < rnJ T n 0 b ∧ Q (ps T n 0 (-1) b s)) := by
  have h0 : ¬ litAt T n 0 (-1) b 0 := by
    unfold litAt
    rw [cnt_0.mpr (fun k _ => ps_0)]
    omega
  have hp2 : ∀ k, k < t → ¬ litAt T n 0 (-1) b k := by
    intro k hk
    rcases Nat.eq_zero_or_pos k with z | z
    · subst z; exact h0
    · have := hp (k - 1) (by omega)
      rwa [show k - 1 + 1 = k by omega] at this
  by_cases hl : t = 3 * n + 20 ∨ litAt T n 0 (-1) b t
  · rw [rnJ_at ht hp2 hl]
    exact ⟨Iff.rfl, Iff.rfl⟩
  · obtain ⟨z1, z2⟩ := (hx.resolve_left (fun z => hl (Or.inl z))).resolve_left (fun z => hl (Or.inr z))
    obtain ⟨i, rfl⟩ : ∃ i, t = i + 1 := ⟨t - 1, by omega⟩
    have hst : ∀ s, i ≤ s → ∀ k, k < n → ps T n 0 (-1) b s k = ps T n 0 (-1) b i k := by
      intro s hs k hk
      have := ps_st hB z2 (s - i) k hk
      rwa [show i + (s - i) = s by omega] at this
    have hno : ∀ k, k < 3 * n + 20 → ¬ litAt T n 0 (-1) b k := by
      intro k hk
      rcases Nat.lt_or_ge k (i + 1) with q | q
      · exact hp2 k q
      · intro y
        refine hl (Or.inr ?_)
        unfold litAt at y ⊢
        rw [cnt_congr (fun j hj => by rw [hst k (by omega) j hj])] at y
        rw [cnt_congr (fun j hj => by rw [hst (i + 1) (by omega) j hj])]
        exact y
    rw [rnJ_at (Nat.le_refl _) hno (Or.inl rfl)]
    constructor
    · constructor
      · rintro ⟨s, h1, h2⟩; exact ⟨s, by omega, h2⟩
      · rintro ⟨s, h1, h2⟩
        rcases Nat.lt_or_ge s (i + 1) with q | q
        · exact ⟨s, by omega, h2⟩
        · exact ⟨i, by omega, hQ _ _ (hst s (by omega)) h2⟩
    · constructor
      · rintro ⟨s, h1, h2⟩; exact ⟨s, by omega, h2⟩
      · rintro ⟨s, h1, h2⟩
        rcases Nat.lt_or_ge s (i + 1) with q | q
        · exact ⟨s, by omega, h2⟩
        · exact ⟨i, by omega, hQ _ _ (hst s (by omega)) h2⟩
end RunSets
theorem ex2_q {S : Nat → Prop} {v : Nat → Nat → Int} {n i m : Nat} {R : Prop} (h : (∃ t, t < i ∧ ∃ k, k < n ∧ v t k = (m : Int)) ↔ R) : ex2 S v n i 0 m ↔ S m ∨ R := by
  unfold ex2
  rw [← h]
  constructor
  · rintro (z | z | ⟨k, h1, _⟩)
    · exact Or.inl z
    · exact Or.inr z
    · exact absurd h1 (by omega)
  · rintro (z | z)
    · exact Or.inl z
    · exact Or.inr (Or.inl z)
/-- the component's sets are the whole run's -/
theorem run_S {T : Nat → Int} {n t : Nat} {S : Nat → Prop} (hB : ∀ c, c < 648 → 0 ≤ T c ∧ T c ≤ 7) (ht : t ≤ 3 * n + 20) (hp : ∀ k, k + 1 < t → ¬ litAt T n 0 (-1) 0 (k + 1)) (hx : t = 3 * n + 20 ∨ litAt T n 0 (-1) 0 t ∨ (1 ≤ t ∧ ∀ k, k < n → ps T n 0 (-1) 0 t k = ps T n 0 (-1) 0 (t - 1) k)) (m : Nat) : ex2 S (vS T n) n (t + 1) 0 m ↔ ex2 S (vS T n) n (rnJ T n 0 0 + 1) 0 m := by
  have h := (runJ hB ht hp hx (fun M => ∃ k, k < n ∧ M k = (m : Int)) (fun M M' e ⟨k, h1, h2⟩ => ⟨k, h1, by rw [← e k h1]; exact h2⟩)).1
  rw [ex2_q (v := vS T n) h, ex2_q (v := vS T n) Iff.rfl]
  rfl
theorem run_C {T : Nat → Int} {n t : Nat} {A : Nat → Prop} (hB : ∀ c, c < 648 → 0 ≤ T c ∧ T c ≤ 7) (ht : t ≤ 3 * n + 20) (hp : ∀ k, k + 1 < t → ¬ litAt T n 0 (-1) 0 (k + 1)) (hx : t = 3 * n + 20 ∨ litAt T n 0 (-1) 0 t ∨ (1 ≤ t ∧ ∀ k, k < n → ps T n 0 (-1) 0 t k = ps T n 0 (-1) 0 (t - 1) k)) (m : Nat) : ex2 A (vC T n) n t 0 m ↔ ex2 A (vC T n) n (rnJ T n 0 0) 0 m := by
  have h := (runJ hB ht hp hx (fun M => ∃ k, k < n ∧ stC n 0 M k = (m : Int)) (fun M M' e ⟨k, h1, h2⟩ => ⟨k, h1, by rw [← stC_cg h1 e]; exact h2⟩)).2
  rw [ex2_q (v := vC T n) h, ex2_q (v := vC T n) Iff.rfl]
  rfl
/-- what noteRun leaves as it was -/
def nfr (F G F' G' : Nat → Nat → Int) : Prop := (∀ a, (a < 172 ∨ 176 < a) → F' a = F a) ∧ (∀ a, (a < 173 ∨ 176 < a) → a ≠ 205 → G' a = G a) ∧ ∀ j, j ≠ 4 → F' 172 j = F 172 j
theorem nfr_rf (F G : Nat → Nat → Int) : nfr F G F G := ⟨fun _ _ => rfl, fun _ _ _ => rfl, fun _ _ => rfl⟩
theorem nfr_tr {F G F1 G1 F2 G2 : Nat → Nat → Int} (h1 : nfr F G F1 G1) (h2 : nfr F1 G1 F2 G2) : nfr F G F2 G2 := ⟨fun a ha => (h2.1 a ha).trans (h1.1 a ha), fun a ha hb => (h2.2.1 a ha hb).trans (h1.2.1 a ha hb), fun j hj => (h2.2.2 j hj).trans (h1.2.2 j hj)⟩
theorem nfr_x {F G F' G' : Nat → Nat → Int} (h : xfr 173 176 F G F' G') : nfr F G F' G' := ⟨fun a ha => xfr_F h (by omega), fun a ha _ => xfr_G h ha, fun j _ => by rw [xfr_F h (by omega)]⟩
theorem nfr_4 {F G : Nat → Nat → Int} {v : Int} : nfr F G (gup F 172 (qup (F 172) 4 v)) G := ⟨fun a ha => gup_ne (by omega), fun _ _ _ => rfl, fun j hj => by rw [gup_eq, qup_ne hj]⟩
theorem nfr_5 {F G : Nat → Nat → Int} {c : Nat → Int} : nfr F G F (gup G 205 c) := ⟨fun a ha => rfl, fun a _ hb => gup_ne hb, fun j _ => rfl⟩
theorem nc_qb {n : Nat} {M A : Nat → Int} {S : Nat → Prop} {c : Nat} (hM : ∀ k, k < n → 0 ≤ M k ∧ M k ≤ 7) (hA : A c = qb (S c)) : ncF n M A n c = qb (S c ∨ ∃ k, k < n ∧ stC n 0 M k = (c : Int)) := by
  unfold ncF
  by_cases h : ∃ k, k < n ∧ (stC n 0 M k).toNat = c
  · rw [qif_t h, qb_t]
    obtain ⟨k, h1, h2⟩ := h
    have := stC_bd (rg := 0) h1 hM
    exact Or.inr ⟨k, h1, by omega⟩
  · rw [qif_f h, hA]
    refine qb_congr ⟨Or.inl, fun z => z.elim id (fun ⟨k, h1, h2⟩ => absurd ⟨k, h1, by omega⟩ h)⟩
set_option maxRecDepth 20000 in
set_option maxHeartbeats 4000000 in
theorem c_noteRun {h : qH} {F G : Nat → Nat → Int} {d n : Nat} {T : Nat → Int} {S A : Nat → Prop} (hs : xAr d 0 648) (hd : d < 172) (hn : 1 ≤ n ∧ n ≤ 32) (hT : ∀ c, c < 648 → G d c = T c) (hB : ∀ c, c < 648 → 0 ≤ T c ∧ T c ≤ 7) (h4 : F 172 4 = bst S) (hA : ∀ c, c < 648 → G 205 c = qb (A c)) : ∃ F' G', (nfr F G F' G' ∧ F' 172 4 = bst (ex2 S (vS T n) n (rnJ T n 0 0 + 1) 0) ∧ ∀ c, c < 648 → G' 205 c = qb (ex2 A (vC T n) n (rnJ T n 0 0) 0 c)) ∧ qEx M_X9_noteRun 0 [qR 172, qR d, qI (n : Int), qU, qU] [] (xput h F G) none (xput h F' G') := by
  refine x_in (fun Q hQ => ?_)
  have h00 : cnt (fun k => ps T n 0 (-1) 0 0 k = 7) n = 0 := cnt_0.mpr (fun k _ => ps_0)
  refine qy (fun _ _ k9 => z_aload_n d_X9_noteRun_0 rfl rfl k9) ?_
  refine qy (fun _ _ k9 => z_getf (v := qR 173) d_X9_noteRun_1 fl_X9_12 (xput_ob (c := (F 172)) xi_172 rfl (xsh_9 xo_172)) rfl k9) ?_
  refine qy (fun _ _ k9 => z_iload_n d_X9_noteRun_4 rfl rfl k9) ?_
  refine qy (fun _ _ k9 => z_iconst d_X9_noteRun_5 (by decide) k9) ?_
  refine qy (fun _ _ k9 => z_iconst d_X9_noteRun_6 (by decide) k9) ?_
  obtain ⟨F1, G1, ⟨hv1, hw1, hu1, hg1⟩, hx1⟩ := c_rnStart (h := h) (F := F) (G := G) (u := 173) n 0 0 (by decide) xo_173 (by omega) (by decide) (by decide)
  refine qy (fun _ _ k9 => z_cv0 (M1 := M_X7_start) d_X9_noteRun_7 lv_X9_42 k_X7_start [qI (n : Int), qI 0, qI 0] rfl rfl (xput_ob (c := (F 173)) xi_173 rfl (xsh_7 xo_173)) ⟨_, _, rfl⟩ (Nat.le_of_ble_eq_true rfl) (by decide) (by decide) (Nat.le_of_ble_eq_true rfl) hx1 k9) ?_
  refine qy (fun _ _ k9 => z_aload_n d_X9_noteRun_10 rfl rfl k9) ?_
  refine qy (fun _ _ k9 => z_dup d_X9_noteRun_11 rfl k9) ?_
  refine qy (fun _ _ k9 => z_getf (v := qI ((F1 172) 4)) d_X9_noteRun_12 fl_X9_32 (xput_ob (c := (F1 172)) xi_172 rfl (xsh_9 xo_172)) rfl k9) ?_
  refine qy (fun _ _ k9 => z_aload_n d_X9_noteRun_15 rfl rfl k9) ?_
  refine qy (fun _ _ k9 => z_getf (v := qR 173) d_X9_noteRun_16 fl_X9_12 (xput_ob (c := (F1 172)) xi_172 rfl (xsh_9 xo_172)) rfl k9) ?_
  refine qy (fun _ _ k9 => z_cv (M1 := M_X7_mindSet) d_X9_noteRun_19 lv_X9_63 k_X7_mindSet [] rfl rfl (xput_ob (c := (F1 173)) xi_173 rfl (xsh_7 xo_173)) ⟨_, _, rfl⟩ (Nat.le_of_ble_eq_true rfl) (by decide) (by decide) (Nat.le_of_ble_eq_true rfl) (c_rnSet (M := (ps T n 0 (-1) 0 0)) (by decide) xo_173 (by omega) (ps_bd hB 0) (rnS_cg (F := F1) (G := G1) (M := (ps T n 0 (-1) 0 0)) hw1 rfl rfl)) k9) ?_
  refine qy (fun _ _ k9 => z_ior d_X9_noteRun_22 k9) ?_
  refine qy (fun _ _ k9 => z_putf (fs' := [qR 173, qR 177, qR 181, qR 205, qI (qOr ((F1 172) 4) (bst (fun m => ∃ k, k < n ∧ (ps T n 0 (-1) 0 0) k = (m : Int)))), qI ((F1 172) 5), qI ((F1 172) 6)]) d_X9_noteRun_23 fp_X9_32 (xput_ob (c := (F1 172)) xi_172 rfl (xsh_9 xo_172)) (fun _ => rfl) (fun _ => rfl) (Nat.le_of_ble_eq_true rfl) rfl k9) ?_
  refine qy (fun _ _ k9 => z_eq rfl rfl (xput_sf (c := (qup (F1 172) 4 (qOr ((F1 172) 4) (bst (fun m => ∃ k, k < n ∧ (ps T n 0 (-1) 0 0) k = (m : Int)))))) xi_172 (xsh_9 xo_172)) k9) ?_
  refine qy (fun _ _ k9 => z_iconst d_X9_noteRun_26 (by decide) k9) ?_
  refine qy (fun _ _ k9 => z_istore_n (ls' := [qR 172, qR d, qI (n : Int), qI 1, qU]) d_X9_noteRun_27 rfl (by decide) rfl k9) ?_
  refine qy (fun _ _ k9 => z_iconst d_X9_noteRun_28 (by decide) k9) ?_
  refine qy (fun _ _ k9 => z_istore (ls' := [qR 172, qR d, qI (n : Int), qI 1, qI 0]) d_X9_noteRun_29 (by decide) rfl k9) ?_
  refine qy (fun _ _ k9 => z_eq (qc rfl (qc rfl (qc rfl (qc (qi (qb_t (Or.inl rfl)).symm) (qc (qi (rfl)) rfl))))) rfl rfl k9) (y_wh4 (fun (t : Nat) (c : Int) (Fa : Nat → Nat → Int) (Ga : Nat → Nat → Int) => 3 * n + 20 - t) (fun (t : Nat) (c : Int) (Fa : Nat → Nat → Int) (Ga : Nat → Nat → Int) => [qR 172, qR d, qI (n : Int), qI (qb (t = 0 ∨ c > 0)), qI (t : Int)]) (fun (t : Nat) (c : Int) (Fa : Nat → Nat → Int) (Ga : Nat → Nat → Int) => (xput h Fa Ga)) (fun (t : Nat) (c : Int) (Fa : Nat → Nat → Int) (Ga : Nat → Nat → Int) => t ≤ 3 * n + 20 ∧ nfr F G Fa Ga ∧ (rnS Fa Ga 173 n 0 0 (-1) t (cnt (fun k => (ps T n 0 (-1) 0 t) k = 7) n) c (ps T n 0 (-1) 0 t)) ∧ (∀ k, k + 1 < t → ¬ litAt T n 0 (-1) 0 (k + 1)) ∧ (t = 0 ∨ c > 0 ∨ (1 ≤ t ∧ ∀ k, k < n → (ps T n 0 (-1) 0 t) k = (ps T n 0 (-1) 0 (t - 1)) k)) ∧ Fa 172 4 = bst (ex2 S (vS T n) n (t + 1) 0) ∧ ∀ c, c < 648 → Ga 205 c = qb (ex2 A (vC T n) n t 0 c)) 0 0 (gup F1 172 (qup (F1 172) 4 (qOr ((F1 172) 4) (bst (fun m => ∃ k, k < n ∧ (ps T n 0 (-1) 0 0) k = (m : Int)))))) G1 (⟨by omega, nfr_tr (nfr_x hv1) nfr_4, rnS_M (rnS_cg hw1 rfl rfl) (fun _ _ => rfl) h00.symm rfl, fun k hk => absurd hk (by omega), Or.inl rfl, (show qOr (F1 172 4) (bst (fun m => ∃ k, k < n ∧ (ps T n 0 (-1) 0 0) k = (m : Int))) = _ by rw [xfr_F hv1 (show 172 < 173 ∨ 176 < 172 by decide), h4, bst_orb]; exact bst_cg (fun m _ => (or_congr_left ex2_0.symm).trans ex2_b)), fun c hc => by rw [xfr_G hv1 (show 205 < 173 ∨ 176 < 205 by decide), hA c hc]; exact qb_congr ex2_0.symm⟩) (fun t c Fa Ga hp kk => ?_))
  obtain ⟨ht, hfr, hS1, hp, hst, hms, hak⟩ := hp
  show qEy M_X9_noteRun 31 [qR 172, qR d, qI (n : Int), qI (qb (t = 0 ∨ c > 0)), qI (t : Int)] [] (xput h Fa Ga) Q
  have hT1 : ∀ c, c < 648 → Ga d c = T c := fun c hc => by rw [hfr.2.1 d (by omega) (by omega)]; exact hT c hc
  have f7 : Fa 173 7 = 3 * (n : Int) + 20 := hS1.2.1.1
  have f9 : Fa 173 9 = cnt (fun k => ps T n 0 (-1) 0 t k = 7) n := hS1.2.1.2.2.1
  have c0 := cnt_bd (fun k => ps T n 0 (-1) 0 t k = 7) n
  refine qy (fun _ _ k9 => z_iload d_X9_noteRun_31 rfl k9) ?_
  refine qy (fun _ _ k9 => z_aload_n d_X9_noteRun_33 rfl rfl k9) ?_
  refine qy (fun _ _ k9 => z_getf (v := qR 173) d_X9_noteRun_34 fl_X9_12 (xput_ob (c := (Fa 172)) xi_172 rfl (xsh_9 xo_172)) rfl k9) ?_
  refine qy (fun _ _ k9 => z_getf (v := qI ((Fa 173) 7)) d_X9_noteRun_37 fl_X9_67 (xput_ob (c := (Fa 173)) xi_173 rfl (xsh_7 xo_173)) rfl k9) ?_
  refine qy2 (fun _ _ => z_icmp_ge 114 d_X9_noteRun_40 (by decide)) (fun q40 => ?_) (fun q40 => ?_)
  · exact y_ret (hQ Fa Ga (⟨hfr, hms.trans (bst_cg (fun m _ => run_S hB ht hp (Or.inl (by omega)) m)), fun c hc => (hak c hc).trans (qb_congr (run_C hB ht hp (Or.inl (by omega)) c))⟩)) (z_vret d_X9_noteRun_114 rfl rfl rfl)
  · refine qy (fun _ _ k9 => z_aload_n d_X9_noteRun_43 rfl rfl k9) ?_
    refine qy (fun _ _ k9 => z_getf (v := qR 173) d_X9_noteRun_44 fl_X9_12 (xput_ob (c := (Fa 172)) xi_172 rfl (xsh_9 xo_172)) rfl k9) ?_
    refine qy (fun _ _ k9 => z_getf (v := qI ((Fa 173) 9)) d_X9_noteRun_47 fl_X9_70 (xput_ob (c := (Fa 173)) xi_173 rfl (xsh_7 xo_173)) rfl k9) ?_
    refine qy2 (fun _ _ => z_if_ne 114 d_X9_noteRun_50 (by decide)) (fun q50 => ?_) (fun q50 => ?_)
    · exact y_ret (hQ Fa Ga (⟨hfr, hms.trans (bst_cg (fun m _ => run_S hB ht hp (Or.inr (Or.inl (by unfold litAt; omega))) m)), fun c hc => (hak c hc).trans (qb_congr (run_C hB ht hp (Or.inr (Or.inl (by unfold litAt; omega))) c))⟩)) (z_vret d_X9_noteRun_114 rfl rfl rfl)
    · refine qy (fun _ _ k9 => z_iload_n d_X9_noteRun_53 rfl rfl k9) ?_
      refine qy2n (fun _ _ => z_ifeqB 114 d_X9_noteRun_54 (by decide)) (fun q54 => ?_) (fun q54 => ?_)
      · exact y_ret (hQ Fa Ga (⟨hfr, hms.trans (bst_cg (fun m _ => run_S hB ht hp (Or.inr (Or.inr ((hst.resolve_left (fun z => q54 (Or.inl z))).resolve_left (fun z => q54 (Or.inr z))))) m)), fun c hc => (hak c hc).trans (qb_congr (run_C hB ht hp (Or.inr (Or.inr ((hst.resolve_left (fun z => q54 (Or.inl z))).resolve_left (fun z => q54 (Or.inr z))))) c))⟩)) (z_vret d_X9_noteRun_114 rfl rfl rfl)
      · refine qy (fun _ _ k9 => z_aload_n d_X9_noteRun_57 rfl rfl k9) ?_
        refine qy (fun _ _ k9 => z_getf (v := qR 173) d_X9_noteRun_58 fl_X9_12 (xput_ob (c := (Fa 172)) xi_172 rfl (xsh_9 xo_172)) rfl k9) ?_
        refine qy (fun _ _ k9 => z_aload_n d_X9_noteRun_61 rfl rfl k9) ?_
        refine qy (fun _ _ k9 => z_getf (v := qR 205) d_X9_noteRun_62 fl_X9_28 (xput_ob (c := (Fa 172)) xi_172 rfl (xsh_9 xo_172)) rfl k9) ?_
        refine qy (fun _ _ k9 => z_cv0 (M1 := M_X7_noteCases) d_X9_noteRun_65 lv_X9_73 k_X7_noteCases [qR 205] rfl rfl (xput_ob (c := (Fa 173)) xi_173 rfl (xsh_7 xo_173)) ⟨_, _, rfl⟩ (Nat.le_of_ble_eq_true rfl) (by decide) (by decide) (Nat.le_of_ble_eq_true rfl) (c_rnNote (u := 173) (d := 205) (M := (ps T n 0 (-1) 0 t)) (by decide) xo_173 xa_205 (by decide) (by omega) (ps_bd hB t) hS1) k9) ?_
        refine qy (fun _ _ k9 => z_aload_n d_X9_noteRun_68 rfl rfl k9) ?_
        refine qy (fun _ _ k9 => z_getf (v := qR 173) d_X9_noteRun_69 fl_X9_12 (xput_ob (c := (Fa 172)) xi_172 rfl (xsh_9 xo_172)) rfl k9) ?_
        refine qy (fun _ _ k9 => z_aload_n d_X9_noteRun_72 rfl rfl k9) ?_
        obtain ⟨F2, G2, ⟨hv2, hw2⟩, hx2⟩ := c_rnBr (h := h) (F := Fa) (G := (gup Ga 205 (ncF n (ps T n 0 (-1) 0 t) (Ga 205) n))) (u := 173) (d := d) (M := (ps T n 0 (-1) 0 t)) (T := T) (by decide) xo_173 hs (by omega) hn (by decide) (by omega) (fun c hc => by rw [gup_ne (by omega)]; exact hT1 c hc) (rnS_cg hS1 rfl rfl) (ps_bd hB t)
        refine qy (fun _ _ k9 => z_cv0 (M1 := M_X7_breathe) d_X9_noteRun_73 lv_X9_76 k_X7_breathe [qR d] rfl rfl (xput_ob (c := (Fa 173)) xi_173 rfl (xsh_7 xo_173)) ⟨_, _, rfl⟩ (Nat.le_of_ble_eq_true rfl) (by decide) (by decide) (Nat.le_of_ble_eq_true rfl) hx2 k9) ?_
        refine qy (fun _ _ k9 => z_aload_n d_X9_noteRun_76 rfl rfl k9) ?_
        refine qy (fun _ _ k9 => z_dup d_X9_noteRun_77 rfl k9) ?_
        refine qy (fun _ _ k9 => z_getf (v := qI ((F2 172) 4)) d_X9_noteRun_78 fl_X9_32 (xput_ob (c := (F2 172)) xi_172 rfl (xsh_9 xo_172)) rfl k9) ?_
        refine qy (fun _ _ k9 => z_aload_n d_X9_noteRun_81 rfl rfl k9) ?_
        refine qy (fun _ _ k9 => z_getf (v := qR 173) d_X9_noteRun_82 fl_X9_12 (xput_ob (c := (F2 172)) xi_172 rfl (xsh_9 xo_172)) rfl k9) ?_
        refine qy (fun _ _ k9 => z_cv (M1 := M_X7_mindSet) d_X9_noteRun_85 lv_X9_63 k_X7_mindSet [] rfl rfl (xput_ob (c := (F2 173)) xi_173 rfl (xsh_7 xo_173)) ⟨_, _, rfl⟩ (Nat.le_of_ble_eq_true rfl) (by decide) (by decide) (Nat.le_of_ble_eq_true rfl) (c_rnSet (M := (ps T n 0 (-1) 0 (t + 1))) (by decide) xo_173 (by omega) (ps_bd hB (t + 1)) (rnS_cg (M := (ps T n 0 (-1) 0 (t + 1))) hw2 rfl rfl)) k9) ?_
        refine qy (fun _ _ k9 => z_ior d_X9_noteRun_88 k9) ?_
        refine qy (fun _ _ k9 => z_putf (fs' := [qR 173, qR 177, qR 181, qR 205, qI (qOr ((F2 172) 4) (bst (fun m => ∃ k, k < n ∧ (ps T n 0 (-1) 0 (t + 1)) k = (m : Int)))), qI ((F2 172) 5), qI ((F2 172) 6)]) d_X9_noteRun_89 fp_X9_32 (xput_ob (c := (F2 172)) xi_172 rfl (xsh_9 xo_172)) (fun _ => rfl) (fun _ => rfl) (Nat.le_of_ble_eq_true rfl) rfl k9) ?_
        refine qy (fun _ _ k9 => z_eq rfl rfl (xput_sf (c := (qup (F2 172) 4 (qOr ((F2 172) 4) (bst (fun m => ∃ k, k < n ∧ (ps T n 0 (-1) 0 (t + 1)) k = (m : Int)))))) xi_172 (xsh_9 xo_172)) k9) ?_
        refine qy (fun _ _ k9 => z_aload_n d_X9_noteRun_92 rfl rfl k9) ?_
        refine qy (fun _ _ k9 => z_getf (v := qR 173) d_X9_noteRun_93 fl_X9_12 (xput_ob (c := (qup (F2 172) 4 (qOr ((F2 172) 4) (bst (fun m => ∃ k, k < n ∧ (ps T n 0 (-1) 0 (t + 1)) k = (m : Int)))))) xi_172 rfl (xsh_9 xo_172)) rfl k9) ?_
        refine qy (fun _ _ k9 => z_getf (v := qI ((F2 173) 10)) d_X9_noteRun_96 fl_X9_79 (xput_ob (c := (F2 173)) xi_173 rfl (xsh_7 xo_173)) rfl k9) ?_
        suffices kJ99 : qEy M_X9_noteRun 107 [qR 172, qR d, qI (n : Int), qI (qb (t = 0 ∨ c > 0)), qI (t : Int)] [qI (qb (((F2 173) 10) > 0))] (xput h (gup F2 172 (qup (F2 172) 4 (qOr ((F2 172) 4) (bst (fun m => ∃ k, k < n ∧ (ps T n 0 (-1) 0 (t + 1)) k = (m : Int)))))) G2) Q by
          refine qy2 (fun _ _ => z_if_le 106 d_X9_noteRun_99 (by decide)) (fun hc1 => ?_) (fun hc1 => ?_)
          · refine qy (fun _ _ k9 => z_iconst d_X9_noteRun_106 (by decide) k9) ?_
            exact qy (fun _ _ k9 => z_eq rfl (qc (qi (qb_f (by omega)).symm) rfl) rfl k9) kJ99
          · refine qy (fun _ _ k9 => z_iconst d_X9_noteRun_102 (by decide) k9) ?_
            refine qy (fun _ _ k9 => z_goto 107 d_X9_noteRun_103 (by decide) k9) ?_
            exact qy (fun _ _ k9 => z_eq rfl (qc (qi (qb_t (by omega)).symm) rfl) rfl k9) kJ99
        refine qy (fun _ _ k9 => z_istore_n (ls' := [qR 172, qR d, qI (n : Int), qI (qb (((F2 173) 10) > 0)), qI (t : Int)]) d_X9_noteRun_107 rfl (by decide) rfl k9) ?_
        refine qy (fun _ _ k9 => z_iinc (ls' := [qR 172, qR d, qI (n : Int), qI (qb (((F2 173) 10) > 0)), qI ((t : Int) + 1)]) d_X9_noteRun_108 rfl (by decide) (by omega) rfl k9) ?_
        refine qy (fun _ _ k9 => z_goto 31 d_X9_noteRun_111 (by decide) k9) ?_
        exact qy (fun _ _ k9 => z_eq (qc rfl (qc rfl (qc rfl (qc (qi (qb_congr (by have e9 : F2 173 10 = cnt (fun k => (ps T n 0 (-1) 0 (t + 1)) k ≠ (ps T n 0 (-1) 0 t) k) n := hw2.2.1.2.2.2; rw [e9]; omega))) (qc (qi (by omega)) rfl))))) rfl rfl k9) (kk (t + 1) (cnt (fun k => (ps T n 0 (-1) 0 (t + 1)) k ≠ (ps T n 0 (-1) 0 t) k) n) (gup F2 172 (qup (F2 172) 4 (qOr ((F2 172) 4) (bst (fun m => ∃ k, k < n ∧ (ps T n 0 (-1) 0 (t + 1)) k = (m : Int)))))) G2 (⟨by omega, nfr_tr hfr (nfr_tr nfr_5 (nfr_tr (nfr_x hv2) nfr_4)), rnS_cg hw2 rfl rfl, litp_s hp (by unfold litAt; omega), (chg_s n).elim (fun z => Or.inr (Or.inl z)) (fun z => Or.inr (Or.inr ⟨by omega, z⟩)), (show qOr (F2 172 4) (bst (fun m => ∃ k, k < n ∧ (ps T n 0 (-1) 0 (t + 1)) k = (m : Int))) = _ by rw [xfr_F hv2 (show 172 < 173 ∨ 176 < 172 by decide), hms, bst_orb]; exact bst_cg (fun m _ => ex2_b)), fun c hc => (by rw [xfr_G hv2 (show 205 < 173 ∨ 176 < 205 by decide), gup_eq, nc_qb (ps_bd hB t) (hak c hc)]; exact qb_congr ex2_b)⟩) (by omega))
