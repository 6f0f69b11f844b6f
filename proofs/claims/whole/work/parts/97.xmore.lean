/-! ===== CONTRACTS: trials: noteRuns, tryCase, tryOneRuleMore ===== -/
noncomputable def usA (T : Nat → Int) : Nat → Nat → Prop
  | 0 => fun _ => False
  | n + 1 => ex2 (usA T n) (vC T (n + 1)) (n + 1) (rnJ T (n + 1) 0 0) 0
theorem usA_no {T : Nat → Int} {c : Nat} : ∀ N, ¬ usA T N c → ∀ n, n < N → ∀ t, t < rnJ T (n + 1) 0 0 → ∀ k, k < n + 1 → vC T (n + 1) t k ≠ (c : Int)
  | 0, _, n, hn => absurd hn (by omega)
  | N + 1, h, n, hn => by
    rcases Nat.lt_or_ge n N with q | q
    · exact usA_no N (fun z => h (Or.inl z)) n q
    · have : n = N := by omega
      subst this
      exact fun t ht k hk z => h (Or.inr (Or.inl ⟨t, ht, k, hk, z⟩))
section Unasked
variable {T : Nat → Int} {n c : Nat} {v : Int}
theorem un_ps (hB : ∀ c, c < 648 → 0 ≤ T c ∧ T c ≤ 7) (h : ∀ t, t < rnJ T n 0 0 → ∀ k, k < n → vC T n t k ≠ (c : Int)) : ∀ t, t ≤ rnJ T n 0 0 → ∀ k, k < n → ps (qup T c v) n 0 (-1) 0 t k = ps T n 0 (-1) 0 t k
  | 0, _, _, _ => rfl
  | t + 1, ht, k, hk => by
    have hb := stC_bd (rg := 0) hk (ps_bd (rg := 0) (b := 0) (df := -1) hB t)
    have e := stC_cg (rg := 0) hk (fun j hj => un_ps hB h t (by omega) j hj)
    have hne := h t (by omega) k hk
    show stp (qup T c v) n 0 (-1) (ps (qup T c v) n 0 (-1) 0 t) k = stp T n 0 (-1) (ps T n 0 (-1) 0 t) k
    unfold stp
    rw [e, qup_ne (show (stC n 0 (ps T n 0 (-1) 0 t) k).toNat ≠ c by unfold vC at hne; omega), un_ps hB h t (by omega) k hk]
theorem un_lit (hB : ∀ c, c < 648 → 0 ≤ T c ∧ T c ≤ 7) (h : ∀ t, t < rnJ T n 0 0 → ∀ k, k < n → vC T n t k ≠ (c : Int)) {t : Nat} (ht : t ≤ rnJ T n 0 0) : litAt (qup T c v) n 0 (-1) 0 t ↔ litAt T n 0 (-1) 0 t := by
  unfold litAt
  rw [cnt_congr (fun k hk => by rw [un_ps hB h t ht k hk])]
theorem un_good (hB : ∀ c, c < 648 → 0 ≤ T c ∧ T c ≤ 7) (h : ∀ t, t < rnJ T n 0 0 → ∀ k, k < n → vC T n t k ≠ (c : Int)) : goodR (qup T c v) n ↔ goodR T n := by
  have h0 : ¬ litAt T n 0 (-1) 0 0 := by
    unfold litAt
    rw [cnt_0.mpr (fun k _ => ps_0)]
    omega
  have key : rnT (qup T c v) n 0 0 = rnT T n 0 0 ∧ ∀ k, k < n → rnE (qup T c v) n 0 0 k = rnE T n 0 0 k := by
    rcases fst_cases (fun t => litAt T n 0 (-1) 0 (t + 1)) (3 * n + 20) with ⟨_, hno⟩ | ⟨i, hi, _, hl, hp⟩
    · have hJ : rnJ T n 0 0 = 3 * n + 20 := rnJ_at (Nat.le_refl _) (fun k hk => by
        rcases Nat.eq_zero_or_pos k with z | z
        · subst z; exact h0
        · have := hno (k - 1) (by omega); rwa [show k - 1 + 1 = k by omega] at this) (Or.inl rfl)
      have hno2 : ∀ k, k < 3 * n + 20 → ¬ litAt (qup T c v) n 0 (-1) 0 (k + 1) := fun k hk z => hno k hk ((un_lit hB h (by omega)).mp z)
      refine ⟨by rw [rn_tn hno, rn_tn hno2], fun k hk => ?_⟩
      unfold rnE rnN
      rw [rn_fn hno, rn_fn hno2, if_pos rfl]
      exact un_ps hB h _ (by omega) k hk
    · have hJ : rnJ T n 0 0 = i + 1 := rnJ_at (by omega) (fun k hk => by
        rcases Nat.eq_zero_or_pos k with z | z
        · subst z; exact h0
        · have := hp (k - 1) (by omega); rwa [show k - 1 + 1 = k by omega] at this) (Or.inr hl)
      have hp2 : ∀ k, k < i → ¬ litAt (qup T c v) n 0 (-1) 0 (k + 1) := fun k hk z => hp k hk ((un_lit hB h (by omega)).mp z)
      have hl2 : litAt (qup T c v) n 0 (-1) 0 (i + 1) := (un_lit hB h (by omega)).mpr hl
      refine ⟨by rw [rn_t hi hp hl, rn_t hi hp2 hl2], fun k hk => ?_⟩
      unfold rnE
      rw [rn_n hi hp hl, rn_n hi hp2 hl2]
      exact un_ps hB h _ (by omega) k hk
  unfold goodR
  rw [key.1, cnt_congr (fun k hk => by rw [key.2 k hk])]
end Unasked
theorem fb_iff {T : Nat → Int} {to : Nat} : fbR T to = -1 ↔ ∀ k, k < to → goodR T (k + 1) := by
  unfold fbR
  constructor
  · intro e
    rcases fst_cases (fun k => ¬ goodR T (k + 1)) to with ⟨_, h⟩ | ⟨i, hi, e2, _⟩
    · exact fun k hk => Classical.not_not.mp (h k hk)
    · have e3 : fbF T to = (i : Int) := e2
      rw [e3, qif_f (by omega)] at e
      omega
  · intro h
    rw [fb_n h, qif_t rfl]
/-- a case that no run asks: all stays as it is -/
theorem un_all {T : Nat → Int} {to c : Nat} {v : Int} (hB : ∀ c, c < 648 → 0 ≤ T c ∧ T c ≤ 7) (h : ¬ usA T to c) (hg : fbR T to = -1) : fbR (qup T c v) to = -1 := fb_iff.mpr (fun k hk => (un_good hB (usA_no to h k hk)).mpr (fb_iff.mp hg k hk))
theorem un_bad {T : Nat → Int} {to c : Nat} {v : Int} (hB : ∀ c, c < 648 → 0 ≤ T c ∧ T c ≤ 7) (h : ¬ usA T (fbN T to) c) (hg : fbR T to ≠ -1) : fbR (qup T c v) to ≠ -1 := by
  intro z
  obtain ⟨-, h1, h2⟩ := fbR_N hg
  have hb : ¬ goodR T (fbN T to) := by
    unfold fbN at *
    rcases fst_cases (fun k => ¬ goodR T (k + 1)) to with ⟨e, _⟩ | ⟨i, hi, e2, hh, _⟩
    · have e3 : fbF T to = -1 := e
      unfold fbR at hg
      rw [e3, qif_t rfl] at hg
      exact absurd rfl hg
    · have e3 : fbF T to = (i : Int) := e2
      rw [e3, if_neg (by omega), Int.toNat_natCast]
      exact hh
  have hz := fb_iff.mp z (fbN T to - 1) (by omega)
  rw [show fbN T to - 1 + 1 = fbN T to by omega] at hz
  refine hb ((un_good hB ?_).mp hz)
  have := usA_no (fbN T to) h (fbN T to - 1) (by omega)
  rwa [show fbN T to - 1 + 1 = fbN T to by omega] at this
theorem mo_none {T : Nat → Int} {to : Nat} : ∀ k, moF T to k = -1 ↔ cnt (moP T to) k = 0
  | 0 => ⟨fun _ => rfl, fun _ => rfl⟩
  | k + 1 => by
    have ih := mo_none (T := T) (to := to) k
    have hb := cnt_bd (moP T to) k
    show qif (moP T to k ∧ cnt (moP T to) k = 0) (moC k) (moF T to k) = -1 ↔ cnt (moP T to) k + qb (moP T to k) = 0
    by_cases c : moP T to k
    · rw [qb_t c]
      by_cases d : cnt (moP T to) k = 0
      · rw [qif_t ⟨c, d⟩]
        unfold moC
        constructor <;> intro z <;> omega
      · rw [qif_f (fun z => d z.2), ih]
        constructor <;> intro z <;> omega
    · rw [qif_f (fun z => c z.1), qb_f c, ih, Int.add_zero]
set_option maxRecDepth 20000 in
set_option maxHeartbeats 4000000 in
theorem c_noteRuns {h : qH} {F G : Nat → Nat → Int} {d to : Nat} {T : Nat → Int} (hs : xAr d 0 648) (hd : d < 172) (ht : to ≤ 24) (hT : ∀ c, c < 648 → G d c = T c) (hB : ∀ c, c < 648 → 0 ≤ T c ∧ T c ≤ 7) : ∃ F' G', (nfr F G F' G' ∧ F' 172 4 = bst (usS T to) ∧ ∀ c, c < 648 → G' 205 c = qb (usA T to c)) ∧ qEx M_X9_noteRuns 0 [qR 172, qR d, qI (to : Int), qU] [] (xput h F G) none (xput h F' G') := by
  refine x_in (fun Q hQ => ?_)
  refine qy (fun _ _ k9 => z_aload_n d_X9_noteRuns_0 rfl rfl k9) ?_
  refine qy (fun _ _ k9 => z_getf (v := qR 205) d_X9_noteRuns_1 fl_X9_28 (xput_ob (c := (F 172)) xi_172 rfl (xsh_9 xo_172)) rfl k9) ?_
  refine qy (fun _ _ k9 => z_iconst d_X9_noteRuns_4 (by decide) k9) ?_
  refine qy (fun _ _ k9 => z_cs0 (M1 := M_J7_fill_53178) d_X9_noteRuns_5 ls_X9_54 k_J7_fill_53178 [qR 205, qI 0] rfl rfl (Nat.le_of_ble_eq_true rfl) (by decide) (by decide) (Nat.le_of_ble_eq_true rfl) (c_fill (xput_ar (g := (G 205)) xa_205 rfl) (by decide) (by decide)) k9) ?_
  refine qy (fun _ _ k9 => z_eq rfl rfl (xput_sa xa_205) k9) ?_
  refine qy (fun _ _ k9 => z_aload_n d_X9_noteRuns_8 rfl rfl k9) ?_
  refine qy (fun _ _ k9 => z_iconst d_X9_noteRuns_9 (by decide) k9) ?_
  refine qy (fun _ _ k9 => z_putf (fs' := [qR 173, qR 177, qR 181, qR 205, qI 0, qI ((F 172) 5), qI ((F 172) 6)]) d_X9_noteRuns_10 fp_X9_32 (xput_ob (c := (F 172)) xi_172 rfl (xsh_9 xo_172)) (fun _ => rfl) (fun _ => rfl) (Nat.le_of_ble_eq_true rfl) rfl k9) ?_
  refine qy (fun _ _ k9 => z_eq rfl rfl (xput_sf (c := (qup (F 172) 4 0)) xi_172 (xsh_9 xo_172)) k9) ?_
  refine qy (fun _ _ k9 => z_iconst d_X9_noteRuns_13 (by decide) k9) ?_
  refine qy (fun _ _ k9 => z_istore_n (ls' := [qR 172, qR d, qI (to : Int), qI 1]) d_X9_noteRuns_14 rfl (by decide) rfl k9) ?_
  refine qy (fun _ _ k9 => z_eq (qc rfl (qc rfl (qc rfl (qc (qi (rfl)) rfl)))) rfl rfl k9) (y_wh3 (fun (i : Nat) (Fa : Nat → Nat → Int) (Ga : Nat → Nat → Int) => to - i) (fun (i : Nat) (Fa : Nat → Nat → Int) (Ga : Nat → Nat → Int) => [qR 172, qR d, qI (to : Int), qI (((i + 1) : Nat) : Int)]) (fun (i : Nat) (Fa : Nat → Nat → Int) (Ga : Nat → Nat → Int) => (xput h Fa Ga)) (fun (i : Nat) (Fa : Nat → Nat → Int) (Ga : Nat → Nat → Int) => i ≤ to ∧ nfr F G Fa Ga ∧ Fa 172 4 = bst (usS T i) ∧ ∀ c, c < 648 → Ga 205 c = qb (usA T i c)) 0 (gup F 172 (qup (F 172) 4 0)) (gup G 205 (qmx 648 (fun _ => 0) (G 205))) (⟨by omega, nfr_tr nfr_5 nfr_4, bst_0, fun c hc => by rw [gup_eq, qmx_lt hc]; exact (qb_f (fun z => z)).symm⟩) (fun i Fa Ga hp kk => ?_))
  obtain ⟨hi, hfr, hms, hak⟩ := hp
  show qEy M_X9_noteRuns 15 [qR 172, qR d, qI (to : Int), qI (((i + 1) : Nat) : Int)] [] (xput h Fa Ga) Q
  refine qy (fun _ _ k9 => z_iload_n d_X9_noteRuns_15 rfl rfl k9) ?_
  refine qy (fun _ _ k9 => z_iload_n d_X9_noteRuns_16 rfl rfl k9) ?_
  refine qy2 (fun _ _ => z_icmp_gt 32 d_X9_noteRuns_17 (by decide)) (fun hc1 => ?_) (fun hc1 => ?_)
  · exact y_ret (hQ Fa Ga (⟨hfr, by rw [hms, show i = to by omega], fun c hc => by rw [hak c hc, show i = to by omega]⟩)) (z_vret d_X9_noteRuns_32 rfl rfl rfl)
  · refine qy (fun _ _ k9 => z_aload_n d_X9_noteRuns_20 rfl rfl k9) ?_
    refine qy (fun _ _ k9 => z_aload_n d_X9_noteRuns_21 rfl rfl k9) ?_
    refine qy (fun _ _ k9 => z_iload_n d_X9_noteRuns_22 rfl rfl k9) ?_
    obtain ⟨F1, G1, ⟨hv1, hw1, hz1⟩, hx1⟩ := c_noteRun (h := h) (F := Fa) (G := Ga) (d := d) (n := i + 1) (T := T) (S := usS T i) (A := usA T i) hs hd (by omega) (fun c hc => by rw [hfr.2.1 d (by omega) (by omega)]; exact hT c hc) hB hms hak
    refine qy (fun _ _ k9 => z_cv0 (M1 := M_X9_noteRun) d_X9_noteRuns_23 lv_X9_60 k_X9_noteRun [qR d, qI (((i + 1) : Nat) : Int)] rfl rfl (xput_ob (c := (Fa 172)) xi_172 rfl (xsh_9 xo_172)) ⟨_, _, rfl⟩ (Nat.le_of_ble_eq_true rfl) (by decide) (by decide) (Nat.le_of_ble_eq_true rfl) hx1 k9) ?_
    refine qy (fun _ _ k9 => z_iinc (ls' := [qR 172, qR d, qI (to : Int), qI ((((i + 1) : Nat) : Int) + 1)]) d_X9_noteRuns_26 rfl (by decide) (by omega) rfl k9) ?_
    refine qy (fun _ _ k9 => z_goto 15 d_X9_noteRuns_29 (by decide) k9) ?_
    exact qy (fun _ _ k9 => z_eq (qc rfl (qc rfl (qc rfl (qc (qi (by omega)) rfl)))) rfl rfl k9) (kk (i + 1) F1 G1 (⟨by omega, nfr_tr hfr hv1, hw1, hz1⟩) (by omega))
/-- what tryCase leaves as it was -/
def tfr (F G F' G' : Nat → Nat → Int) : Prop := (∀ a, (a < 172 ∨ 176 < a) → F' a = F a) ∧ (∀ a, (a < 173 ∨ 176 < a) → a ≠ 183 → G' a = G a) ∧ ∀ j, j ≠ 5 → j ≠ 6 → F' 172 j = F 172 j
theorem tfr_rf (F G : Nat → Nat → Int) : tfr F G F G := ⟨fun _ _ => rfl, fun _ _ _ => rfl, fun _ _ _ => rfl⟩
theorem tfr_tr {F G F1 G1 F2 G2 : Nat → Nat → Int} (h1 : tfr F G F1 G1) (h2 : tfr F1 G1 F2 G2) : tfr F G F2 G2 := ⟨fun a ha => (h2.1 a ha).trans (h1.1 a ha), fun a ha hb => (h2.2.1 a ha hb).trans (h1.2.1 a ha hb), fun j hj hk => (h2.2.2 j hj hk).trans (h1.2.2 j hj hk)⟩
theorem tfr_x {F G F' G' : Nat → Nat → Int} (h : xfr 173 176 F G F' G') : tfr F G F' G' := ⟨fun a ha => xfr_F h (by omega), fun a ha _ => xfr_G h ha, fun j _ _ => by rw [xfr_F h (by omega)]⟩
theorem tfr_5 {F G : Nat → Nat → Int} {v : Int} : tfr F G (gup F 172 (qup (F 172) 5 v)) G := ⟨fun a ha => gup_ne (by omega), fun _ _ _ => rfl, fun j hj _ => by rw [gup_eq, qup_ne hj]⟩
theorem tfr_56 {F G : Nat → Nat → Int} {v w : Int} : tfr F G (gup F 172 (qup (qup (F 172) 5 v) 6 w)) G := ⟨fun a ha => gup_ne (by omega), fun _ _ _ => rfl, fun j hj hk => by rw [gup_eq, qup_ne hk, qup_ne hj]⟩
theorem tfr_g {F G : Nat → Nat → Int} {c : Nat → Int} : tfr F G F (gup G 183 c) := ⟨fun a ha => rfl, fun a _ hb => gup_ne hb, fun j _ _ => rfl⟩
set_option maxRecDepth 20000 in
set_option maxHeartbeats 4000000 in
theorem c_tryCase {h : qH} {F G : Nat → Nat → Int} {c to : Nat} {T : Nat → Int} (hc : c < 567) (ht : to ≤ 24) (hB : ∀ c, c < 648 → 0 ≤ T c ∧ T c ≤ 7) (hG : ∀ q, q < 648 → G 183 q = T q) (h5 : F 172 5 = cnt (moP T to) (8 * c)) (h6 : F 172 6 = moF T to (8 * c)) (hmode : G 205 c ≠ 0 ∨ ∀ m : Nat, m < 8 → (m : Int) ≠ T c → fbR (qup T c (m : Int)) to = -1) : ∃ F' G', (tfr F G F' G' ∧ (∀ q, q < 648 → G' 183 q = T q) ∧ F' 172 5 = cnt (moP T to) (8 * c + 8) ∧ F' 172 6 = moF T to (8 * c + 8)) ∧ qEx M_X9_tryCase 0 [qR 172, qI (c : Int), qI (to : Int), qU, qU] [] (xput h F G) none (xput h F' G') := by
  refine x_in (fun Q hQ => ?_)
  have hTc := hB c (by omega)
  refine qy (fun _ _ k9 => z_aload_n d_X9_tryCase_0 rfl rfl k9) ?_
  refine qy (fun _ _ k9 => z_getf (v := qR 181) d_X9_tryCase_1 fl_X9_24 (xput_ob (c := (F 172)) xi_172 rfl (xsh_9 xo_172)) rfl k9) ?_
  refine qy (fun _ _ k9 => z_getf (v := qR 183) d_X9_tryCase_4 fl_X9_110 (xput_ob (c := (F 181)) xi_181 rfl (xsh_0 xo_181)) rfl k9) ?_
  refine qy (fun _ _ k9 => z_iload_n d_X9_tryCase_7 rfl rfl k9) ?_
  refine qy (fun _ _ k9 => z_ild c d_X9_tryCase_8 (xput_ar (g := (G 183)) xa_183 rfl) rfl (by omega) k9) ?_
  refine qy (fun _ _ k9 => z_eq rfl (qc (qi (show ((G 183) c) = (T c) from hG c (by omega))) rfl) rfl k9) ?_
  refine qy (fun _ _ k9 => z_istore_n (ls' := [qR 172, qI (c : Int), qI (to : Int), qI (T c), qU]) d_X9_tryCase_9 rfl (by decide) rfl k9) ?_
  refine qy (fun _ _ k9 => z_iconst d_X9_tryCase_10 (by decide) k9) ?_
  refine qy (fun _ _ k9 => z_istore (ls' := [qR 172, qI (c : Int), qI (to : Int), qI (T c), qI 0]) d_X9_tryCase_11 (by decide) rfl k9) ?_
  refine qy (fun _ _ k9 => z_eq (qc rfl (qc rfl (qc rfl (qc rfl (qc (qi (rfl)) rfl))))) rfl rfl k9) (y_wh4 (fun (m : Nat) (v : Int) (Fa : Nat → Nat → Int) (Ga : Nat → Nat → Int) => 8 - m) (fun (m : Nat) (v : Int) (Fa : Nat → Nat → Int) (Ga : Nat → Nat → Int) => [qR 172, qI (c : Int), qI (to : Int), qI (T c), qI (m : Int)]) (fun (m : Nat) (v : Int) (Fa : Nat → Nat → Int) (Ga : Nat → Nat → Int) => (xput h Fa Ga)) (fun (m : Nat) (v : Int) (Fa : Nat → Nat → Int) (Ga : Nat → Nat → Int) => m ≤ 8 ∧ tfr F G Fa Ga ∧ (∀ q, q < 648 → Ga 183 q = qup T c v q) ∧ Fa 172 5 = cnt (moP T to) (8 * c + m) ∧ Fa 172 6 = moF T to (8 * c + m)) 0 (T c) F G (⟨by omega, tfr_rf _ _, fun q hq => by rw [qup_self rfl]; exact hG q hq, h5, h6⟩) (fun m v Fa Ga hp kk => ?_))
  obtain ⟨hm8, hfr, hg3, hf5, hf6⟩ := hp
  show qEy M_X9_tryCase 13 [qR 172, qI (c : Int), qI (to : Int), qI (T c), qI (m : Int)] [] (xput h Fa Ga) Q
  have hup : ∀ q, q < 648 → qup (Ga 183) c (m : Int) q = qup T c (m : Int) q := fun q hq => by rw [← qup_qup T c v]; exact qup_cgp hg3 q hq
  refine qy (fun _ _ k9 => z_iload d_X9_tryCase_13 rfl k9) ?_
  refine qy (fun _ _ k9 => z_bipush d_X9_tryCase_15 (by decide) k9) ?_
  refine qy2 (fun _ _ => z_icmp_ge 117 d_X9_tryCase_17 (by decide)) (fun hc1 => ?_) (fun hc1 => ?_)
  · refine qy (fun _ _ k9 => z_aload_n d_X9_tryCase_117 rfl rfl k9) ?_
    refine qy (fun _ _ k9 => z_getf (v := qR 181) d_X9_tryCase_118 fl_X9_24 (xput_ob (c := (Fa 172)) xi_172 rfl (xsh_9 xo_172)) rfl k9) ?_
    refine qy (fun _ _ k9 => z_getf (v := qR 183) d_X9_tryCase_121 fl_X9_110 (xput_ob (c := (Fa 181)) xi_181 rfl (xsh_0 xo_181)) rfl k9) ?_
    refine qy (fun _ _ k9 => z_iload_n d_X9_tryCase_124 rfl rfl k9) ?_
    refine qy (fun _ _ k9 => z_iload_n d_X9_tryCase_125 rfl rfl k9) ?_
    refine qy (fun _ _ k9 => z_ist c d_X9_tryCase_126 (xput_ar (g := (Ga 183)) xa_183 rfl) (by omega) rfl (by omega) k9) ?_
    refine qy (fun _ _ k9 => z_eq rfl rfl (xput_sa xa_183) k9) ?_
    exact y_ret (hQ Fa (gup Ga 183 (qup (Ga 183) c (T c))) (⟨tfr_tr hfr tfr_g, fun q hq => by rw [gup_eq]; exact qup_back hg3 rfl q hq, by rw [hf5, show m = 8 by omega], by rw [hf6, show m = 8 by omega]⟩)) (z_vret d_X9_tryCase_127 rfl rfl rfl)
  · refine qy (fun _ _ k9 => z_aload_n d_X9_tryCase_20 rfl rfl k9) ?_
    refine qy (fun _ _ k9 => z_getf (v := qR 181) d_X9_tryCase_21 fl_X9_24 (xput_ob (c := (Fa 172)) xi_172 rfl (xsh_9 xo_172)) rfl k9) ?_
    refine qy (fun _ _ k9 => z_getf (v := qR 183) d_X9_tryCase_24 fl_X9_110 (xput_ob (c := (Fa 181)) xi_181 rfl (xsh_0 xo_181)) rfl k9) ?_
    refine qy (fun _ _ k9 => z_iload_n d_X9_tryCase_27 rfl rfl k9) ?_
    refine qy (fun _ _ k9 => z_iload d_X9_tryCase_28 rfl k9) ?_
    refine qy (fun _ _ k9 => z_ist c d_X9_tryCase_30 (xput_ar (g := (Ga 183)) xa_183 rfl) (by omega) rfl (by omega) k9) ?_
    refine qy (fun _ _ k9 => z_eq rfl rfl (xput_sa xa_183) k9) ?_
    refine qy (fun _ _ k9 => z_iload d_X9_tryCase_31 rfl k9) ?_
    refine qy (fun _ _ k9 => z_iload_n d_X9_tryCase_33 rfl rfl k9) ?_
    refine qy2 (fun _ _ => z_icmp_eq 111 d_X9_tryCase_34 (by decide)) (fun q34 => ?_) (fun q34 => ?_)
    · have hmo : ¬ moP T to (8 * c + m) := by unfold moP; rw [show (8 * c + m) / 8 = c by omega, show (8 * c + m) % 8 = m by omega]; exact fun z => z.1 (by omega)
      refine qy (fun _ _ k9 => z_iinc (ls' := [qR 172, qI (c : Int), qI (to : Int), qI (T c), qI ((m : Int) + 1)]) d_X9_tryCase_111 rfl (by decide) (by omega) rfl k9) ?_
      refine qy (fun _ _ k9 => z_goto 13 d_X9_tryCase_114 (by decide) k9) ?_
      exact qy (fun _ _ k9 => z_eq (qc rfl (qc rfl (qc rfl (qc rfl (qc (qi (by omega)) rfl))))) rfl rfl k9) (kk (m + 1) (m : Int) Fa (gup Ga 183 (qup (Ga 183) c (m : Int))) (⟨by omega, tfr_tr hfr tfr_g, (fun q hq => by rw [gup_eq]; exact hup q hq), (by rw [hf5]; exact (cnt_f (p := moP T to) hmo).symm), (by rw [hf6]; exact (show qif (moP T to (8 * c + m) ∧ cnt (moP T to) (8 * c + m) = 0) (moC (8 * c + m)) (moF T to (8 * c + m)) = _ from qif_f (fun z => hmo z.1)).symm)⟩) (by omega))
    · refine qy (fun _ _ k9 => z_aload_n d_X9_tryCase_37 rfl rfl k9) ?_
      refine qy (fun _ _ k9 => z_getf (v := qR 205) d_X9_tryCase_38 fl_X9_28 (xput_ob (c := (Fa 172)) xi_172 rfl (xsh_9 xo_172)) rfl k9) ?_
      refine qy (fun _ _ k9 => z_iload_n d_X9_tryCase_41 rfl rfl k9) ?_
      refine qy (fun _ _ k9 => z_ild c d_X9_tryCase_42 (xput_ar (g := (Ga 205)) xa_205 rfl) rfl (by omega) k9) ?_
      refine qy2 (fun _ _ => z_if_eq 62 d_X9_tryCase_43 (by decide)) (fun q43 => ?_) (fun q43 => ?_)
      · have hmo : moP T to (8 * c + m) := by unfold moP; rw [show (8 * c + m) / 8 = c by omega, show (8 * c + m) % 8 = m by omega]; exact ⟨fun z => q34 (by omega), (hmode.resolve_left (fun z => z (by rw [← hfr.2.1 205 (by decide) (by decide)]; exact (show Ga 205 c = 0 from q43)))) m (by omega) (fun z => q34 (by omega))⟩
        have e5 : Fa 172 5 = cnt (moP T to) (8 * c + m) := hf5
        have hcn := cnt_bd (moP T to) (8 * c + m)
        have e6 : Fa 172 6 = moF T to (8 * c + m) := hf6
        refine qy (fun _ _ k9 => z_aload_n d_X9_tryCase_62 rfl rfl k9) ?_
        refine qy (fun _ _ k9 => z_dup d_X9_tryCase_63 rfl k9) ?_
        refine qy (fun _ _ k9 => z_getf (v := qI ((Fa 172) 5)) d_X9_tryCase_64 fl_X9_36 (xput_ob (c := (Fa 172)) xi_172 rfl (xsh_9 xo_172)) rfl k9) ?_
        refine qy (fun _ _ k9 => z_iconst d_X9_tryCase_67 (by decide) k9) ?_
        refine qy (fun _ _ k9 => z_iadd d_X9_tryCase_68 (by omega) k9) ?_
        refine qy (fun _ _ k9 => z_putf (fs' := [qR 173, qR 177, qR 181, qR 205, qI ((Fa 172) 4), qI (((Fa 172) 5) + 1), qI ((Fa 172) 6)]) d_X9_tryCase_69 fp_X9_36 (xput_ob (c := (Fa 172)) xi_172 rfl (xsh_9 xo_172)) (fun _ => rfl) (fun _ => rfl) (Nat.le_of_ble_eq_true rfl) rfl k9) ?_
        refine qy (fun _ _ k9 => z_eq rfl rfl (xput_sf (c := (qup (Fa 172) 5 (((Fa 172) 5) + 1))) xi_172 (xsh_9 xo_172)) k9) ?_
        refine qy (fun _ _ k9 => z_aload_n d_X9_tryCase_72 rfl rfl k9) ?_
        refine qy (fun _ _ k9 => z_getf (v := qI ((Fa 172) 6)) d_X9_tryCase_73 fl_X9_39 (xput_ob (c := (qup (Fa 172) 5 (((Fa 172) 5) + 1))) xi_172 rfl (xsh_9 xo_172)) rfl k9) ?_
        refine qy (fun _ _ k9 => z_iconst d_X9_tryCase_76 (by decide) k9) ?_
        refine qy2 (fun _ _ => z_icmp_ne 111 d_X9_tryCase_77 (by decide)) (fun q77 => ?_) (fun q77 => ?_)
        · refine qy (fun _ _ k9 => z_iinc (ls' := [qR 172, qI (c : Int), qI (to : Int), qI (T c), qI ((m : Int) + 1)]) d_X9_tryCase_111 rfl (by decide) (by omega) rfl k9) ?_
          refine qy (fun _ _ k9 => z_goto 13 d_X9_tryCase_114 (by decide) k9) ?_
          exact qy (fun _ _ k9 => z_eq (qc rfl (qc rfl (qc rfl (qc rfl (qc (qi (by omega)) rfl))))) rfl rfl k9) (kk (m + 1) (m : Int) (gup Fa 172 (qup (Fa 172) 5 (((Fa 172) 5) + 1))) (gup Ga 183 (qup (Ga 183) c (m : Int))) (⟨by omega, tfr_tr (tfr_tr hfr tfr_g) tfr_5, (fun q hq => by rw [gup_eq]; exact hup q hq), (by rw [gup_eq]; show Fa 172 5 + 1 = _; rw [hf5]; exact (cnt_t (p := moP T to) hmo).symm), (by rw [gup_eq]; show Fa 172 6 = qif (moP T to (8 * c + m) ∧ cnt (moP T to) (8 * c + m) = 0) (moC (8 * c + m)) (moF T to (8 * c + m)); rw [hf6, qif_f (fun z => q77 (by have := (mo_none (T := T) (to := to) (8 * c + m)).mpr z.2; omega))])⟩) (by omega))
        · refine qy (fun _ _ k9 => z_aload_n d_X9_tryCase_80 rfl rfl k9) ?_
          refine qy (fun _ _ k9 => z_sipush d_X9_tryCase_81 (by decide) k9) ?_
          refine qy (fun _ _ k9 => z_iload_n d_X9_tryCase_84 rfl rfl k9) ?_
          refine qy (fun _ _ k9 => z_cs (M1 := M_X11_ownOf) d_X9_tryCase_85 ls_X9_130 k_X11_ownOf [qI (c : Int)] rfl rfl (Nat.le_of_ble_eq_true rfl) (by decide) (by decide) (Nat.le_of_ble_eq_true rfl) (z_end (c_ownOf (c : Int) (by omega)) (show _ = some (qI (((c / 81) : Nat) : Int)) from congrArg (fun z => some (qI z)) (by omega)) rfl) k9) ?_
          refine qy (fun _ _ k9 => z_imul d_X9_tryCase_88 (by omega) k9) ?_
          refine qy (fun _ _ k9 => z_bipush d_X9_tryCase_89 (by decide) k9) ?_
          refine qy (fun _ _ k9 => z_iload_n d_X9_tryCase_91 rfl rfl k9) ?_
          refine qy (fun _ _ k9 => z_cs (M1 := M_X11_leftOf) d_X9_tryCase_92 ls_X9_134 k_X11_leftOf [qI (c : Int)] rfl rfl (Nat.le_of_ble_eq_true rfl) (by decide) (by decide) (Nat.le_of_ble_eq_true rfl) (z_end (c_leftOf (c : Int) (by omega)) (show _ = some (qI (((c / 9 % 9) : Nat) : Int)) from congrArg (fun z => some (qI z)) (by omega)) rfl) k9) ?_
          refine qy (fun _ _ k9 => z_imul d_X9_tryCase_95 (by omega) k9) ?_
          refine qy (fun _ _ k9 => z_iadd d_X9_tryCase_96 (by omega) k9) ?_
          refine qy (fun _ _ k9 => z_bipush d_X9_tryCase_97 (by decide) k9) ?_
          refine qy (fun _ _ k9 => z_iload_n d_X9_tryCase_99 rfl rfl k9) ?_
          refine qy (fun _ _ k9 => z_cs (M1 := M_X11_rightOf) d_X9_tryCase_100 ls_X9_137 k_X11_rightOf [qI (c : Int)] rfl rfl (Nat.le_of_ble_eq_true rfl) (by decide) (by decide) (Nat.le_of_ble_eq_true rfl) (z_end (c_rightOf (c : Int) (by omega)) (show _ = some (qI (((c % 9) : Nat) : Int)) from congrArg (fun z => some (qI z)) (by omega)) rfl) k9) ?_
          refine qy (fun _ _ k9 => z_imul d_X9_tryCase_103 (by omega) k9) ?_
          refine qy (fun _ _ k9 => z_iadd d_X9_tryCase_104 (by omega) k9) ?_
          refine qy (fun _ _ k9 => z_iload d_X9_tryCase_105 rfl k9) ?_
          refine qy (fun _ _ k9 => z_iadd d_X9_tryCase_107 (by omega) k9) ?_
          refine qy (fun _ _ k9 => z_putf (fs' := [qR 173, qR 177, qR 181, qR 205, qI ((Fa 172) 4), qI (((Fa 172) 5) + 1), qI ((((1000 * (((c / 81) : Nat) : Int)) + (100 * (((c / 9 % 9) : Nat) : Int))) + (10 * (((c % 9) : Nat) : Int))) + (m : Int))]) d_X9_tryCase_108 fp_X9_39 (xput_ob (c := (qup (Fa 172) 5 (((Fa 172) 5) + 1))) xi_172 rfl (xsh_9 xo_172)) (fun _ => rfl) (fun _ => rfl) (Nat.le_of_ble_eq_true rfl) rfl k9) ?_
          refine qy (fun _ _ k9 => z_eq rfl rfl ((xput_sf (c := (qup (qup (Fa 172) 5 (((Fa 172) 5) + 1)) 6 ((((1000 * (((c / 81) : Nat) : Int)) + (100 * (((c / 9 % 9) : Nat) : Int))) + (10 * (((c % 9) : Nat) : Int))) + (m : Int)))) xi_172 (xsh_9 xo_172)).trans (xput_cg (gup_gup _ _ _) rfl)) k9) ?_
          refine qy (fun _ _ k9 => z_iinc (ls' := [qR 172, qI (c : Int), qI (to : Int), qI (T c), qI ((m : Int) + 1)]) d_X9_tryCase_111 rfl (by decide) (by omega) rfl k9) ?_
          refine qy (fun _ _ k9 => z_goto 13 d_X9_tryCase_114 (by decide) k9) ?_
          exact qy (fun _ _ k9 => z_eq (qc rfl (qc rfl (qc rfl (qc rfl (qc (qi (by omega)) rfl))))) rfl rfl k9) (kk (m + 1) (m : Int) (gup Fa 172 (qup (qup (Fa 172) 5 (((Fa 172) 5) + 1)) 6 ((((1000 * (((c / 81) : Nat) : Int)) + (100 * (((c / 9 % 9) : Nat) : Int))) + (10 * (((c % 9) : Nat) : Int))) + (m : Int)))) (gup Ga 183 (qup (Ga 183) c (m : Int))) (⟨by omega, tfr_tr (tfr_tr hfr tfr_g) tfr_56, (fun q hq => by rw [gup_eq]; exact hup q hq), (by rw [gup_eq]; show Fa 172 5 + 1 = _; rw [hf5]; exact (cnt_t (p := moP T to) hmo).symm), (by rw [gup_eq]; show _ = qif (moP T to (8 * c + m) ∧ cnt (moP T to) (8 * c + m) = 0) (moC (8 * c + m)) (moF T to (8 * c + m)); rw [qif_t ⟨hmo, (mo_none (8 * c + m)).mp (by omega)⟩]; show 1000 * ((c / 81 : Nat) : Int) + 100 * ((c / 9 % 9 : Nat) : Int) + 10 * ((c % 9 : Nat) : Int) + (m : Int) = moC (8 * c + m); unfold moC; rw [show (8 * c + m) / 8 = c by omega, show (8 * c + m) % 8 = m by omega])⟩) (by omega))
      · refine qy (fun _ _ k9 => z_aload_n d_X9_tryCase_46 rfl rfl k9) ?_
        refine qy (fun _ _ k9 => z_aload_n d_X9_tryCase_47 rfl rfl k9) ?_
        refine qy (fun _ _ k9 => z_getf (v := qR 181) d_X9_tryCase_48 fl_X9_24 (xput_ob (c := (Fa 172)) xi_172 rfl (xsh_9 xo_172)) rfl k9) ?_
        refine qy (fun _ _ k9 => z_getf (v := qR 183) d_X9_tryCase_51 fl_X9_110 (xput_ob (c := (Fa 181)) xi_181 rfl (xsh_0 xo_181)) rfl k9) ?_
        refine qy (fun _ _ k9 => z_iload_n d_X9_tryCase_54 rfl rfl k9) ?_
        obtain ⟨F1, G1, ⟨hv1, -⟩, hx1⟩ := xc_firstBad (h := h) (F := Fa) (G := (gup Ga 183 (qup (Ga 183) c (m : Int)))) (d := 183) (to := to) (T := (qup T c (m : Int))) xa_183 (by decide) (by omega) (fun q hq => by rw [gup_eq]; exact hup q hq) (qup_bd hB (by omega))
        refine qy (fun _ _ k9 => z_cv (M1 := M_X9_firstBad) d_X9_tryCase_55 lv_X9_113 k_X9_firstBad [qR 183, qI (to : Int)] rfl rfl (xput_ob (c := (Fa 172)) xi_172 rfl (xsh_9 xo_172)) ⟨_, _, rfl⟩ (Nat.le_of_ble_eq_true rfl) (by decide) (by decide) (Nat.le_of_ble_eq_true rfl) hx1 k9) ?_
        refine qy (fun _ _ k9 => z_iconst d_X9_tryCase_58 (by decide) k9) ?_
        refine qy2 (fun _ _ => z_icmp_ne 111 d_X9_tryCase_59 (by decide)) (fun q59 => ?_) (fun q59 => ?_)
        · have hmo : ¬ moP T to (8 * c + m) := by unfold moP; rw [show (8 * c + m) / 8 = c by omega, show (8 * c + m) % 8 = m by omega]; exact fun z => q59 z.2
          have e172_1 : F1 172 = Fa 172 := xfr_F hv1 (by decide)
          refine qy (fun _ _ k9 => z_iinc (ls' := [qR 172, qI (c : Int), qI (to : Int), qI (T c), qI ((m : Int) + 1)]) d_X9_tryCase_111 rfl (by decide) (by omega) rfl k9) ?_
          refine qy (fun _ _ k9 => z_goto 13 d_X9_tryCase_114 (by decide) k9) ?_
          exact qy (fun _ _ k9 => z_eq (qc rfl (qc rfl (qc rfl (qc rfl (qc (qi (by omega)) rfl))))) rfl rfl k9) (kk (m + 1) (m : Int) F1 G1 (⟨by omega, tfr_tr (tfr_tr hfr tfr_g) (tfr_x hv1), (fun q hq => by rw [xfr_G hv1 (by decide), gup_eq]; exact hup q hq), (by rw [e172_1, hf5]; exact (cnt_f (p := moP T to) hmo).symm), (by rw [e172_1, hf6]; exact (show qif (moP T to (8 * c + m) ∧ cnt (moP T to) (8 * c + m) = 0) (moC (8 * c + m)) (moF T to (8 * c + m)) = _ from qif_f (fun z => hmo z.1)).symm)⟩) (by omega))
        · have hmo : moP T to (8 * c + m) := by unfold moP; rw [show (8 * c + m) / 8 = c by omega, show (8 * c + m) % 8 = m by omega]; exact ⟨fun z => q34 (by omega), Classical.not_not.mp q59⟩
          have e172_1 : F1 172 = Fa 172 := xfr_F hv1 (by decide)
          have e5 : F1 172 5 = cnt (moP T to) (8 * c + m) := by rw [e172_1]; exact hf5
          have hcn := cnt_bd (moP T to) (8 * c + m)
          have e6 : F1 172 6 = moF T to (8 * c + m) := by rw [e172_1]; exact hf6
          refine qy (fun _ _ k9 => z_aload_n d_X9_tryCase_62 rfl rfl k9) ?_
          refine qy (fun _ _ k9 => z_dup d_X9_tryCase_63 rfl k9) ?_
          refine qy (fun _ _ k9 => z_getf (v := qI ((F1 172) 5)) d_X9_tryCase_64 fl_X9_36 (xput_ob (c := (F1 172)) xi_172 rfl (xsh_9 xo_172)) rfl k9) ?_
          refine qy (fun _ _ k9 => z_iconst d_X9_tryCase_67 (by decide) k9) ?_
          refine qy (fun _ _ k9 => z_iadd d_X9_tryCase_68 (by omega) k9) ?_
          refine qy (fun _ _ k9 => z_putf (fs' := [qR 173, qR 177, qR 181, qR 205, qI ((F1 172) 4), qI (((F1 172) 5) + 1), qI ((F1 172) 6)]) d_X9_tryCase_69 fp_X9_36 (xput_ob (c := (F1 172)) xi_172 rfl (xsh_9 xo_172)) (fun _ => rfl) (fun _ => rfl) (Nat.le_of_ble_eq_true rfl) rfl k9) ?_
          refine qy (fun _ _ k9 => z_eq rfl rfl (xput_sf (c := (qup (F1 172) 5 (((F1 172) 5) + 1))) xi_172 (xsh_9 xo_172)) k9) ?_
          refine qy (fun _ _ k9 => z_aload_n d_X9_tryCase_72 rfl rfl k9) ?_
          refine qy (fun _ _ k9 => z_getf (v := qI ((F1 172) 6)) d_X9_tryCase_73 fl_X9_39 (xput_ob (c := (qup (F1 172) 5 (((F1 172) 5) + 1))) xi_172 rfl (xsh_9 xo_172)) rfl k9) ?_
          refine qy (fun _ _ k9 => z_iconst d_X9_tryCase_76 (by decide) k9) ?_
          refine qy2 (fun _ _ => z_icmp_ne 111 d_X9_tryCase_77 (by decide)) (fun q77 => ?_) (fun q77 => ?_)
          · refine qy (fun _ _ k9 => z_iinc (ls' := [qR 172, qI (c : Int), qI (to : Int), qI (T c), qI ((m : Int) + 1)]) d_X9_tryCase_111 rfl (by decide) (by omega) rfl k9) ?_
            refine qy (fun _ _ k9 => z_goto 13 d_X9_tryCase_114 (by decide) k9) ?_
            exact qy (fun _ _ k9 => z_eq (qc rfl (qc rfl (qc rfl (qc rfl (qc (qi (by omega)) rfl))))) rfl rfl k9) (kk (m + 1) (m : Int) (gup F1 172 (qup (F1 172) 5 (((F1 172) 5) + 1))) G1 (⟨by omega, tfr_tr (tfr_tr (tfr_tr hfr tfr_g) (tfr_x hv1)) tfr_5, (fun q hq => by rw [xfr_G hv1 (by decide), gup_eq]; exact hup q hq), (by rw [gup_eq]; show F1 172 5 + 1 = _; rw [e172_1, hf5]; exact (cnt_t (p := moP T to) hmo).symm), (by rw [gup_eq]; show F1 172 6 = qif (moP T to (8 * c + m) ∧ cnt (moP T to) (8 * c + m) = 0) (moC (8 * c + m)) (moF T to (8 * c + m)); rw [e172_1, hf6, qif_f (fun z => q77 (by have := (mo_none (T := T) (to := to) (8 * c + m)).mpr z.2; omega))])⟩) (by omega))
          · refine qy (fun _ _ k9 => z_aload_n d_X9_tryCase_80 rfl rfl k9) ?_
            refine qy (fun _ _ k9 => z_sipush d_X9_tryCase_81 (by decide) k9) ?_
            refine qy (fun _ _ k9 => z_iload_n d_X9_tryCase_84 rfl rfl k9) ?_
            refine qy (fun _ _ k9 => z_cs (M1 := M_X11_ownOf) d_X9_tryCase_85 ls_X9_130 k_X11_ownOf [qI (c : Int)] rfl rfl (Nat.le_of_ble_eq_true rfl) (by decide) (by decide) (Nat.le_of_ble_eq_true rfl) (z_end (c_ownOf (c : Int) (by omega)) (show _ = some (qI (((c / 81) : Nat) : Int)) from congrArg (fun z => some (qI z)) (by omega)) rfl) k9) ?_
            refine qy (fun _ _ k9 => z_imul d_X9_tryCase_88 (by omega) k9) ?_
            refine qy (fun _ _ k9 => z_bipush d_X9_tryCase_89 (by decide) k9) ?_
            refine qy (fun _ _ k9 => z_iload_n d_X9_tryCase_91 rfl rfl k9) ?_
            refine qy (fun _ _ k9 => z_cs (M1 := M_X11_leftOf) d_X9_tryCase_92 ls_X9_134 k_X11_leftOf [qI (c : Int)] rfl rfl (Nat.le_of_ble_eq_true rfl) (by decide) (by decide) (Nat.le_of_ble_eq_true rfl) (z_end (c_leftOf (c : Int) (by omega)) (show _ = some (qI (((c / 9 % 9) : Nat) : Int)) from congrArg (fun z => some (qI z)) (by omega)) rfl) k9) ?_
            refine qy (fun _ _ k9 => z_imul d_X9_tryCase_95 (by omega) k9) ?_
            refine qy (fun _ _ k9 => z_iadd d_X9_tryCase_96 (by omega) k9) ?_
            refine qy (fun _ _ k9 => z_bipush d_X9_tryCase_97 (by decide) k9) ?_
            refine qy (fun _ _ k9 => z_iload_n d_X9_tryCase_99 rfl rfl k9) ?_
            refine qy (fun _ _ k9 => z_cs (M1 := M_X11_rightOf) d_X9_tryCase_100 ls_X9_137 k_X11_rightOf [qI (c : Int)] rfl rfl (Nat.le_of_ble_eq_true rfl) (by decide) (by decide) (Nat.le_of_ble_eq_true rfl) (z_end (c_rightOf (c : Int) (by omega)) (show _ = some (qI (((c % 9) : Nat) : Int)) from congrArg (fun z => some (qI z)) (by omega)) rfl) k9) ?_
            refine qy (fun _ _ k9 => z_imul d_X9_tryCase_103 (by omega) k9) ?_
            refine qy (fun _ _ k9 => z_iadd d_X9_tryCase_104 (by omega) k9) ?_
            refine qy (fun _ _ k9 => z_iload d_X9_tryCase_105 rfl k9) ?_
            refine qy (fun _ _ k9 => z_iadd d_X9_tryCase_107 (by omega) k9) ?_
            refine qy (fun _ _ k9 => z_putf (fs' := [qR 173, qR 177, qR 181, qR 205, qI ((F1 172) 4), qI (((F1 172) 5) + 1), qI ((((1000 * (((c / 81) : Nat) : Int)) + (100 * (((c / 9 % 9) : Nat) : Int))) + (10 * (((c % 9) : Nat) : Int))) + (m : Int))]) d_X9_tryCase_108 fp_X9_39 (xput_ob (c := (qup (F1 172) 5 (((F1 172) 5) + 1))) xi_172 rfl (xsh_9 xo_172)) (fun _ => rfl) (fun _ => rfl) (Nat.le_of_ble_eq_true rfl) rfl k9) ?_
            refine qy (fun _ _ k9 => z_eq rfl rfl ((xput_sf (c := (qup (qup (F1 172) 5 (((F1 172) 5) + 1)) 6 ((((1000 * (((c / 81) : Nat) : Int)) + (100 * (((c / 9 % 9) : Nat) : Int))) + (10 * (((c % 9) : Nat) : Int))) + (m : Int)))) xi_172 (xsh_9 xo_172)).trans (xput_cg (gup_gup _ _ _) rfl)) k9) ?_
            refine qy (fun _ _ k9 => z_iinc (ls' := [qR 172, qI (c : Int), qI (to : Int), qI (T c), qI ((m : Int) + 1)]) d_X9_tryCase_111 rfl (by decide) (by omega) rfl k9) ?_
            refine qy (fun _ _ k9 => z_goto 13 d_X9_tryCase_114 (by decide) k9) ?_
            exact qy (fun _ _ k9 => z_eq (qc rfl (qc rfl (qc rfl (qc rfl (qc (qi (by omega)) rfl))))) rfl rfl k9) (kk (m + 1) (m : Int) (gup F1 172 (qup (qup (F1 172) 5 (((F1 172) 5) + 1)) 6 ((((1000 * (((c / 81) : Nat) : Int)) + (100 * (((c / 9 % 9) : Nat) : Int))) + (10 * (((c % 9) : Nat) : Int))) + (m : Int)))) G1 (⟨by omega, tfr_tr (tfr_tr (tfr_tr hfr tfr_g) (tfr_x hv1)) tfr_56, (fun q hq => by rw [xfr_G hv1 (by decide), gup_eq]; exact hup q hq), (by rw [gup_eq]; show F1 172 5 + 1 = _; rw [e172_1, hf5]; exact (cnt_t (p := moP T to) hmo).symm), (by rw [gup_eq]; show _ = qif (moP T to (8 * c + m) ∧ cnt (moP T to) (8 * c + m) = 0) (moC (8 * c + m)) (moF T to (8 * c + m)); rw [qif_t ⟨hmo, (mo_none (8 * c + m)).mp (by omega)⟩]; show 1000 * ((c / 81 : Nat) : Int) + 100 * ((c / 9 % 9 : Nat) : Int) + 10 * ((c % 9 : Nat) : Int) + (m : Int) = moC (8 * c + m); unfold moC; rw [show (8 * c + m) / 8 = c by omega, show (8 * c + m) % 8 = m by omega])⟩) (by omega))
