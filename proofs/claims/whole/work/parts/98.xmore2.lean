/-! ===== CONTRACTS: trials: tryOneRuleMore, firstUnlike ===== -/
theorem fbN_q {T : Nat → Int} {to : Nat} : qif (fbR T to ≠ -1) (fbR T to) (to : Int) = (fbN T to : Int) := by
  by_cases c : fbR T to = -1
  · rw [qif_f (fun z => z c)]
    unfold fbN
    have : fbF T to = -1 := by
      unfold fbR at c
      by_cases d : fbF T to = -1
      · exact d
      · rw [qif_f d] at c
        rcases fst_cases (fun k => ¬ goodR T (k + 1)) to with ⟨e, _⟩ | ⟨i, hi, e2, _⟩
        · exact e
        · have e3 : fbF T to = (i : Int) := e2
          omega
    rw [this, if_pos rfl]
  · rw [qif_t c]; exact (fbR_N c).1
theorem fbN_le {T : Nat → Int} {to : Nat} : fbN T to ≤ to := by
  by_cases c : fbR T to = -1
  · have := fbN_q (T := T) (to := to)
    rw [qif_f (fun z => z c)] at this
    omega
  · exact (fbR_N c).2.2
theorem mo_skip {T : Nat → Int} {to k : Nat} : ∀ j, (∀ m, m < j → ¬ moP T to (k + m)) → cnt (moP T to) (k + j) = cnt (moP T to) k ∧ moF T to (k + j) = moF T to k
  | 0, _ => ⟨rfl, rfl⟩
  | j + 1, h => by
    obtain ⟨a, b⟩ := mo_skip j (fun m hm => h m (by omega))
    have hj := h j (by omega)
    exact ⟨(cnt_f hj).trans a, (show qif (moP T to (k + j) ∧ cnt (moP T to) (k + j) = 0) (moC (k + j)) (moF T to (k + j)) = _ from qif_f (fun z => hj z.1)).trans b⟩
set_option maxRecDepth 20000 in
set_option maxHeartbeats 4000000 in
theorem c_tryMore {h : qH} {F G : Nat → Nat → Int} {b to : Nat} {T : Nat → Int} {S0 : Nat → Prop} (hb2 : 2 ≤ b) (hb : xk b = 0) (hbl : b + 23 < 172) (ht : to ≤ 24) (hT : ∀ c, c < 648 → G (b + 2) c = T c) (hB : ∀ c, c < 648 → 0 ≤ T c ∧ T c ≤ 7) (hT7 : ∀ c, 567 ≤ c → c < 648 → T c = 7) (hth : thi G) (h4 : F 172 4 = bst S0) : ∃ F' G', (xfr 172 205 F G F' G' ∧ thi G' ∧ F' 172 5 = cnt (moP T to) 4536 ∧ F' 172 6 = moF T to 4536 ∧ ∃ S, F' 172 4 = bst S) ∧ qEx M_X9_tryOneRuleMore 0 [qR 172, qR b, qI (to : Int), qU, qU] [] (xput h F G) none (xput h F' G') := by
  refine x_in (fun Q hQ => ?_)
  have hle := fbN_le (T := T) (to := to)
  refine qy (fun _ _ k9 => z_aload_n d_X9_tryOneRuleMore_0 rfl rfl k9) ?_
  refine qy (fun _ _ k9 => z_getf (v := qR 205) d_X9_tryOneRuleMore_1 fl_X9_28 (xput_ob (c := (F 172)) xi_172 rfl (xsh_9 xo_172)) rfl k9) ?_
  refine qy (fun _ _ k9 => z_iconst d_X9_tryOneRuleMore_4 (by decide) k9) ?_
  refine qy (fun _ _ k9 => z_cs0 (M1 := M_J7_fill_53178) d_X9_tryOneRuleMore_5 ls_X9_54 k_J7_fill_53178 [qR 205, qI 0] rfl rfl (Nat.le_of_ble_eq_true rfl) (by decide) (by decide) (Nat.le_of_ble_eq_true rfl) (c_fill (xput_ar (g := (G 205)) xa_205 rfl) (by decide) (by decide)) k9) ?_
  refine qy (fun _ _ k9 => z_eq rfl rfl (xput_sa xa_205) k9) ?_
  refine qy (fun _ _ k9 => z_aload_n d_X9_tryOneRuleMore_8 rfl rfl k9) ?_
  refine qy (fun _ _ k9 => z_aload_n d_X9_tryOneRuleMore_9 rfl rfl k9) ?_
  refine qy (fun _ _ k9 => z_getf (v := qR (b + 2)) d_X9_tryOneRuleMore_10 fl_X9_110 (xput_ob (c := (F b)) (bkx_in hb2 hb) rfl (xsh_0 hb)) rfl k9) ?_
  refine qy (fun _ _ k9 => z_iload_n d_X9_tryOneRuleMore_13 rfl rfl k9) ?_
  obtain ⟨F1, G1, ⟨hv1, -⟩, hx1⟩ := xc_firstBad (h := h) (F := F) (G := (gup G 205 (qmx 648 (fun _ => 0) (G 205)))) (d := b + 2) (to := to) (T := T) (bkx_2 hb2 hb) (by omega) (by omega) (fun c hc => by rw [gup_ne (by omega)]; exact hT c hc) hB
  refine qy (fun _ _ k9 => z_cv (M1 := M_X9_firstBad) d_X9_tryOneRuleMore_14 lv_X9_113 k_X9_firstBad [qR (b + 2), qI (to : Int)] rfl rfl (xput_ob (c := (F 172)) xi_172 rfl (xsh_9 xo_172)) ⟨_, _, rfl⟩ (Nat.le_of_ble_eq_true rfl) (by decide) (by decide) (Nat.le_of_ble_eq_true rfl) hx1 k9) ?_
  refine qy (fun _ _ k9 => z_istore_n (ls' := [qR 172, qR b, qI (to : Int), qI (fbR T to), qU]) d_X9_tryOneRuleMore_17 rfl (by decide) rfl k9) ?_
  refine qy (fun _ _ k9 => z_iconst d_X9_tryOneRuleMore_18 (by decide) k9) ?_
  refine qy (fun _ _ k9 => z_istore (ls' := [qR 172, qR b, qI (to : Int), qI (fbR T to), qI 1]) d_X9_tryOneRuleMore_19 (by decide) rfl k9) ?_
  refine qy (fun _ _ k9 => z_eq (qc rfl (qc rfl (qc rfl (qc rfl (qc (qi (rfl)) rfl))))) rfl rfl k9) (y_wh4 (fun (i : Nat) (S : Nat → Prop) (Fa : Nat → Nat → Int) (Ga : Nat → Nat → Int) => (fbN T to) - i) (fun (i : Nat) (S : Nat → Prop) (Fa : Nat → Nat → Int) (Ga : Nat → Nat → Int) => [qR 172, qR b, qI (to : Int), qI (fbR T to), qI (((i + 1) : Nat) : Int)]) (fun (i : Nat) (S : Nat → Prop) (Fa : Nat → Nat → Int) (Ga : Nat → Nat → Int) => (xput h Fa Ga)) (fun (i : Nat) (S : Nat → Prop) (Fa : Nat → Nat → Int) (Ga : Nat → Nat → Int) => i ≤ (fbN T to) ∧ nfr F G Fa Ga ∧ Fa 172 4 = bst S ∧ ∀ c, c < 648 → Ga 205 c = qb (usA T i c)) 0 S0 F1 G1 (⟨by omega, nfr_tr nfr_5 (nfr_x hv1), by rw [xfr_F hv1 (by decide)]; exact h4, fun c hc => by rw [xfr_G hv1 (by decide), gup_eq, qmx_lt hc]; exact (qb_f (fun z => z)).symm⟩) (fun i S Fa Ga hp k1 => ?_))
  obtain ⟨hi, hfr, hms, hak⟩ := hp
  show qEy M_X9_tryOneRuleMore 21 [qR 172, qR b, qI (to : Int), qI (fbR T to), qI (((i + 1) : Nat) : Int)] [] (xput h Fa Ga) Q
  refine qy (fun _ _ k9 => z_iload d_X9_tryOneRuleMore_21 rfl k9) ?_
  refine qy (fun _ _ k9 => z_iload_n d_X9_tryOneRuleMore_23 rfl rfl k9) ?_
  refine qy (fun _ _ k9 => z_iconst d_X9_tryOneRuleMore_24 (by decide) k9) ?_
  suffices kJ25 : qEy M_X9_tryOneRuleMore 33 [qR 172, qR b, qI (to : Int), qI (fbR T to), qI (((i + 1) : Nat) : Int)] [qI (qif ((fbR T to) ≠ (-1)) (fbR T to) (to : Int)), qI (((i + 1) : Nat) : Int)] (xput h Fa Ga) Q by
    refine qy2 (fun _ _ => z_icmp_ne 32 d_X9_tryOneRuleMore_25 (by decide)) (fun pq1 => ?_) (fun pq1 => ?_)
    · refine qy (fun _ _ k9 => z_iload_n d_X9_tryOneRuleMore_32 rfl rfl k9) ?_
      exact qy (fun _ _ k9 => z_eq rfl (qc (qi (qif_t pq1).symm) (qc rfl rfl)) rfl k9) kJ25
    · refine qy (fun _ _ k9 => z_iload_n d_X9_tryOneRuleMore_28 rfl rfl k9) ?_
      refine qy (fun _ _ k9 => z_goto 33 d_X9_tryOneRuleMore_29 (by decide) k9) ?_
      exact qy (fun _ _ k9 => z_eq rfl (qc (qi (qif_f pq1).symm) (qc rfl rfl)) rfl k9) kJ25
  refine qy (fun _ _ k9 => z_eq rfl (qc (qi (show (qif ((fbR T to) ≠ (-1)) (fbR T to) (to : Int)) = ((fbN T to : Nat) : Int) from fbN_q)) rfl) rfl k9) ?_
  refine qy2 (fun _ _ => z_icmp_gt 52 d_X9_tryOneRuleMore_33 (by decide)) (fun pq2 => ?_) (fun pq2 => ?_)
  · refine qy (fun _ _ k9 => z_aload_n d_X9_tryOneRuleMore_52 rfl rfl k9) ?_
    refine qy (fun _ _ k9 => z_getf (v := qR (b + 2)) d_X9_tryOneRuleMore_53 fl_X9_110 (xput_ob (c := (Fa b)) (bkx_in hb2 hb) rfl (xsh_0 hb)) rfl k9) ?_
    refine qy (fun _ _ k9 => z_iconst d_X9_tryOneRuleMore_56 (by decide) k9) ?_
    refine qy (fun _ _ k9 => z_aload_n d_X9_tryOneRuleMore_57 rfl rfl k9) ?_
    refine qy (fun _ _ k9 => z_getf (v := qR 181) d_X9_tryOneRuleMore_58 fl_X9_24 (xput_ob (c := (Fa 172)) xi_172 rfl (xsh_9 xo_172)) rfl k9) ?_
    refine qy (fun _ _ k9 => z_getf (v := qR 183) d_X9_tryOneRuleMore_61 fl_X9_110 (xput_ob (c := (Fa 181)) xi_181 rfl (xsh_0 xo_181)) rfl k9) ?_
    refine qy (fun _ _ k9 => z_iconst d_X9_tryOneRuleMore_64 (by decide) k9) ?_
    refine qy (fun _ _ k9 => z_sipush d_X9_tryOneRuleMore_65 (by decide) k9) ?_
    refine qy (fun _ _ k9 => z_copy d_X9_tryOneRuleMore_68 lc_X9_120 (by decide) (Nat.le_of_ble_eq_true rfl) (xput_ar (g := (Ga (b + 2))) (bkx_2 hb2 hb) rfl) (xput_ar (g := (Ga 183)) xa_183 rfl) (by omega) (by omega) (by omega) (by omega) (by omega) (by omega) (by omega) k9) ?_
    refine qy (fun _ _ k9 => z_eq rfl rfl (xput_sa xa_183) k9) ?_
    refine qy (fun _ _ k9 => z_aload_n d_X9_tryOneRuleMore_71 rfl rfl k9) ?_
    refine qy (fun _ _ k9 => z_iconst d_X9_tryOneRuleMore_72 (by decide) k9) ?_
    refine qy (fun _ _ k9 => z_putf (fs' := [qR 173, qR 177, qR 181, qR 205, qI ((Fa 172) 4), qI 0, qI ((Fa 172) 6)]) d_X9_tryOneRuleMore_73 fp_X9_36 (xput_ob (c := (Fa 172)) xi_172 rfl (xsh_9 xo_172)) (fun _ => rfl) (fun _ => rfl) (Nat.le_of_ble_eq_true rfl) rfl k9) ?_
    refine qy (fun _ _ k9 => z_eq rfl rfl (xput_sf (c := (qup (Fa 172) 5 0)) xi_172 (xsh_9 xo_172)) k9) ?_
    refine qy (fun _ _ k9 => z_aload_n d_X9_tryOneRuleMore_76 rfl rfl k9) ?_
    refine qy (fun _ _ k9 => z_iconst d_X9_tryOneRuleMore_77 (by decide) k9) ?_
    refine qy (fun _ _ k9 => z_putf (fs' := [qR 173, qR 177, qR 181, qR 205, qI ((Fa 172) 4), qI 0, qI (-1)]) d_X9_tryOneRuleMore_78 fp_X9_39 (xput_ob (c := (qup (Fa 172) 5 0)) xi_172 rfl (xsh_9 xo_172)) (fun _ => rfl) (fun _ => rfl) (Nat.le_of_ble_eq_true rfl) rfl k9) ?_
    refine qy (fun _ _ k9 => z_eq rfl rfl ((xput_sf (c := (qup (qup (Fa 172) 5 0) 6 (-1))) xi_172 (xsh_9 xo_172)).trans (xput_cg (gup_gup _ _ _) rfl)) k9) ?_
    refine qy (fun _ _ k9 => z_iconst d_X9_tryOneRuleMore_81 (by decide) k9) ?_
    refine qy (fun _ _ k9 => z_istore (ls' := [qR 172, qR b, qI (to : Int), qI (fbR T to), qI 0]) d_X9_tryOneRuleMore_82 (by decide) rfl k9) ?_
    have hak2 : ∀ c, c < 648 → Ga 205 c = qb (usA T (fbN T to) c) := fun c hc => by rw [hak c hc, show i = (fbN T to) by omega]
    refine qy (fun _ _ k9 => z_eq (qc rfl (qc rfl (qc rfl (qc rfl (qc (qi (rfl)) rfl))))) rfl rfl k9) (y_wh3 (fun (c : Nat) (Fb : Nat → Nat → Int) (Gb : Nat → Nat → Int) => 567 - c) (fun (c : Nat) (Fb : Nat → Nat → Int) (Gb : Nat → Nat → Int) => [qR 172, qR b, qI (to : Int), qI (fbR T to), qI (c : Int)]) (fun (c : Nat) (Fb : Nat → Nat → Int) (Gb : Nat → Nat → Int) => (xput h Fb Gb)) (fun (c : Nat) (Fb : Nat → Nat → Int) (Gb : Nat → Nat → Int) => c ≤ 567 ∧ tfr (gup Fa 172 (qup (qup (Fa 172) 5 0) 6 (-1))) (gup Ga 183 (qcpy (Ga (b + 2)) (Ga 183) (Int.toNat 0) (Int.toNat 0) (Int.toNat 648))) Fb Gb ∧ (∀ q, q < 648 → Gb 183 q = T q) ∧ Fb 172 5 = cnt (moP T to) (8 * c) ∧ Fb 172 6 = moF T to (8 * c)) 0 (gup Fa 172 (qup (qup (Fa 172) 5 0) 6 (-1))) (gup Ga 183 (qcpy (Ga (b + 2)) (Ga 183) (Int.toNat 0) (Int.toNat 0) (Int.toNat 648))) (⟨by omega, tfr_rf _ _, fun q hq => by rw [gup_eq]; exact (qcpy0 hq).trans (by rw [hfr.2.1 (b + 2) (by omega) (by omega)]; exact hT q hq), rfl, rfl⟩) (fun c Fb Gb hpp k2 => ?_))
    obtain ⟨hc5, hft, hg3, hf5, hf6⟩ := hpp
    show qEy M_X9_tryOneRuleMore 84 [qR 172, qR b, qI (to : Int), qI (fbR T to), qI (c : Int)] [] (xput h Fb Gb) Q
    have e205 : ∀ c, c < 648 → Gb 205 c = qb (usA T (fbN T to) c) := fun c hc => by rw [hft.2.1 205 (by decide) (by decide), gup_ne (by decide)]; exact hak2 c hc
    refine qy (fun _ _ k9 => z_iload d_X9_tryOneRuleMore_84 rfl k9) ?_
    refine qy (fun _ _ k9 => z_sipush d_X9_tryOneRuleMore_86 (by decide) k9) ?_
    refine qy2 (fun _ _ => z_icmp_ge 120 d_X9_tryOneRuleMore_89 (by decide)) (fun pq3 => ?_) (fun pq3 => ?_)
    · exact y_ret (hQ Fb Gb (⟨(fun a ha => ⟨(hft.1 a (by omega)).trans ((gup_ne (by omega)).trans (hfr.1 a (by omega))), (hft.2.1 a (by omega) (by omega)).trans ((gup_ne (by omega)).trans (hfr.2.1 a (by omega) (by omega)))⟩), fun c h1 h2 => ⟨(hg3 c h2).trans (hT7 c h1 h2), by rw [hft.2.1 184 (by decide) (by decide), gup_ne (by decide), hfr.2.1 184 (by decide) (by decide)]; exact (hth c h1 h2).2⟩, by rw [hf5, show c = 567 by omega], by rw [hf6, show c = 567 by omega], S, by rw [hft.2.2 4 (by decide) (by decide), gup_eq]; exact hms⟩)) (z_vret d_X9_tryOneRuleMore_120 rfl rfl rfl)
    · refine qy (fun _ _ k9 => z_aload_n d_X9_tryOneRuleMore_92 rfl rfl k9) ?_
      refine qy (fun _ _ k9 => z_getf (v := qR 205) d_X9_tryOneRuleMore_93 fl_X9_28 (xput_ob (c := (Fb 172)) xi_172 rfl (xsh_9 xo_172)) rfl k9) ?_
      refine qy (fun _ _ k9 => z_iload d_X9_tryOneRuleMore_96 rfl k9) ?_
      refine qy (fun _ _ k9 => z_ild c d_X9_tryOneRuleMore_98 (xput_ar (g := (Gb 205)) xa_205 rfl) rfl (by omega) k9) ?_
      refine qy2 (fun _ _ => z_if_ne 107 d_X9_tryOneRuleMore_99 (by decide)) (fun q99 => ?_) (fun q99 => ?_)
      · have hmode : Gb 205 c ≠ 0 ∨ ∀ m : Nat, m < 8 → (m : Int) ≠ T c → fbR (qup T c (m : Int)) to = -1 := Or.inl q99
        refine qy (fun _ _ k9 => z_aload_n d_X9_tryOneRuleMore_107 rfl rfl k9) ?_
        refine qy (fun _ _ k9 => z_iload d_X9_tryOneRuleMore_108 rfl k9) ?_
        refine qy (fun _ _ k9 => z_iload_n d_X9_tryOneRuleMore_110 rfl rfl k9) ?_
        obtain ⟨F2, G2, ⟨hv2, hw2, hz2, hy2⟩, hx2⟩ := c_tryCase (h := h) (F := Fb) (G := Gb) (c := c) (to := to) (T := T) (by omega) (by omega) hB hg3 hf5 hf6 hmode
        refine qy (fun _ _ k9 => z_cv0 (M1 := M_X9_tryCase) d_X9_tryOneRuleMore_111 lv_X9_126 k_X9_tryCase [qI (c : Int), qI (to : Int)] rfl rfl (xput_ob (c := (Fb 172)) xi_172 rfl (xsh_9 xo_172)) ⟨_, _, rfl⟩ (Nat.le_of_ble_eq_true rfl) (by decide) (by decide) (Nat.le_of_ble_eq_true rfl) hx2 k9) ?_
        refine qy (fun _ _ k9 => z_iinc (ls' := [qR 172, qR b, qI (to : Int), qI (fbR T to), qI ((c : Int) + 1)]) d_X9_tryOneRuleMore_114 rfl (by decide) (by omega) rfl k9) ?_
        refine qy (fun _ _ k9 => z_goto 84 d_X9_tryOneRuleMore_117 (by decide) k9) ?_
        exact qy (fun _ _ k9 => z_eq (qc rfl (qc rfl (qc rfl (qc rfl (qc (qi (by omega)) rfl))))) rfl rfl k9) (k2 (c + 1) F2 G2 (⟨by omega, tfr_tr hft hv2, hw2, hz2, hy2⟩) (by omega))
      · refine qy (fun _ _ k9 => z_iload_n d_X9_tryOneRuleMore_102 rfl rfl k9) ?_
        refine qy (fun _ _ k9 => z_iconst d_X9_tryOneRuleMore_103 (by decide) k9) ?_
        refine qy2 (fun _ _ => z_icmp_ne 114 d_X9_tryOneRuleMore_104 (by decide)) (fun q104 => ?_) (fun q104 => ?_)
        · have hno : ¬ usA T (fbN T to) c := fun z => q99 (by rw [e205 c (by omega), qb_t z]; decide)
          have hsk : ∀ m, m < 8 → ¬ moP T to (8 * c + m) := fun m hm z => by
            unfold moP at z
            rw [show (8 * c + m) / 8 = c by omega] at z
            exact un_bad hB hno q104 z.2
          refine qy (fun _ _ k9 => z_iinc (ls' := [qR 172, qR b, qI (to : Int), qI (fbR T to), qI ((c : Int) + 1)]) d_X9_tryOneRuleMore_114 rfl (by decide) (by omega) rfl k9) ?_
          refine qy (fun _ _ k9 => z_goto 84 d_X9_tryOneRuleMore_117 (by decide) k9) ?_
          exact qy (fun _ _ k9 => z_eq (qc rfl (qc rfl (qc rfl (qc rfl (qc (qi (by omega)) rfl))))) rfl rfl k9) (k2 (c + 1) Fb Gb (⟨by omega, hft, hg3, by rw [hf5]; exact (mo_skip (k := 8 * c) 8 hsk).1.symm, by rw [hf6]; exact (mo_skip (k := 8 * c) 8 hsk).2.symm⟩) (by omega))
        · have hbd : fbR T to = -1 := Classical.not_not.mp q104
          have hno : ¬ usA T (fbN T to) c := fun z => q99 (by rw [e205 c (by omega), qb_t z]; decide)
          have hmode : Gb 205 c ≠ 0 ∨ ∀ m : Nat, m < 8 → (m : Int) ≠ T c → fbR (qup T c (m : Int)) to = -1 := Or.inr (fun m _ _ => un_all hB (by have e9 := fbN_q (T := T) (to := to); rw [qif_f (fun z => z hbd)] at e9; rw [show to = (fbN T to) by omega]; exact hno) hbd)
          refine qy (fun _ _ k9 => z_aload_n d_X9_tryOneRuleMore_107 rfl rfl k9) ?_
          refine qy (fun _ _ k9 => z_iload d_X9_tryOneRuleMore_108 rfl k9) ?_
          refine qy (fun _ _ k9 => z_iload_n d_X9_tryOneRuleMore_110 rfl rfl k9) ?_
          obtain ⟨F3, G3, ⟨hv3, hw3, hz3, hy3⟩, hx3⟩ := c_tryCase (h := h) (F := Fb) (G := Gb) (c := c) (to := to) (T := T) (by omega) (by omega) hB hg3 hf5 hf6 hmode
          refine qy (fun _ _ k9 => z_cv0 (M1 := M_X9_tryCase) d_X9_tryOneRuleMore_111 lv_X9_126 k_X9_tryCase [qI (c : Int), qI (to : Int)] rfl rfl (xput_ob (c := (Fb 172)) xi_172 rfl (xsh_9 xo_172)) ⟨_, _, rfl⟩ (Nat.le_of_ble_eq_true rfl) (by decide) (by decide) (Nat.le_of_ble_eq_true rfl) hx3 k9) ?_
          refine qy (fun _ _ k9 => z_iinc (ls' := [qR 172, qR b, qI (to : Int), qI (fbR T to), qI ((c : Int) + 1)]) d_X9_tryOneRuleMore_114 rfl (by decide) (by omega) rfl k9) ?_
          refine qy (fun _ _ k9 => z_goto 84 d_X9_tryOneRuleMore_117 (by decide) k9) ?_
          exact qy (fun _ _ k9 => z_eq (qc rfl (qc rfl (qc rfl (qc rfl (qc (qi (by omega)) rfl))))) rfl rfl k9) (k2 (c + 1) F3 G3 (⟨by omega, tfr_tr hft hv3, hw3, hz3, hy3⟩) (by omega))
  · refine qy (fun _ _ k9 => z_aload_n d_X9_tryOneRuleMore_36 rfl rfl k9) ?_
    refine qy (fun _ _ k9 => z_aload_n d_X9_tryOneRuleMore_37 rfl rfl k9) ?_
    refine qy (fun _ _ k9 => z_getf (v := qR (b + 2)) d_X9_tryOneRuleMore_38 fl_X9_110 (xput_ob (c := (Fa b)) (bkx_in hb2 hb) rfl (xsh_0 hb)) rfl k9) ?_
    refine qy (fun _ _ k9 => z_iload d_X9_tryOneRuleMore_41 rfl k9) ?_
    obtain ⟨F4, G4, ⟨hv4, hw4, hz4⟩, hx4⟩ := c_noteRun (h := h) (F := Fa) (G := Ga) (d := b + 2) (n := i + 1) (T := T) (S := S) (A := usA T i) (bkx_2 hb2 hb) (by omega) (by omega) (fun c hc => by rw [hfr.2.1 (b + 2) (by omega) (by omega)]; exact hT c hc) hB hms hak
    refine qy (fun _ _ k9 => z_cv0 (M1 := M_X9_noteRun) d_X9_tryOneRuleMore_43 lv_X9_60 k_X9_noteRun [qR (b + 2), qI (((i + 1) : Nat) : Int)] rfl rfl (xput_ob (c := (Fa 172)) xi_172 rfl (xsh_9 xo_172)) ⟨_, _, rfl⟩ (Nat.le_of_ble_eq_true rfl) (by decide) (by decide) (Nat.le_of_ble_eq_true rfl) hx4 k9) ?_
    refine qy (fun _ _ k9 => z_iinc (ls' := [qR 172, qR b, qI (to : Int), qI (fbR T to), qI ((((i + 1) : Nat) : Int) + 1)]) d_X9_tryOneRuleMore_46 rfl (by decide) (by omega) rfl k9) ?_
    refine qy (fun _ _ k9 => z_goto 21 d_X9_tryOneRuleMore_49 (by decide) k9) ?_
    exact qy (fun _ _ k9 => z_eq (qc rfl (qc rfl (qc rfl (qc rfl (qc (qi (by omega)) rfl))))) rfl rfl k9) (k1 (i + 1) _ F4 G4 (⟨by omega, nfr_tr hfr hv4, hw4, hz4⟩) (by omega))
theorem al_eq {T S : Nat → Int} {n t : Nat} (h : ∀ k, k < n → ps T n 0 (-1) 0 t k = ps S n 0 (-1) 0 t k) : litAt T n 0 (-1) 0 t ↔ litAt S n 0 (-1) 0 t := by
  unfold litAt
  rw [cnt_congr (fun k hk => by rw [h k hk])]
set_option maxRecDepth 20000 in
set_option maxHeartbeats 4000000 in
theorem c_unlike9 {h : qH} {F G : Nat → Nat → Int} {d e n : Nat} {T S : Nat → Int} (hs : xAr d 0 648) (hd : d < 172) (hse : xAr e 0 648) (hed : e < 172) (hn : 1 ≤ n ∧ n ≤ 32) (hT : ∀ c, c < 648 → G d c = T c) (hB : ∀ c, c < 648 → 0 ≤ T c ∧ T c ≤ 7) (hTe : ∀ c, c < 648 → G e c = S c) (hBe : ∀ c, c < 648 → 0 ≤ S c ∧ S c ≤ 7) : ∃ F' G', (xfr 173 180 F G F' G' ∧ (alP T S n → F' 173 8 = (alJ T S n : Int) + 1)) ∧ qEx M_X9_firstUnlike 0 [qR 172, qR d, qR e, qI (n : Int), qU, qU] [] (xput h F G) (some (qI (qif (alP T S n) (fst (alQ T S n (alJ T S n + 1)) n) (-1)))) (xput h F' G') := by
  refine x_in (fun Q hQ => ?_)
  refine qy (fun _ _ k9 => z_aload_n d_X9_firstUnlike_0 rfl rfl k9) ?_
  refine qy (fun _ _ k9 => z_getf (v := qR 173) d_X9_firstUnlike_1 fl_X9_12 (xput_ob (c := (F 172)) xi_172 rfl (xsh_9 xo_172)) rfl k9) ?_
  refine qy (fun _ _ k9 => z_iload_n d_X9_firstUnlike_4 rfl rfl k9) ?_
  refine qy (fun _ _ k9 => z_iconst d_X9_firstUnlike_5 (by decide) k9) ?_
  refine qy (fun _ _ k9 => z_iconst d_X9_firstUnlike_6 (by decide) k9) ?_
  obtain ⟨F1, G1, ⟨hv1, hw1, hu1, hg1⟩, hx1⟩ := c_rnStart (h := h) (F := F) (G := G) (u := 173) n 0 0 (by decide) xo_173 (by omega) (by decide) (by decide)
  refine qy (fun _ _ k9 => z_cv0 (M1 := M_X7_start) d_X9_firstUnlike_7 lv_X9_42 k_X7_start [qI (n : Int), qI 0, qI 0] rfl rfl (xput_ob (c := (F 173)) xi_173 rfl (xsh_7 xo_173)) ⟨_, _, rfl⟩ (Nat.le_of_ble_eq_true rfl) (by decide) (by decide) (Nat.le_of_ble_eq_true rfl) hx1 k9) ?_
  refine qy (fun _ _ k9 => z_aload_n d_X9_firstUnlike_10 rfl rfl k9) ?_
  refine qy (fun _ _ k9 => z_getf (v := qR 177) d_X9_firstUnlike_11 fl_X9_18 (xput_ob (c := (F1 172)) xi_172 rfl (xsh_9 xo_172)) rfl k9) ?_
  refine qy (fun _ _ k9 => z_iload_n d_X9_firstUnlike_14 rfl rfl k9) ?_
  refine qy (fun _ _ k9 => z_iconst d_X9_firstUnlike_15 (by decide) k9) ?_
  refine qy (fun _ _ k9 => z_iconst d_X9_firstUnlike_16 (by decide) k9) ?_
  obtain ⟨F2, G2, ⟨hv2, hw2, hu2, hg2⟩, hx2⟩ := c_rnStart (h := h) (F := F1) (G := G1) (u := 177) n 0 0 (by decide) xo_177 (by omega) (by decide) (by decide)
  refine qy (fun _ _ k9 => z_cv0 (M1 := M_X7_start) d_X9_firstUnlike_17 lv_X9_42 k_X7_start [qI (n : Int), qI 0, qI 0] rfl rfl (xput_ob (c := (F1 177)) xi_177 rfl (xsh_7 xo_177)) ⟨_, _, rfl⟩ (Nat.le_of_ble_eq_true rfl) (by decide) (by decide) (Nat.le_of_ble_eq_true rfl) hx2 k9) ?_
  refine qy (fun _ _ k9 => z_iconst d_X9_firstUnlike_20 (by decide) k9) ?_
  refine qy (fun _ _ k9 => z_istore (ls' := [qR 172, qR d, qR e, qI (n : Int), qI 0, qU]) d_X9_firstUnlike_21 (by decide) rfl k9) ?_
  refine qy (fun _ _ k9 => z_eq (qc rfl (qc rfl (qc rfl (qc rfl (qc (qi (rfl)) (qc rfl rfl)))))) rfl rfl k9) (y_wh5 (fun (t : Nat) (c1 : Int) (c2 : Int) (Fa : Nat → Nat → Int) (Ga : Nat → Nat → Int) => 3 * n + 20 - t) (fun (t : Nat) (c1 : Int) (c2 : Int) (Fa : Nat → Nat → Int) (Ga : Nat → Nat → Int) => [qR 172, qR d, qR e, qI (n : Int), qI (t : Int), qU]) (fun (t : Nat) (c1 : Int) (c2 : Int) (Fa : Nat → Nat → Int) (Ga : Nat → Nat → Int) => (xput h Fa Ga)) (fun (t : Nat) (c1 : Int) (c2 : Int) (Fa : Nat → Nat → Int) (Ga : Nat → Nat → Int) => t ≤ 3 * n + 20 ∧ xfr 173 180 F G Fa Ga ∧ (rnS Fa Ga 173 n 0 0 (-1) t (cnt (fun k => (ps T n 0 (-1) 0 t) k = 7) n) c1 (ps T n 0 (-1) 0 t)) ∧ (rnS Fa Ga 177 n 0 0 (-1) t (cnt (fun k => (ps S n 0 (-1) 0 t) k = 7) n) c2 (ps S n 0 (-1) 0 t)) ∧ (∀ q, q < t → ¬ (q ≥ 3 * n + 20 ∨ litAt T n 0 (-1) 0 q ∨ alD T S n (q + 1))) ∧ ∀ k, k < n → (ps T n 0 (-1) 0 t) k = (ps S n 0 (-1) 0 t) k) 0 0 0 F2 G2 (⟨by omega, xfr_tr (xfr_wd hv1 (by decide) (by decide)) (xfr_wd hv2 (by decide) (by decide)), rnS_M (rnS_cg hw1 (xfr_F hv2 (by decide)) (xfr_G hv2 (by decide))) (fun _ _ => rfl) (cnt_0.mpr (fun k _ => ps_0)).symm rfl, rnS_M hw2 (fun _ _ => rfl) (cnt_0.mpr (fun k _ => ps_0)).symm rfl, fun q hq => absurd hq (by omega), fun k _ => rfl⟩) (fun t c1 c2 Fa Ga hp k1 => ?_))
  obtain ⟨ht, hfr, hR1, hR2, hp, heq⟩ := hp
  show qEy M_X9_firstUnlike 23 [qR 172, qR d, qR e, qI (n : Int), qI (t : Int), qU] [] (xput h Fa Ga) Q
  have f7 : Fa 173 7 = 3 * (n : Int) + 20 := hR1.2.1.1
  have f9 : Fa 173 9 = cnt (fun k => ps T n 0 (-1) 0 t k = 7) n := hR1.2.1.2.2.1
  have g9 : Fa 177 9 = cnt (fun k => ps S n 0 (-1) 0 t k = 7) n := hR2.2.1.2.2.1
  have c0 := cnt_bd (fun k => ps T n 0 (-1) 0 t k = 7) n
  have c9 := cnt_bd (fun k => ps S n 0 (-1) 0 t k = 7) n
  have hle : cnt (fun k => ps T n 0 (-1) 0 t k = 7) n = cnt (fun k => ps S n 0 (-1) 0 t k = 7) n := cnt_congr (fun k hk => by rw [heq k hk])
  refine qy (fun _ _ k9 => z_iload d_X9_firstUnlike_23 rfl k9) ?_
  refine qy (fun _ _ k9 => z_aload_n d_X9_firstUnlike_25 rfl rfl k9) ?_
  refine qy (fun _ _ k9 => z_getf (v := qR 173) d_X9_firstUnlike_26 fl_X9_12 (xput_ob (c := (Fa 172)) xi_172 rfl (xsh_9 xo_172)) rfl k9) ?_
  refine qy (fun _ _ k9 => z_getf (v := qI ((Fa 173) 7)) d_X9_firstUnlike_29 fl_X9_67 (xput_ob (c := (Fa 173)) xi_173 rfl (xsh_7 xo_173)) rfl k9) ?_
  refine qy2 (fun _ _ => z_icmp_ge 118 d_X9_firstUnlike_32 (by decide)) (fun pq1 => ?_) (fun pq1 => ?_)
  · refine qy (fun _ _ k9 => z_iconst d_X9_firstUnlike_118 (by decide) k9) ?_
    exact y_ret (hQ Fa Ga (⟨hfr, fun z => absurd z (show ¬ alP T S n by unfold alP; rw [(show alJ T S n = t from utl_at (p := fun t => t ≥ 3 * n + 20 ∨ litAt T n 0 (-1) 0 t ∨ alD T S n (t + 1)) (by omega) hp (Or.inl (by omega)))]; exact fun z => by have := z.1; omega)⟩)) (z_iret d_X9_firstUnlike_119 rfl (qsi (by rw [qif_f (show ¬ alP T S n by unfold alP; rw [(show alJ T S n = t from utl_at (p := fun t => t ≥ 3 * n + 20 ∨ litAt T n 0 (-1) 0 t ∨ alD T S n (t + 1)) (by omega) hp (Or.inl (by omega)))]; exact fun z => by have := z.1; omega)])) rfl)
  · refine qy (fun _ _ k9 => z_aload_n d_X9_firstUnlike_35 rfl rfl k9) ?_
    refine qy (fun _ _ k9 => z_getf (v := qR 173) d_X9_firstUnlike_36 fl_X9_12 (xput_ob (c := (Fa 172)) xi_172 rfl (xsh_9 xo_172)) rfl k9) ?_
    refine qy (fun _ _ k9 => z_getf (v := qI ((Fa 173) 9)) d_X9_firstUnlike_39 fl_X9_70 (xput_ob (c := (Fa 173)) xi_173 rfl (xsh_7 xo_173)) rfl k9) ?_
    refine qy2 (fun _ _ => z_if_ne 118 d_X9_firstUnlike_42 (by decide)) (fun pq2 => ?_) (fun pq2 => ?_)
    · refine qy (fun _ _ k9 => z_iconst d_X9_firstUnlike_118 (by decide) k9) ?_
      exact y_ret (hQ Fa Ga (⟨hfr, fun z => absurd z (show ¬ alP T S n by unfold alP; rw [(show alJ T S n = t from utl_at (p := fun t => t ≥ 3 * n + 20 ∨ litAt T n 0 (-1) 0 t ∨ alD T S n (t + 1)) (by omega) hp (Or.inr (Or.inl (by unfold litAt; omega))))]; exact fun z => z.2.1 (by unfold litAt; omega))⟩)) (z_iret d_X9_firstUnlike_119 rfl (qsi (by rw [qif_f (show ¬ alP T S n by unfold alP; rw [(show alJ T S n = t from utl_at (p := fun t => t ≥ 3 * n + 20 ∨ litAt T n 0 (-1) 0 t ∨ alD T S n (t + 1)) (by omega) hp (Or.inr (Or.inl (by unfold litAt; omega))))]; exact fun z => z.2.1 (by unfold litAt; omega))])) rfl)
    · refine qy (fun _ _ k9 => z_aload_n d_X9_firstUnlike_45 rfl rfl k9) ?_
      refine qy (fun _ _ k9 => z_getf (v := qR 177) d_X9_firstUnlike_46 fl_X9_18 (xput_ob (c := (Fa 172)) xi_172 rfl (xsh_9 xo_172)) rfl k9) ?_
      refine qy (fun _ _ k9 => z_getf (v := qI ((Fa 177) 9)) d_X9_firstUnlike_49 fl_X9_70 (xput_ob (c := (Fa 177)) xi_177 rfl (xsh_7 xo_177)) rfl k9) ?_
      refine qy2 (fun _ _ => z_if_ne 118 d_X9_firstUnlike_52 (by decide)) (fun pq3 => ?_) (fun pq3 => ?_)
      · refine qy (fun _ _ k9 => z_iconst d_X9_firstUnlike_118 (by decide) k9) ?_
        exact y_ret (hQ Fa Ga (⟨hfr, fun z => absurd z (show ¬ alP T S n by unfold alP; rw [(show alJ T S n = t from utl_at (p := fun t => t ≥ 3 * n + 20 ∨ litAt T n 0 (-1) 0 t ∨ alD T S n (t + 1)) (by omega) hp (Or.inr (Or.inl (by unfold litAt; omega))))]; exact fun z => z.2.1 (by unfold litAt; omega))⟩)) (z_iret d_X9_firstUnlike_119 rfl (qsi (by rw [qif_f (show ¬ alP T S n by unfold alP; rw [(show alJ T S n = t from utl_at (p := fun t => t ≥ 3 * n + 20 ∨ litAt T n 0 (-1) 0 t ∨ alD T S n (t + 1)) (by omega) hp (Or.inr (Or.inl (by unfold litAt; omega))))]; exact fun z => z.2.1 (by unfold litAt; omega))])) rfl)
      · refine qy (fun _ _ k9 => z_aload_n d_X9_firstUnlike_55 rfl rfl k9) ?_
        refine qy (fun _ _ k9 => z_getf (v := qR 173) d_X9_firstUnlike_56 fl_X9_12 (xput_ob (c := (Fa 172)) xi_172 rfl (xsh_9 xo_172)) rfl k9) ?_
        refine qy (fun _ _ k9 => z_aload_n d_X9_firstUnlike_59 rfl rfl k9) ?_
        obtain ⟨F3, G3, ⟨hv3, hw3⟩, hx3⟩ := c_rnBr (h := h) (F := Fa) (G := Ga) (u := 173) (d := d) (M := (ps T n 0 (-1) 0 t)) (T := T) (by decide) xo_173 hs (by omega) hn (by decide) (by omega) (fun c hc => by rw [xfr_G hfr (by omega)]; exact hT c hc) hR1 (ps_bd hB t)
        refine qy (fun _ _ k9 => z_cv0 (M1 := M_X7_breathe) d_X9_firstUnlike_60 lv_X9_76 k_X7_breathe [qR d] rfl rfl (xput_ob (c := (Fa 173)) xi_173 rfl (xsh_7 xo_173)) ⟨_, _, rfl⟩ (Nat.le_of_ble_eq_true rfl) (by decide) (by decide) (Nat.le_of_ble_eq_true rfl) hx3 k9) ?_
        refine qy (fun _ _ k9 => z_aload_n d_X9_firstUnlike_63 rfl rfl k9) ?_
        refine qy (fun _ _ k9 => z_getf (v := qR 177) d_X9_firstUnlike_64 fl_X9_18 (xput_ob (c := (F3 172)) xi_172 rfl (xsh_9 xo_172)) rfl k9) ?_
        refine qy (fun _ _ k9 => z_aload_n d_X9_firstUnlike_67 rfl rfl k9) ?_
        obtain ⟨F4, G4, ⟨hv4, hw4⟩, hx4⟩ := c_rnBr (h := h) (F := F3) (G := G3) (u := 177) (d := e) (M := (ps S n 0 (-1) 0 t)) (T := S) (by decide) xo_177 hse (by omega) hn (by decide) (by omega) (fun c hc => by rw [xfr_G hv3 (by omega), xfr_G hfr (by omega)]; exact hTe c hc) (rnS_cg hR2 (xfr_F hv3 (by omega)) (xfr_G hv3 (by omega))) (ps_bd hBe t)
        refine qy (fun _ _ k9 => z_cv0 (M1 := M_X7_breathe) d_X9_firstUnlike_68 lv_X9_76 k_X7_breathe [qR e] rfl rfl (xput_ob (c := (F3 177)) xi_177 rfl (xsh_7 xo_177)) ⟨_, _, rfl⟩ (Nat.le_of_ble_eq_true rfl) (by decide) (by decide) (Nat.le_of_ble_eq_true rfl) hx4 k9) ?_
        refine qy (fun _ _ k9 => z_iconst d_X9_firstUnlike_71 (by decide) k9) ?_
        refine qy (fun _ _ k9 => z_istore (ls' := [qR 172, qR d, qR e, qI (n : Int), qI (t : Int), qI 0]) d_X9_firstUnlike_72 (by decide) rfl k9) ?_
        refine qy (fun _ _ k9 => z_eq (qc rfl (qc rfl (qc rfl (qc rfl (qc rfl (qc (qi (rfl)) rfl)))))) rfl rfl k9) (y_wh1 (fun (k : Nat) => n - k) (fun (k : Nat) => [qR 172, qR d, qR e, qI (n : Int), qI (t : Int), qI (k : Int)]) (fun (k : Nat) => (xput h F4 G4)) (fun (k : Nat) => k ≤ n ∧ ∀ q, q < k → ¬ alQ T S n (t + 1) q) 0 (⟨by omega, fun q hq => absurd hq (by omega)⟩) (fun k hpp k2 => ?_))
        obtain ⟨hkn, hq⟩ := hpp
        show qEy M_X9_firstUnlike 74 [qR 172, qR d, qR e, qI (n : Int), qI (t : Int), qI (k : Int)] [] (xput h F4 G4) Q
        have hA1 : rnS F4 G4 173 n 0 0 (-1) (t + 1) (cnt (fun k => (ps T n 0 (-1) 0 (t + 1)) k = 7) n) _ (ps T n 0 (-1) 0 (t + 1)) := rnS_cg hw3 (xfr_F hv4 (by decide)) (xfr_G hv4 (by decide))
        have hA2 : rnS F4 G4 177 n 0 0 (-1) (t + 1) (cnt (fun k => (ps S n 0 (-1) 0 (t + 1)) k = 7) n) _ (ps S n 0 (-1) 0 (t + 1)) := hw4
        refine qy (fun _ _ k9 => z_iload d_X9_firstUnlike_74 rfl k9) ?_
        refine qy (fun _ _ k9 => z_iload_n d_X9_firstUnlike_76 rfl rfl k9) ?_
        refine qy2 (fun _ _ => z_icmp_ge 112 d_X9_firstUnlike_77 (by decide)) (fun pq4 => ?_) (fun pq4 => ?_)
        · refine qy (fun _ _ k9 => z_iinc (ls' := [qR 172, qR d, qR e, qI (n : Int), qI ((t : Int) + 1), qI (k : Int)]) d_X9_firstUnlike_112 rfl (by decide) (by omega) rfl k9) ?_
          refine qy (fun _ _ k9 => z_goto 23 d_X9_firstUnlike_115 (by decide) k9) ?_
          exact qy (fun _ _ k9 => z_dr (qle_k rfl (qle_k rfl (qle_k rfl (qle_k rfl (qle_k (qi (by omega)) (qle_d qle_n)))))) rfl rfl k9) (k1 (t + 1) _ _ F4 G4 (⟨by omega, xfr_tr hfr (xfr_tr (xfr_wd hv3 (by decide) (by decide)) (xfr_wd hv4 (by decide) (by decide))), hA1, hA2, q_lts hp (fun z => z.elim (fun y => absurd y (by omega)) (fun y => y.elim (fun x => by unfold litAt at x; omega) (fun ⟨k, h1, h2⟩ => hq k (by omega) h2))), fun k hk => Classical.not_not.mp (hq k (by omega))⟩) (by omega))
        · refine qy (fun _ _ k9 => z_aload_n d_X9_firstUnlike_80 rfl rfl k9) ?_
          refine qy (fun _ _ k9 => z_getf (v := qR 173) d_X9_firstUnlike_81 fl_X9_12 (xput_ob (c := (F4 172)) xi_172 rfl (xsh_9 xo_172)) rfl k9) ?_
          refine qy (fun _ _ k9 => z_getf (v := qR 174) d_X9_firstUnlike_84 fl_X9_140 (xput_ob (c := (F4 173)) xi_173 rfl (xsh_7 xo_173)) rfl k9) ?_
          refine qy (fun _ _ k9 => z_iload d_X9_firstUnlike_87 rfl k9) ?_
          refine qy (fun _ _ k9 => z_ild k d_X9_firstUnlike_89 (xput_ar (g := (G4 174)) xa_174 rfl) rfl (by omega) k9) ?_
          refine qy (fun _ _ k9 => z_eq rfl (qc (qi (show ((G4 174) k) = ((ps T n 0 (-1) 0 (t + 1)) k) from hA1.2.2 k (by omega))) rfl) rfl k9) ?_
          refine qy (fun _ _ k9 => z_aload_n d_X9_firstUnlike_90 rfl rfl k9) ?_
          refine qy (fun _ _ k9 => z_getf (v := qR 177) d_X9_firstUnlike_91 fl_X9_18 (xput_ob (c := (F4 172)) xi_172 rfl (xsh_9 xo_172)) rfl k9) ?_
          refine qy (fun _ _ k9 => z_getf (v := qR 178) d_X9_firstUnlike_94 fl_X9_140 (xput_ob (c := (F4 177)) xi_177 rfl (xsh_7 xo_177)) rfl k9) ?_
          refine qy (fun _ _ k9 => z_iload d_X9_firstUnlike_97 rfl k9) ?_
          refine qy (fun _ _ k9 => z_ild k d_X9_firstUnlike_99 (xput_ar (g := (G4 178)) xa_178 rfl) rfl (by omega) k9) ?_
          refine qy (fun _ _ k9 => z_eq rfl (qc (qi (show ((G4 178) k) = ((ps S n 0 (-1) 0 (t + 1)) k) from hA2.2.2 k (by omega))) rfl) rfl k9) ?_
          refine qy2 (fun _ _ => z_icmp_eq 106 d_X9_firstUnlike_100 (by decide)) (fun q100 => ?_) (fun q100 => ?_)
          · refine qy (fun _ _ k9 => z_iinc (ls' := [qR 172, qR d, qR e, qI (n : Int), qI (t : Int), qI ((k : Int) + 1)]) d_X9_firstUnlike_106 rfl (by decide) (by omega) rfl k9) ?_
            refine qy (fun _ _ k9 => z_goto 74 d_X9_firstUnlike_109 (by decide) k9) ?_
            exact qy (fun _ _ k9 => z_eq (qc rfl (qc rfl (qc rfl (qc rfl (qc rfl (qc (qi (by omega)) rfl)))))) rfl rfl k9) (k2 (k + 1) (⟨by omega, q_lts hq (not_not_intro q100)⟩) (by omega))
          · have hk9 : alQ T S n (t + 1) k := q100
            have hJ : alJ T S n = t := utl_at (by omega) hp (Or.inr (Or.inr ⟨k, by omega, hk9⟩))
            have haP : alP T S n := by unfold alP; rw [hJ]; exact ⟨by omega, fun z => by unfold litAt at z; omega, k, by omega, hk9⟩
            refine qy (fun _ _ k9 => z_iload d_X9_firstUnlike_103 rfl k9) ?_
            exact y_ret (hQ F4 G4 (⟨xfr_tr hfr (xfr_tr (xfr_wd hv3 (by decide) (by decide)) (xfr_wd hv4 (by decide) (by decide))), fun _ => by rw [hJ]; exact hA1.2.1.2.1⟩)) (z_iret d_X9_firstUnlike_105 rfl (qsi (by rw [qif_t haP, hJ]; exact (fst_at (by omega) hq hk9))) rfl)
