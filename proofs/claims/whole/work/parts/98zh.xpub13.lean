/-! ===== CONTRACTS: BeaconWall: crowd, begun, alike ===== -/
theorem cnt_n32 {p : Nat → Prop} {n : Nat} (hn : n ≤ 32) : cnt (fun k => k < n ∧ p k) 32 = cnt p n := by
  have e := cnt_add (fun k => k < n ∧ p k) n (32 - n)
  rw [show n + (32 - n) = 32 by omega] at e
  have e2 : cnt (fun k => (fun k => k < n ∧ p k) (n + k)) (32 - n) = 0 := cnt_0.mpr (fun k _ z => absurd z.1 (by omega))
  have e3 : cnt (fun k => k < n ∧ p k) n = cnt p n := cnt_congr (fun k hk => ⟨fun z => z.2, fun z => ⟨hk, z⟩⟩)
  rw [e, e2, e3]
  omega
theorem bc_bst {p : Nat → Prop} {n : Nat} (hn : n ≤ 32) : cnt (fun k => tb (bst (fun k => k < n ∧ p k)) k = true) 32 = cnt p n := by
  rw [cnt_congr (q := fun k => k < n ∧ p k) (fun k hk => tb_bst hk)]
  exact cnt_n32 hn
theorem crM_1 {T : Nat → Int} {n : Nat} {b md : Int} : crC T n b md 0 = crM T n b md 1 := by
  have := cnt_bd (fun k => ps T n 0 (-1) b 0 k = md) n
  show crC T n b md 0 = if crC T n b md 0 > -1 then crC T n b md 0 else -1
  unfold crC
  rw [if_pos (by omega)]
theorem crW_1 {T : Nat → Int} {n : Nat} {b md : Int} : (0 : Int) = crW T n b md 1 := by
  show (0 : Int) = qif (crC T n b md 0 ≤ -1) 0 ((0 : Nat) : Int)
  exact (qif_same (a := (0 : Int))).symm
theorem crE_1 {T : Nat → Int} {n : Nat} {b md : Int} : bst (fun k => k < n ∧ ps T n 0 (-1) b 0 k = md) = bst (fun k => k < n ∧ crE T n b md 1 k) :=
  bst_cg (fun k _ => and_congr Iff.rfl ⟨fun z => ⟨0, by omega, z⟩, fun ⟨s, hs, z⟩ => by rw [show s = 0 by omega] at z; exact z⟩)
theorem crM_s {T : Nat → Int} {n i : Nat} {b md : Int} : qif (crC T n b md i ≤ crM T n b md i) (crM T n b md i) (crC T n b md i) = crM T n b md (i + 1) := by
  show _ = if crC T n b md i > crM T n b md i then crC T n b md i else crM T n b md i
  by_cases z : crC T n b md i ≤ crM T n b md i
  · rw [qif_t z, if_neg (by omega)]
  · rw [qif_f z, if_pos (by omega)]
theorem crE_o {T : Nat → Int} {n i : Nat} {b md : Int} : qOr (bst (fun k => k < n ∧ crE T n b md i k)) (bst (fun k => k < n ∧ ps T n 0 (-1) b i k = md)) = bst (fun k => k < n ∧ crE T n b md (i + 1) k) := by
  rw [bst_orb]
  refine bst_cg (fun k _ => ?_)
  rw [crE_s]
  constructor
  · rintro (⟨h1, h2⟩ | ⟨h1, h2⟩)
    · exact ⟨h1, Or.inr h2⟩
    · exact ⟨h1, Or.inl h2⟩
  · rintro ⟨h1, h2 | h2⟩
    · exact Or.inr ⟨h1, h2⟩
    · exact Or.inl ⟨h1, h2⟩
theorem bg_bad {T : Nat → Int} {n b : Nat} (h : ¬ cnt (fun k => rnE T n 0 b k = 7) n = (n : Int)) : bgF T n (b + 1) = ((bgF T n b).1, qif ((bgF T n b).2.1 ≠ -1) (bgF T n b).2.1 (b : Int), (bgF T n b).2.2.1, (bgF T n b).2.2.2) := by
  show bgSt T n b (bgF T n b) = _
  have c0 := cnt_bd (fun k => rnE T n 0 b k = 7) n
  unfold bgSt
  rw [qif_t (Or.inr (by omega))]
theorem bg_good {T : Nat → Int} {n b tt : Nat} (hn : 1 ≤ n) (h : cnt (fun k => rnE T n 0 b k = 7) n = (n : Int)) (he : (rnT T n 0 b ≠ -1 → rnT T n 0 b = (tt : Int)) ∧ (rnT T n 0 b = -1 ↔ cnt (fun k => rnE T n 0 b k = 7) n = 0)) : bgF T n (b + 1) = qif ((bgF T n b).2.2.1 ≠ -1 ∧ (tt : Int) ≥ (bgF T n b).2.2.2) ((bgF T n b).1 + 1, (bgF T n b).2.1, (bgF T n b).2.2.1, (bgF T n b).2.2.2) ((bgF T n b).1 + 1, (bgF T n b).2.1, (b : Int), (tt : Int)) := by
  show bgSt T n b (bgF T n b) = _
  have hne : rnT T n 0 b ≠ -1 := fun z => by have := he.2.mp z; omega
  unfold bgSt
  rw [qif_f (fun z => by rcases z with z | z; exact hne z; omega), he.1 hne]
theorem al_f {T S : Nat → Int} {n : Nat} (h : alP T S n) : ∃ k : Nat, k < n ∧ fst (alQ T S n (alJ T S n + 1)) n = (k : Int) := by
  obtain ⟨_, _, k, hk, hq⟩ := h
  rcases fst_cases (alQ T S n (alJ T S n + 1)) n with ⟨_, z⟩ | ⟨i, hi, z, _⟩
  · exact absurd hq (z k hk)
  · exact ⟨i, hi, z⟩
theorem al_R {T S : Nat → Int} {to i : Nat} (what : Int) (hi : i < to) (hp : ∀ k, k < i → ¬ alP T S (k + 1)) (h : alP T S (i + 1)) : alR T S to what = qif (what ≠ 0) (qif (what ≠ 1) (fst (alQ T S (i + 1) (alJ T S (i + 1) + 1)) (i + 1)) ((alJ T S (i + 1) : Int) + 1)) ((i : Int) + 1) := by
  have e : alN T S to = (i : Int) := fst_at hi hp h
  unfold alR
  rw [e, qif_f (by omega), Int.toNat_natCast]
set_option maxRecDepth 20000 in
set_option maxHeartbeats 4000000 in
theorem xc_crowd0 {h : qH} {F G : Nat → Nat → Int} {n b : Nat} (md : Int) {T : Nat → Int} (hn : 1 ≤ n ∧ n ≤ 32) (hb : b < n) (hmd : 0 ≤ md ∧ md ≤ 7) (hT : ∀ c, c < 648 → G 6 c = T c) (hB : ∀ c, c < 648 → 0 ≤ T c ∧ T c ≤ 7) : ∃ F' G', (xfr 173 176 F G F' G') ∧ qEx M_X11_crowd 0 [qR 2, qI (n : Int), qI (b : Int), qI md, qI 0, qU, qU, qU, qU, qU, qU] [] (xput h F G) (some (qI (crM T n (b : Int) md (rnJ T n 0 (b : Int) + 1)))) (xput h F' G') := by
  refine x_in (fun Q hQ => ?_)
  refine qy (fun _ _ k9 => z_iload_n d_X11_crowd_0 rfl rfl k9) ?_
  refine qy (fun _ _ k9 => z_iload_n d_X11_crowd_1 rfl rfl k9) ?_
  refine qy (fun _ _ k9 => z_cs (M1 := M_X11_isRun) d_X11_crowd_2 ls_X11_280 k_X11_isRun [qI (n : Int), qI (b : Int)] rfl rfl (Nat.le_of_ble_eq_true rfl) (by decide) (by decide) (Nat.le_of_ble_eq_true rfl) (c_isRun (n : Int) (b : Int) (by omega)) k9) ?_
  refine qy2n (fun _ _ => z_ifeqB 28 d_X11_crowd_5 (by decide)) (fun hc1 => absurd hc1 (by omega)) (fun hc1 => ?_)
  refine qy (fun _ _ k9 => z_iload_n d_X11_crowd_8 rfl rfl k9) ?_
  refine qy (fun _ _ k9 => z_iconst d_X11_crowd_9 (by decide) k9) ?_
  refine qy (fun _ _ k9 => z_bipush d_X11_crowd_10 (by decide) k9) ?_
  refine qy (fun _ _ k9 => z_cs (M1 := M_X11_isWithin) d_X11_crowd_12 ls_X11_62 k_X11_isWithin [qI md, qI 0, qI 7] rfl rfl (Nat.le_of_ble_eq_true rfl) (by decide) (by decide) (Nat.le_of_ble_eq_true rfl) (c_isWithin md 0 7) k9) ?_
  refine qy2n (fun _ _ => z_ifeqB 28 d_X11_crowd_15 (by decide)) (fun hc2 => absurd hc2 (by omega)) (fun hc2 => ?_)
  refine qy (fun _ _ k9 => z_iload d_X11_crowd_18 rfl k9) ?_
  refine qy (fun _ _ k9 => z_iconst d_X11_crowd_20 (by decide) k9) ?_
  refine qy (fun _ _ k9 => z_iconst d_X11_crowd_21 (by decide) k9) ?_
  refine qy (fun _ _ k9 => z_cs (M1 := M_X11_isWithin) d_X11_crowd_22 ls_X11_62 k_X11_isWithin [qI 0, qI 0, qI 2] rfl rfl (Nat.le_of_ble_eq_true rfl) (by decide) (by decide) (Nat.le_of_ble_eq_true rfl) (c_isWithin 0 0 2) k9) ?_
  refine qy2 (fun _ _ => z_ifneB 30 d_X11_crowd_25 (by decide)) (fun hc3 => ?_) (fun hc3 => absurd hc3 (by omega))
  refine qy (fun _ _ k9 => z_aload_n d_X11_crowd_30 rfl rfl k9) ?_
  refine qy (fun _ _ k9 => z_getf (v := qR 172) d_X11_crowd_31 fl_X11_40 (xput_ob (c := (F 2)) xi_2 rfl (xsh_11 xo_2)) rfl k9) ?_
  refine qy (fun _ _ k9 => z_getf (v := qR 173) d_X11_crowd_34 fl_X11_293 (xput_ob (c := (F 172)) xi_172 rfl (xsh_9 xo_172)) rfl k9) ?_
  refine qy (fun _ _ k9 => z_astore (ls' := [qR 2, qI (n : Int), qI (b : Int), qI md, qI 0, qR 173, qU, qU, qU, qU, qU]) d_X11_crowd_37 (by decide) rfl k9) ?_
  refine qy (fun _ _ k9 => z_aload d_X11_crowd_39 rfl k9) ?_
  refine qy (fun _ _ k9 => z_iload_n d_X11_crowd_41 rfl rfl k9) ?_
  refine qy (fun _ _ k9 => z_iload_n d_X11_crowd_42 rfl rfl k9) ?_
  refine qy (fun _ _ k9 => z_iconst d_X11_crowd_43 (by decide) k9) ?_
  obtain ⟨F1, G1, ⟨hv1, hw1, hu1, hg1⟩, hx1⟩ := c_rnStart (h := h) (F := F) (G := G) (u := 173) n b 0 (by decide) xo_173 (by omega) (by omega) (by decide)
  refine qy (fun _ _ k9 => z_cv0 (M1 := M_X7_start) d_X11_crowd_44 lv_X11_297 k_X7_start [qI (n : Int), qI (b : Int), qI 0] rfl rfl (xput_ob (c := (F 173)) xi_173 rfl (xsh_7 xo_173)) ⟨_, _, rfl⟩ (Nat.le_of_ble_eq_true rfl) (by decide) (by decide) (Nat.le_of_ble_eq_true rfl) hx1 k9) ?_
  refine qy (fun _ _ k9 => z_aload d_X11_crowd_47 rfl k9) ?_
  refine qy (fun _ _ k9 => z_iload_n d_X11_crowd_49 rfl rfl k9) ?_
  refine qy (fun _ _ k9 => z_cv (M1 := M_X7_whoHas) d_X11_crowd_50 lv_X11_354 k_X7_whoHas [qI md] rfl rfl (xput_ob (c := (F1 173)) xi_173 rfl (xsh_7 xo_173)) ⟨_, _, rfl⟩ (Nat.le_of_ble_eq_true rfl) (by decide) (by decide) (Nat.le_of_ble_eq_true rfl) (c_rnWho md (by decide) xo_173 (by omega) hw1) k9) ?_
  refine qy (fun _ _ k9 => z_istore (ls' := [qR 2, qI (n : Int), qI (b : Int), qI md, qI 0, qR 173, qI (bst (fun k => k < n ∧ ps T n 0 (-1) (b : Int) 0 k = md)), qU, qU, qU, qU]) d_X11_crowd_53 (by decide) rfl k9) ?_
  refine qy (fun _ _ k9 => z_iload d_X11_crowd_55 rfl k9) ?_
  refine qy (fun _ _ k9 => z_cs (M1 := M_J6_bitCount_0f7a4) d_X11_crowd_57 ls_X11_357 k_J6_bitCount_0f7a4 [qI (bst (fun k => k < n ∧ ps T n 0 (-1) (b : Int) 0 k = md))] rfl rfl (Nat.le_of_ble_eq_true rfl) (by decide) (by decide) (Nat.le_of_ble_eq_true rfl) (by have e9 := c_bits (h := (xput h F1 G1)) (bst (fun k => k < n ∧ ps T n 0 (-1) (b : Int) 0 k = md)); rw [bc_bst (by omega)] at e9; exact e9) k9) ?_
  refine qy (fun _ _ k9 => z_istore (ls' := [qR 2, qI (n : Int), qI (b : Int), qI md, qI 0, qR 173, qI (bst (fun k => k < n ∧ ps T n 0 (-1) (b : Int) 0 k = md)), qI (crC T n (b : Int) md 0), qU, qU, qU]) d_X11_crowd_60 (by decide) rfl k9) ?_
  refine qy (fun _ _ k9 => z_iconst d_X11_crowd_62 (by decide) k9) ?_
  refine qy (fun _ _ k9 => z_istore (ls' := [qR 2, qI (n : Int), qI (b : Int), qI md, qI 0, qR 173, qI (bst (fun k => k < n ∧ ps T n 0 (-1) (b : Int) 0 k = md)), qI (crC T n (b : Int) md 0), qI 0, qU, qU]) d_X11_crowd_63 (by decide) rfl k9) ?_
  refine qy (fun _ _ k9 => z_iconst d_X11_crowd_65 (by decide) k9) ?_
  refine qy (fun _ _ k9 => z_istore (ls' := [qR 2, qI (n : Int), qI (b : Int), qI md, qI 0, qR 173, qI (bst (fun k => k < n ∧ ps T n 0 (-1) (b : Int) 0 k = md)), qI (crC T n (b : Int) md 0), qI 0, qI 1, qU]) d_X11_crowd_66 (by decide) rfl k9) ?_
  refine qy (fun _ _ k9 => z_eq (qc rfl (qc rfl (qc rfl (qc rfl (qc rfl (qc rfl (qc (qi (crE_1 (T := T) (n := n) (b := (b : Int)) (md := md))) (qc (qi (crM_1 (T := T) (n := n) (b := (b : Int)) (md := md))) (qc (qi (crW_1 (T := T) (n := n) (b := (b : Int)) (md := md))) (qc (qi (rfl)) (qc rfl rfl))))))))))) rfl rfl k9) (y_wh4 (fun (i : Nat) (c : Int) (Fa : Nat → Nat → Int) (Ga : Nat → Nat → Int) => 3 * n + 20 - i) (fun (i : Nat) (c : Int) (Fa : Nat → Nat → Int) (Ga : Nat → Nat → Int) => [qR 2, qI (n : Int), qI (b : Int), qI md, qI 0, qR 173, qI (bst (fun k => k < n ∧ crE T n (b : Int) md (i + 1) k)), qI (crM T n (b : Int) md (i + 1)), qI (crW T n (b : Int) md (i + 1)), qI ((i + 1 : Nat) : Int), qU]) (fun (i : Nat) (c : Int) (Fa : Nat → Nat → Int) (Ga : Nat → Nat → Int) => (xput h Fa Ga)) (fun (i : Nat) (c : Int) (Fa : Nat → Nat → Int) (Ga : Nat → Nat → Int) => i ≤ 3 * n + 20 ∧ xfr 173 176 F G Fa Ga ∧ rnS Fa Ga 173 n 0 0 (-1) i (cnt (fun k9 => ps T n 0 (-1) (b : Int) i k9 = 7) n) c (ps T n 0 (-1) (b : Int) i) ∧ ∀ j, j < i → ¬ litAt T n 0 (-1) (b : Int) j) 0 0 F1 G1 (⟨by omega, hv1, rnS_M hw1 (fun _ _ => rfl) ps_l0 rfl, fun k hk => absurd hk (by omega)⟩) (fun i c Fa Ga hp kk => ?_))
  obtain ⟨hi, hfr, hS1, hp⟩ := hp
  show qEy M_X11_crowd 68 [qR 2, qI (n : Int), qI (b : Int), qI md, qI 0, qR 173, qI (bst (fun k => k < n ∧ crE T n (b : Int) md (i + 1) k)), qI (crM T n (b : Int) md (i + 1)), qI (crW T n (b : Int) md (i + 1)), qI ((i + 1 : Nat) : Int), qU] [] (xput h Fa Ga) Q
  have hT1 : ∀ c, c < 648 → Ga 6 c = T c := fun c hc => by rw [xfr_G hfr (by decide)]; exact hT c hc
  have c0 := cnt_bd (fun k9 => ps T n 0 (-1) (b : Int) i k9 = 7) n
  refine qy (fun _ _ k9 => z_iload d_X11_crowd_68 rfl k9) ?_
  refine qy (fun _ _ k9 => z_aload d_X11_crowd_70 rfl k9) ?_
  refine qy (fun _ _ k9 => z_getf (v := qI ((Fa 173) 7)) d_X11_crowd_72 fl_X11_336 (xput_ob (c := (Fa 173)) xi_173 rfl (xsh_7 xo_173)) rfl k9) ?_
  refine qy (fun _ _ k9 => z_eq rfl (qc (qi hS1.2.1.1) rfl) rfl k9) ?_
  refine qy2 (fun _ _ => z_icmp_gt 143 d_X11_crowd_75 (by decide)) (fun q75 => ?_) (fun q75 => ?_)
  · refine qy (fun _ _ k9 => z_iload d_X11_crowd_143 rfl k9) ?_
    refine qy2 (fun _ _ => z_if_ne 151 d_X11_crowd_145 (by decide)) (fun hc4 => absurd hc4 (by decide)) (fun hc4 => ?_)
    refine qy (fun _ _ k9 => z_iload d_X11_crowd_148 rfl k9) ?_
    exact y_ret (hQ Fa Ga hfr) (z_iret d_X11_crowd_150 rfl (qsi (by rw [rnJ_at hi hp (Or.inl (by omega))])) rfl)
  · refine qy (fun _ _ k9 => z_aload d_X11_crowd_78 rfl k9) ?_
    refine qy (fun _ _ k9 => z_getf (v := qI ((Fa 173) 9)) d_X11_crowd_80 fl_X11_320 (xput_ob (c := (Fa 173)) xi_173 rfl (xsh_7 xo_173)) rfl k9) ?_
    refine qy (fun _ _ k9 => z_eq rfl (qc (qi hS1.2.1.2.2.1) rfl) rfl k9) ?_
    refine qy2 (fun _ _ => z_if_ne 143 d_X11_crowd_83 (by decide)) (fun q83 => ?_) (fun q83 => ?_)
    · refine qy (fun _ _ k9 => z_iload d_X11_crowd_143 rfl k9) ?_
      refine qy2 (fun _ _ => z_if_ne 151 d_X11_crowd_145 (by decide)) (fun hc5 => absurd hc5 (by decide)) (fun hc5 => ?_)
      refine qy (fun _ _ k9 => z_iload d_X11_crowd_148 rfl k9) ?_
      exact y_ret (hQ Fa Ga hfr) (z_iret d_X11_crowd_150 rfl (qsi (by rw [rnJ_at hi hp (Or.inr (show cnt _ n > 0 by omega))])) rfl)
    · refine qy (fun _ _ k9 => z_aload d_X11_crowd_86 rfl k9) ?_
      refine qy (fun _ _ k9 => z_aload_n d_X11_crowd_88 rfl rfl k9) ?_
      refine qy (fun _ _ k9 => z_getf (v := qR 3) d_X11_crowd_89 fl_X11_12 (xput_ob (c := (Fa 2)) xi_2 rfl (xsh_11 xo_2)) rfl k9) ?_
      refine qy (fun _ _ k9 => z_getf (v := qR 4) d_X11_crowd_92 fl_X11_144 (xput_ob (c := (Fa 3)) xi_3 rfl (xsh_8 xo_3)) rfl k9) ?_
      refine qy (fun _ _ k9 => z_getf (v := qR 6) d_X11_crowd_95 fl_X11_243 (xput_ob (c := (Fa 4)) xi_4 rfl (xsh_0 xo_4)) rfl k9) ?_
      obtain ⟨F2, G2, ⟨hv2, hw2⟩, hx2⟩ := c_rnBr (h := h) (F := Fa) (G := Ga) (u := 173) (d := 6) (n := n) (rg := 0) (t := i) (df := (-1)) (M := (ps T n 0 (-1) (b : Int) i)) (T := T) (by decide) xo_173 xa_6 (by decide) hn (by decide) (by omega) hT1 hS1 (ps_bd hB i)
      refine qy (fun _ _ k9 => z_cv0 (M1 := M_X7_breathe) d_X11_crowd_98 lv_X11_340 k_X7_breathe [qR 6] rfl rfl (xput_ob (c := (Fa 173)) xi_173 rfl (xsh_7 xo_173)) ⟨_, _, rfl⟩ (Nat.le_of_ble_eq_true rfl) (by decide) (by decide) (Nat.le_of_ble_eq_true rfl) hx2 k9) ?_
      refine qy (fun _ _ k9 => z_aload d_X11_crowd_101 rfl k9) ?_
      refine qy (fun _ _ k9 => z_iload_n d_X11_crowd_103 rfl rfl k9) ?_
      refine qy (fun _ _ k9 => z_cv (M1 := M_X7_whoHas) d_X11_crowd_104 lv_X11_354 k_X7_whoHas [qI md] rfl rfl (xput_ob (c := (F2 173)) xi_173 rfl (xsh_7 xo_173)) ⟨_, _, rfl⟩ (Nat.le_of_ble_eq_true rfl) (by decide) (by decide) (Nat.le_of_ble_eq_true rfl) (c_rnWho md (by decide) xo_173 (by omega) hw2) k9) ?_
      refine qy (fun _ _ k9 => z_istore (ls' := [qR 2, qI (n : Int), qI (b : Int), qI md, qI 0, qR 173, qI (bst (fun k => k < n ∧ crE T n (b : Int) md (i + 1) k)), qI (crM T n (b : Int) md (i + 1)), qI (crW T n (b : Int) md (i + 1)), qI ((i + 1 : Nat) : Int), qI (bst (fun k => k < n ∧ ps T n 0 (-1) (b : Int) (i + 1) k = md))]) d_X11_crowd_107 (by decide) rfl k9) ?_
      refine qy (fun _ _ k9 => z_iload d_X11_crowd_109 rfl k9) ?_
      refine qy (fun _ _ k9 => z_iload d_X11_crowd_111 rfl k9) ?_
      refine qy (fun _ _ k9 => z_ior d_X11_crowd_113 k9) ?_
      refine qy (fun _ _ k9 => z_istore (ls' := [qR 2, qI (n : Int), qI (b : Int), qI md, qI 0, qR 173, qI (qOr (bst (fun k => k < n ∧ crE T n (b : Int) md (i + 1) k)) (bst (fun k => k < n ∧ ps T n 0 (-1) (b : Int) (i + 1) k = md))), qI (crM T n (b : Int) md (i + 1)), qI (crW T n (b : Int) md (i + 1)), qI ((i + 1 : Nat) : Int), qI (bst (fun k => k < n ∧ ps T n 0 (-1) (b : Int) (i + 1) k = md))]) d_X11_crowd_114 (by decide) rfl k9) ?_
      refine qy (fun _ _ k9 => z_iload d_X11_crowd_116 rfl k9) ?_
      refine qy (fun _ _ k9 => z_cs (M1 := M_J6_bitCount_0f7a4) d_X11_crowd_118 ls_X11_357 k_J6_bitCount_0f7a4 [qI (bst (fun k => k < n ∧ ps T n 0 (-1) (b : Int) (i + 1) k = md))] rfl rfl (Nat.le_of_ble_eq_true rfl) (by decide) (by decide) (Nat.le_of_ble_eq_true rfl) (by have e9 := c_bits (h := (xput h F2 G2)) (bst (fun k => k < n ∧ ps T n 0 (-1) (b : Int) (i + 1) k = md)); rw [bc_bst (by omega)] at e9; exact e9) k9) ?_
      refine qy (fun _ _ k9 => z_iload d_X11_crowd_121 rfl k9) ?_
      suffices kJ123 : qEy M_X11_crowd 137 [qR 2, qI (n : Int), qI (b : Int), qI md, qI 0, qR 173, qI (qOr (bst (fun k => k < n ∧ crE T n (b : Int) md (i + 1) k)) (bst (fun k => k < n ∧ ps T n 0 (-1) (b : Int) (i + 1) k = md))), qI (qif ((crC T n (b : Int) md (i + 1)) ≤ (crM T n (b : Int) md (i + 1))) (crM T n (b : Int) md (i + 1)) (crC T n (b : Int) md (i + 1))), qI (qif ((crC T n (b : Int) md (i + 1)) ≤ (crM T n (b : Int) md (i + 1))) (crW T n (b : Int) md (i + 1)) ((i + 1 : Nat) : Int)), qI ((i + 1 : Nat) : Int), qI (bst (fun k => k < n ∧ ps T n 0 (-1) (b : Int) (i + 1) k = md))] [] (xput h F2 G2) Q by
        refine qy2 (fun _ _ => z_icmp_le 137 d_X11_crowd_123 (by decide)) (fun hc6 => ?_) (fun hc6 => ?_)
        · exact qy (fun _ _ k9 => z_eq (qc rfl (qc rfl (qc rfl (qc rfl (qc rfl (qc rfl (qc rfl (qc (qi (qif_t hc6).symm) (qc (qi (qif_t hc6).symm) (qc rfl (qc rfl rfl))))))))))) rfl rfl k9) kJ123
        · refine qy (fun _ _ k9 => z_iload d_X11_crowd_126 rfl k9) ?_
          refine qy (fun _ _ k9 => z_cs (M1 := M_J6_bitCount_0f7a4) d_X11_crowd_128 ls_X11_357 k_J6_bitCount_0f7a4 [qI (bst (fun k => k < n ∧ ps T n 0 (-1) (b : Int) (i + 1) k = md))] rfl rfl (Nat.le_of_ble_eq_true rfl) (by decide) (by decide) (Nat.le_of_ble_eq_true rfl) (by have e9 := c_bits (h := (xput h F2 G2)) (bst (fun k => k < n ∧ ps T n 0 (-1) (b : Int) (i + 1) k = md)); rw [bc_bst (by omega)] at e9; exact e9) k9) ?_
          refine qy (fun _ _ k9 => z_istore (ls' := [qR 2, qI (n : Int), qI (b : Int), qI md, qI 0, qR 173, qI (qOr (bst (fun k => k < n ∧ crE T n (b : Int) md (i + 1) k)) (bst (fun k => k < n ∧ ps T n 0 (-1) (b : Int) (i + 1) k = md))), qI (crC T n (b : Int) md (i + 1)), qI (crW T n (b : Int) md (i + 1)), qI ((i + 1 : Nat) : Int), qI (bst (fun k => k < n ∧ ps T n 0 (-1) (b : Int) (i + 1) k = md))]) d_X11_crowd_131 (by decide) rfl k9) ?_
          refine qy (fun _ _ k9 => z_iload d_X11_crowd_133 rfl k9) ?_
          refine qy (fun _ _ k9 => z_istore (ls' := [qR 2, qI (n : Int), qI (b : Int), qI md, qI 0, qR 173, qI (qOr (bst (fun k => k < n ∧ crE T n (b : Int) md (i + 1) k)) (bst (fun k => k < n ∧ ps T n 0 (-1) (b : Int) (i + 1) k = md))), qI (crC T n (b : Int) md (i + 1)), qI ((i + 1 : Nat) : Int), qI ((i + 1 : Nat) : Int), qI (bst (fun k => k < n ∧ ps T n 0 (-1) (b : Int) (i + 1) k = md))]) d_X11_crowd_135 (by decide) rfl k9) ?_
          exact qy (fun _ _ k9 => z_eq (qc rfl (qc rfl (qc rfl (qc rfl (qc rfl (qc rfl (qc rfl (qc (qi (qif_f hc6).symm) (qc (qi (qif_f hc6).symm) (qc rfl (qc rfl rfl))))))))))) rfl rfl k9) kJ123
      refine qy (fun _ _ k9 => z_iinc (ls' := [qR 2, qI (n : Int), qI (b : Int), qI md, qI 0, qR 173, qI (qOr (bst (fun k => k < n ∧ crE T n (b : Int) md (i + 1) k)) (bst (fun k => k < n ∧ ps T n 0 (-1) (b : Int) (i + 1) k = md))), qI (qif ((crC T n (b : Int) md (i + 1)) ≤ (crM T n (b : Int) md (i + 1))) (crM T n (b : Int) md (i + 1)) (crC T n (b : Int) md (i + 1))), qI (qif ((crC T n (b : Int) md (i + 1)) ≤ (crM T n (b : Int) md (i + 1))) (crW T n (b : Int) md (i + 1)) ((i + 1 : Nat) : Int)), qI (((i + 1 : Nat) : Int) + 1), qI (bst (fun k => k < n ∧ ps T n 0 (-1) (b : Int) (i + 1) k = md))]) d_X11_crowd_137 rfl (by decide) (by omega) rfl k9) ?_
      refine qy (fun _ _ k9 => z_goto 68 d_X11_crowd_140 (by decide) k9) ?_
      exact qy (fun _ _ k9 => z_dr (qle_k rfl (qle_k rfl (qle_k rfl (qle_k rfl (qle_k rfl (qle_k rfl (qle_k (qi (crE_o (T := T) (n := n) (b := (b : Int)) (md := md) (i := i + 1))) (qle_k (qi (crM_s (T := T) (n := n) (b := (b : Int)) (md := md) (i := i + 1))) (qle_k (qi (rfl)) (qle_k (qi (by omega)) (qle_d qle_n))))))))))) rfl rfl k9) (kk (i + 1) (cnt (fun k9 => ps T n 0 (-1) (b : Int) (i + 1) k9 ≠ ps T n 0 (-1) (b : Int) i k9) n) F2 G2 (⟨by omega, xfr_tr hfr hv2, hw2, q_lts hp (fun z => by have z2 : cnt (fun k9 => ps T n 0 (-1) (b : Int) i k9 = 7) n > 0 := z; omega)⟩) (by omega))
set_option maxRecDepth 20000 in
set_option maxHeartbeats 4000000 in
theorem xc_crowd1 {h : qH} {F G : Nat → Nat → Int} {n b : Nat} (md : Int) {T : Nat → Int} (hn : 1 ≤ n ∧ n ≤ 32) (hb : b < n) (hmd : 0 ≤ md ∧ md ≤ 7) (hT : ∀ c, c < 648 → G 6 c = T c) (hB : ∀ c, c < 648 → 0 ≤ T c ∧ T c ≤ 7) : ∃ F' G', (xfr 173 176 F G F' G') ∧ qEx M_X11_crowd 0 [qR 2, qI (n : Int), qI (b : Int), qI md, qI 1, qU, qU, qU, qU, qU, qU] [] (xput h F G) (some (qI (crW T n (b : Int) md (rnJ T n 0 (b : Int) + 1)))) (xput h F' G') := by
  refine x_in (fun Q hQ => ?_)
  refine qy (fun _ _ k9 => z_iload_n d_X11_crowd_0 rfl rfl k9) ?_
  refine qy (fun _ _ k9 => z_iload_n d_X11_crowd_1 rfl rfl k9) ?_
  refine qy (fun _ _ k9 => z_cs (M1 := M_X11_isRun) d_X11_crowd_2 ls_X11_280 k_X11_isRun [qI (n : Int), qI (b : Int)] rfl rfl (Nat.le_of_ble_eq_true rfl) (by decide) (by decide) (Nat.le_of_ble_eq_true rfl) (c_isRun (n : Int) (b : Int) (by omega)) k9) ?_
  refine qy2n (fun _ _ => z_ifeqB 28 d_X11_crowd_5 (by decide)) (fun hc1 => absurd hc1 (by omega)) (fun hc1 => ?_)
  refine qy (fun _ _ k9 => z_iload_n d_X11_crowd_8 rfl rfl k9) ?_
  refine qy (fun _ _ k9 => z_iconst d_X11_crowd_9 (by decide) k9) ?_
  refine qy (fun _ _ k9 => z_bipush d_X11_crowd_10 (by decide) k9) ?_
  refine qy (fun _ _ k9 => z_cs (M1 := M_X11_isWithin) d_X11_crowd_12 ls_X11_62 k_X11_isWithin [qI md, qI 0, qI 7] rfl rfl (Nat.le_of_ble_eq_true rfl) (by decide) (by decide) (Nat.le_of_ble_eq_true rfl) (c_isWithin md 0 7) k9) ?_
  refine qy2n (fun _ _ => z_ifeqB 28 d_X11_crowd_15 (by decide)) (fun hc2 => absurd hc2 (by omega)) (fun hc2 => ?_)
  refine qy (fun _ _ k9 => z_iload d_X11_crowd_18 rfl k9) ?_
  refine qy (fun _ _ k9 => z_iconst d_X11_crowd_20 (by decide) k9) ?_
  refine qy (fun _ _ k9 => z_iconst d_X11_crowd_21 (by decide) k9) ?_
  refine qy (fun _ _ k9 => z_cs (M1 := M_X11_isWithin) d_X11_crowd_22 ls_X11_62 k_X11_isWithin [qI 1, qI 0, qI 2] rfl rfl (Nat.le_of_ble_eq_true rfl) (by decide) (by decide) (Nat.le_of_ble_eq_true rfl) (c_isWithin 1 0 2) k9) ?_
  refine qy2 (fun _ _ => z_ifneB 30 d_X11_crowd_25 (by decide)) (fun hc3 => ?_) (fun hc3 => absurd hc3 (by omega))
  refine qy (fun _ _ k9 => z_aload_n d_X11_crowd_30 rfl rfl k9) ?_
  refine qy (fun _ _ k9 => z_getf (v := qR 172) d_X11_crowd_31 fl_X11_40 (xput_ob (c := (F 2)) xi_2 rfl (xsh_11 xo_2)) rfl k9) ?_
  refine qy (fun _ _ k9 => z_getf (v := qR 173) d_X11_crowd_34 fl_X11_293 (xput_ob (c := (F 172)) xi_172 rfl (xsh_9 xo_172)) rfl k9) ?_
  refine qy (fun _ _ k9 => z_astore (ls' := [qR 2, qI (n : Int), qI (b : Int), qI md, qI 1, qR 173, qU, qU, qU, qU, qU]) d_X11_crowd_37 (by decide) rfl k9) ?_
  refine qy (fun _ _ k9 => z_aload d_X11_crowd_39 rfl k9) ?_
  refine qy (fun _ _ k9 => z_iload_n d_X11_crowd_41 rfl rfl k9) ?_
  refine qy (fun _ _ k9 => z_iload_n d_X11_crowd_42 rfl rfl k9) ?_
  refine qy (fun _ _ k9 => z_iconst d_X11_crowd_43 (by decide) k9) ?_
  obtain ⟨F1, G1, ⟨hv1, hw1, hu1, hg1⟩, hx1⟩ := c_rnStart (h := h) (F := F) (G := G) (u := 173) n b 0 (by decide) xo_173 (by omega) (by omega) (by decide)
  refine qy (fun _ _ k9 => z_cv0 (M1 := M_X7_start) d_X11_crowd_44 lv_X11_297 k_X7_start [qI (n : Int), qI (b : Int), qI 0] rfl rfl (xput_ob (c := (F 173)) xi_173 rfl (xsh_7 xo_173)) ⟨_, _, rfl⟩ (Nat.le_of_ble_eq_true rfl) (by decide) (by decide) (Nat.le_of_ble_eq_true rfl) hx1 k9) ?_
  refine qy (fun _ _ k9 => z_aload d_X11_crowd_47 rfl k9) ?_
  refine qy (fun _ _ k9 => z_iload_n d_X11_crowd_49 rfl rfl k9) ?_
  refine qy (fun _ _ k9 => z_cv (M1 := M_X7_whoHas) d_X11_crowd_50 lv_X11_354 k_X7_whoHas [qI md] rfl rfl (xput_ob (c := (F1 173)) xi_173 rfl (xsh_7 xo_173)) ⟨_, _, rfl⟩ (Nat.le_of_ble_eq_true rfl) (by decide) (by decide) (Nat.le_of_ble_eq_true rfl) (c_rnWho md (by decide) xo_173 (by omega) hw1) k9) ?_
  refine qy (fun _ _ k9 => z_istore (ls' := [qR 2, qI (n : Int), qI (b : Int), qI md, qI 1, qR 173, qI (bst (fun k => k < n ∧ ps T n 0 (-1) (b : Int) 0 k = md)), qU, qU, qU, qU]) d_X11_crowd_53 (by decide) rfl k9) ?_
  refine qy (fun _ _ k9 => z_iload d_X11_crowd_55 rfl k9) ?_
  refine qy (fun _ _ k9 => z_cs (M1 := M_J6_bitCount_0f7a4) d_X11_crowd_57 ls_X11_357 k_J6_bitCount_0f7a4 [qI (bst (fun k => k < n ∧ ps T n 0 (-1) (b : Int) 0 k = md))] rfl rfl (Nat.le_of_ble_eq_true rfl) (by decide) (by decide) (Nat.le_of_ble_eq_true rfl) (by have e9 := c_bits (h := (xput h F1 G1)) (bst (fun k => k < n ∧ ps T n 0 (-1) (b : Int) 0 k = md)); rw [bc_bst (by omega)] at e9; exact e9) k9) ?_
  refine qy (fun _ _ k9 => z_istore (ls' := [qR 2, qI (n : Int), qI (b : Int), qI md, qI 1, qR 173, qI (bst (fun k => k < n ∧ ps T n 0 (-1) (b : Int) 0 k = md)), qI (crC T n (b : Int) md 0), qU, qU, qU]) d_X11_crowd_60 (by decide) rfl k9) ?_
  refine qy (fun _ _ k9 => z_iconst d_X11_crowd_62 (by decide) k9) ?_
  refine qy (fun _ _ k9 => z_istore (ls' := [qR 2, qI (n : Int), qI (b : Int), qI md, qI 1, qR 173, qI (bst (fun k => k < n ∧ ps T n 0 (-1) (b : Int) 0 k = md)), qI (crC T n (b : Int) md 0), qI 0, qU, qU]) d_X11_crowd_63 (by decide) rfl k9) ?_
  refine qy (fun _ _ k9 => z_iconst d_X11_crowd_65 (by decide) k9) ?_
  refine qy (fun _ _ k9 => z_istore (ls' := [qR 2, qI (n : Int), qI (b : Int), qI md, qI 1, qR 173, qI (bst (fun k => k < n ∧ ps T n 0 (-1) (b : Int) 0 k = md)), qI (crC T n (b : Int) md 0), qI 0, qI 1, qU]) d_X11_crowd_66 (by decide) rfl k9) ?_
  refine qy (fun _ _ k9 => z_eq (qc rfl (qc rfl (qc rfl (qc rfl (qc rfl (qc rfl (qc (qi (crE_1 (T := T) (n := n) (b := (b : Int)) (md := md))) (qc (qi (crM_1 (T := T) (n := n) (b := (b : Int)) (md := md))) (qc (qi (crW_1 (T := T) (n := n) (b := (b : Int)) (md := md))) (qc (qi (rfl)) (qc rfl rfl))))))))))) rfl rfl k9) (y_wh4 (fun (i : Nat) (c : Int) (Fa : Nat → Nat → Int) (Ga : Nat → Nat → Int) => 3 * n + 20 - i) (fun (i : Nat) (c : Int) (Fa : Nat → Nat → Int) (Ga : Nat → Nat → Int) => [qR 2, qI (n : Int), qI (b : Int), qI md, qI 1, qR 173, qI (bst (fun k => k < n ∧ crE T n (b : Int) md (i + 1) k)), qI (crM T n (b : Int) md (i + 1)), qI (crW T n (b : Int) md (i + 1)), qI ((i + 1 : Nat) : Int), qU]) (fun (i : Nat) (c : Int) (Fa : Nat → Nat → Int) (Ga : Nat → Nat → Int) => (xput h Fa Ga)) (fun (i : Nat) (c : Int) (Fa : Nat → Nat → Int) (Ga : Nat → Nat → Int) => i ≤ 3 * n + 20 ∧ xfr 173 176 F G Fa Ga ∧ rnS Fa Ga 173 n 0 0 (-1) i (cnt (fun k9 => ps T n 0 (-1) (b : Int) i k9 = 7) n) c (ps T n 0 (-1) (b : Int) i) ∧ ∀ j, j < i → ¬ litAt T n 0 (-1) (b : Int) j) 0 0 F1 G1 (⟨by omega, hv1, rnS_M hw1 (fun _ _ => rfl) ps_l0 rfl, fun k hk => absurd hk (by omega)⟩) (fun i c Fa Ga hp kk => ?_))
  obtain ⟨hi, hfr, hS1, hp⟩ := hp
  show qEy M_X11_crowd 68 [qR 2, qI (n : Int), qI (b : Int), qI md, qI 1, qR 173, qI (bst (fun k => k < n ∧ crE T n (b : Int) md (i + 1) k)), qI (crM T n (b : Int) md (i + 1)), qI (crW T n (b : Int) md (i + 1)), qI ((i + 1 : Nat) : Int), qU] [] (xput h Fa Ga) Q
  have hT1 : ∀ c, c < 648 → Ga 6 c = T c := fun c hc => by rw [xfr_G hfr (by decide)]; exact hT c hc
  have c0 := cnt_bd (fun k9 => ps T n 0 (-1) (b : Int) i k9 = 7) n
  refine qy (fun _ _ k9 => z_iload d_X11_crowd_68 rfl k9) ?_
  refine qy (fun _ _ k9 => z_aload d_X11_crowd_70 rfl k9) ?_
  refine qy (fun _ _ k9 => z_getf (v := qI ((Fa 173) 7)) d_X11_crowd_72 fl_X11_336 (xput_ob (c := (Fa 173)) xi_173 rfl (xsh_7 xo_173)) rfl k9) ?_
  refine qy (fun _ _ k9 => z_eq rfl (qc (qi hS1.2.1.1) rfl) rfl k9) ?_
  refine qy2 (fun _ _ => z_icmp_gt 143 d_X11_crowd_75 (by decide)) (fun q75 => ?_) (fun q75 => ?_)
  · refine qy (fun _ _ k9 => z_iload d_X11_crowd_143 rfl k9) ?_
    refine qy2 (fun _ _ => z_if_ne 151 d_X11_crowd_145 (by decide)) (fun hc4 => ?_) (fun hc4 => absurd (by decide) hc4)
    refine qy (fun _ _ k9 => z_iload d_X11_crowd_151 rfl k9) ?_
    refine qy (fun _ _ k9 => z_iconst d_X11_crowd_153 (by decide) k9) ?_
    refine qy2 (fun _ _ => z_icmp_ne 162 d_X11_crowd_154 (by decide)) (fun hc5 => absurd hc5 (by decide)) (fun hc5 => ?_)
    refine qy (fun _ _ k9 => z_iload d_X11_crowd_157 rfl k9) ?_
    refine qy (fun _ _ k9 => z_goto 167 d_X11_crowd_159 (by decide) k9) ?_
    exact y_ret (hQ Fa Ga hfr) (z_iret d_X11_crowd_167 rfl (qsi (by rw [rnJ_at hi hp (Or.inl (by omega))])) rfl)
  · refine qy (fun _ _ k9 => z_aload d_X11_crowd_78 rfl k9) ?_
    refine qy (fun _ _ k9 => z_getf (v := qI ((Fa 173) 9)) d_X11_crowd_80 fl_X11_320 (xput_ob (c := (Fa 173)) xi_173 rfl (xsh_7 xo_173)) rfl k9) ?_
    refine qy (fun _ _ k9 => z_eq rfl (qc (qi hS1.2.1.2.2.1) rfl) rfl k9) ?_
    refine qy2 (fun _ _ => z_if_ne 143 d_X11_crowd_83 (by decide)) (fun q83 => ?_) (fun q83 => ?_)
    · refine qy (fun _ _ k9 => z_iload d_X11_crowd_143 rfl k9) ?_
      refine qy2 (fun _ _ => z_if_ne 151 d_X11_crowd_145 (by decide)) (fun hc6 => ?_) (fun hc6 => absurd (by decide) hc6)
      refine qy (fun _ _ k9 => z_iload d_X11_crowd_151 rfl k9) ?_
      refine qy (fun _ _ k9 => z_iconst d_X11_crowd_153 (by decide) k9) ?_
      refine qy2 (fun _ _ => z_icmp_ne 162 d_X11_crowd_154 (by decide)) (fun hc7 => absurd hc7 (by decide)) (fun hc7 => ?_)
      refine qy (fun _ _ k9 => z_iload d_X11_crowd_157 rfl k9) ?_
      refine qy (fun _ _ k9 => z_goto 167 d_X11_crowd_159 (by decide) k9) ?_
      exact y_ret (hQ Fa Ga hfr) (z_iret d_X11_crowd_167 rfl (qsi (by rw [rnJ_at hi hp (Or.inr (show cnt _ n > 0 by omega))])) rfl)
    · refine qy (fun _ _ k9 => z_aload d_X11_crowd_86 rfl k9) ?_
      refine qy (fun _ _ k9 => z_aload_n d_X11_crowd_88 rfl rfl k9) ?_
      refine qy (fun _ _ k9 => z_getf (v := qR 3) d_X11_crowd_89 fl_X11_12 (xput_ob (c := (Fa 2)) xi_2 rfl (xsh_11 xo_2)) rfl k9) ?_
      refine qy (fun _ _ k9 => z_getf (v := qR 4) d_X11_crowd_92 fl_X11_144 (xput_ob (c := (Fa 3)) xi_3 rfl (xsh_8 xo_3)) rfl k9) ?_
      refine qy (fun _ _ k9 => z_getf (v := qR 6) d_X11_crowd_95 fl_X11_243 (xput_ob (c := (Fa 4)) xi_4 rfl (xsh_0 xo_4)) rfl k9) ?_
      obtain ⟨F2, G2, ⟨hv2, hw2⟩, hx2⟩ := c_rnBr (h := h) (F := Fa) (G := Ga) (u := 173) (d := 6) (n := n) (rg := 0) (t := i) (df := (-1)) (M := (ps T n 0 (-1) (b : Int) i)) (T := T) (by decide) xo_173 xa_6 (by decide) hn (by decide) (by omega) hT1 hS1 (ps_bd hB i)
      refine qy (fun _ _ k9 => z_cv0 (M1 := M_X7_breathe) d_X11_crowd_98 lv_X11_340 k_X7_breathe [qR 6] rfl rfl (xput_ob (c := (Fa 173)) xi_173 rfl (xsh_7 xo_173)) ⟨_, _, rfl⟩ (Nat.le_of_ble_eq_true rfl) (by decide) (by decide) (Nat.le_of_ble_eq_true rfl) hx2 k9) ?_
      refine qy (fun _ _ k9 => z_aload d_X11_crowd_101 rfl k9) ?_
      refine qy (fun _ _ k9 => z_iload_n d_X11_crowd_103 rfl rfl k9) ?_
      refine qy (fun _ _ k9 => z_cv (M1 := M_X7_whoHas) d_X11_crowd_104 lv_X11_354 k_X7_whoHas [qI md] rfl rfl (xput_ob (c := (F2 173)) xi_173 rfl (xsh_7 xo_173)) ⟨_, _, rfl⟩ (Nat.le_of_ble_eq_true rfl) (by decide) (by decide) (Nat.le_of_ble_eq_true rfl) (c_rnWho md (by decide) xo_173 (by omega) hw2) k9) ?_
      refine qy (fun _ _ k9 => z_istore (ls' := [qR 2, qI (n : Int), qI (b : Int), qI md, qI 1, qR 173, qI (bst (fun k => k < n ∧ crE T n (b : Int) md (i + 1) k)), qI (crM T n (b : Int) md (i + 1)), qI (crW T n (b : Int) md (i + 1)), qI ((i + 1 : Nat) : Int), qI (bst (fun k => k < n ∧ ps T n 0 (-1) (b : Int) (i + 1) k = md))]) d_X11_crowd_107 (by decide) rfl k9) ?_
      refine qy (fun _ _ k9 => z_iload d_X11_crowd_109 rfl k9) ?_
      refine qy (fun _ _ k9 => z_iload d_X11_crowd_111 rfl k9) ?_
      refine qy (fun _ _ k9 => z_ior d_X11_crowd_113 k9) ?_
      refine qy (fun _ _ k9 => z_istore (ls' := [qR 2, qI (n : Int), qI (b : Int), qI md, qI 1, qR 173, qI (qOr (bst (fun k => k < n ∧ crE T n (b : Int) md (i + 1) k)) (bst (fun k => k < n ∧ ps T n 0 (-1) (b : Int) (i + 1) k = md))), qI (crM T n (b : Int) md (i + 1)), qI (crW T n (b : Int) md (i + 1)), qI ((i + 1 : Nat) : Int), qI (bst (fun k => k < n ∧ ps T n 0 (-1) (b : Int) (i + 1) k = md))]) d_X11_crowd_114 (by decide) rfl k9) ?_
      refine qy (fun _ _ k9 => z_iload d_X11_crowd_116 rfl k9) ?_
      refine qy (fun _ _ k9 => z_cs (M1 := M_J6_bitCount_0f7a4) d_X11_crowd_118 ls_X11_357 k_J6_bitCount_0f7a4 [qI (bst (fun k => k < n ∧ ps T n 0 (-1) (b : Int) (i + 1) k = md))] rfl rfl (Nat.le_of_ble_eq_true rfl) (by decide) (by decide) (Nat.le_of_ble_eq_true rfl) (by have e9 := c_bits (h := (xput h F2 G2)) (bst (fun k => k < n ∧ ps T n 0 (-1) (b : Int) (i + 1) k = md)); rw [bc_bst (by omega)] at e9; exact e9) k9) ?_
      refine qy (fun _ _ k9 => z_iload d_X11_crowd_121 rfl k9) ?_
      suffices kJ123 : qEy M_X11_crowd 137 [qR 2, qI (n : Int), qI (b : Int), qI md, qI 1, qR 173, qI (qOr (bst (fun k => k < n ∧ crE T n (b : Int) md (i + 1) k)) (bst (fun k => k < n ∧ ps T n 0 (-1) (b : Int) (i + 1) k = md))), qI (qif ((crC T n (b : Int) md (i + 1)) ≤ (crM T n (b : Int) md (i + 1))) (crM T n (b : Int) md (i + 1)) (crC T n (b : Int) md (i + 1))), qI (qif ((crC T n (b : Int) md (i + 1)) ≤ (crM T n (b : Int) md (i + 1))) (crW T n (b : Int) md (i + 1)) ((i + 1 : Nat) : Int)), qI ((i + 1 : Nat) : Int), qI (bst (fun k => k < n ∧ ps T n 0 (-1) (b : Int) (i + 1) k = md))] [] (xput h F2 G2) Q by
        refine qy2 (fun _ _ => z_icmp_le 137 d_X11_crowd_123 (by decide)) (fun hc8 => ?_) (fun hc8 => ?_)
        · exact qy (fun _ _ k9 => z_eq (qc rfl (qc rfl (qc rfl (qc rfl (qc rfl (qc rfl (qc rfl (qc (qi (qif_t hc8).symm) (qc (qi (qif_t hc8).symm) (qc rfl (qc rfl rfl))))))))))) rfl rfl k9) kJ123
        · refine qy (fun _ _ k9 => z_iload d_X11_crowd_126 rfl k9) ?_
          refine qy (fun _ _ k9 => z_cs (M1 := M_J6_bitCount_0f7a4) d_X11_crowd_128 ls_X11_357 k_J6_bitCount_0f7a4 [qI (bst (fun k => k < n ∧ ps T n 0 (-1) (b : Int) (i + 1) k = md))] rfl rfl (Nat.le_of_ble_eq_true rfl) (by decide) (by decide) (Nat.le_of_ble_eq_true rfl) (by have e9 := c_bits (h := (xput h F2 G2)) (bst (fun k => k < n ∧ ps T n 0 (-1) (b : Int) (i + 1) k = md)); rw [bc_bst (by omega)] at e9; exact e9) k9) ?_
          refine qy (fun _ _ k9 => z_istore (ls' := [qR 2, qI (n : Int), qI (b : Int), qI md, qI 1, qR 173, qI (qOr (bst (fun k => k < n ∧ crE T n (b : Int) md (i + 1) k)) (bst (fun k => k < n ∧ ps T n 0 (-1) (b : Int) (i + 1) k = md))), qI (crC T n (b : Int) md (i + 1)), qI (crW T n (b : Int) md (i + 1)), qI ((i + 1 : Nat) : Int), qI (bst (fun k => k < n ∧ ps T n 0 (-1) (b : Int) (i + 1) k = md))]) d_X11_crowd_131 (by decide) rfl k9) ?_
          refine qy (fun _ _ k9 => z_iload d_X11_crowd_133 rfl k9) ?_
          refine qy (fun _ _ k9 => z_istore (ls' := [qR 2, qI (n : Int), qI (b : Int), qI md, qI 1, qR 173, qI (qOr (bst (fun k => k < n ∧ crE T n (b : Int) md (i + 1) k)) (bst (fun k => k < n ∧ ps T n 0 (-1) (b : Int) (i + 1) k = md))), qI (crC T n (b : Int) md (i + 1)), qI ((i + 1 : Nat) : Int), qI ((i + 1 : Nat) : Int), qI (bst (fun k => k < n ∧ ps T n 0 (-1) (b : Int) (i + 1) k = md))]) d_X11_crowd_135 (by decide) rfl k9) ?_
          exact qy (fun _ _ k9 => z_eq (qc rfl (qc rfl (qc rfl (qc rfl (qc rfl (qc rfl (qc rfl (qc (qi (qif_f hc8).symm) (qc (qi (qif_f hc8).symm) (qc rfl (qc rfl rfl))))))))))) rfl rfl k9) kJ123
      refine qy (fun _ _ k9 => z_iinc (ls' := [qR 2, qI (n : Int), qI (b : Int), qI md, qI 1, qR 173, qI (qOr (bst (fun k => k < n ∧ crE T n (b : Int) md (i + 1) k)) (bst (fun k => k < n ∧ ps T n 0 (-1) (b : Int) (i + 1) k = md))), qI (qif ((crC T n (b : Int) md (i + 1)) ≤ (crM T n (b : Int) md (i + 1))) (crM T n (b : Int) md (i + 1)) (crC T n (b : Int) md (i + 1))), qI (qif ((crC T n (b : Int) md (i + 1)) ≤ (crM T n (b : Int) md (i + 1))) (crW T n (b : Int) md (i + 1)) ((i + 1 : Nat) : Int)), qI (((i + 1 : Nat) : Int) + 1), qI (bst (fun k => k < n ∧ ps T n 0 (-1) (b : Int) (i + 1) k = md))]) d_X11_crowd_137 rfl (by decide) (by omega) rfl k9) ?_
      refine qy (fun _ _ k9 => z_goto 68 d_X11_crowd_140 (by decide) k9) ?_
      exact qy (fun _ _ k9 => z_dr (qle_k rfl (qle_k rfl (qle_k rfl (qle_k rfl (qle_k rfl (qle_k rfl (qle_k (qi (crE_o (T := T) (n := n) (b := (b : Int)) (md := md) (i := i + 1))) (qle_k (qi (crM_s (T := T) (n := n) (b := (b : Int)) (md := md) (i := i + 1))) (qle_k (qi (rfl)) (qle_k (qi (by omega)) (qle_d qle_n))))))))))) rfl rfl k9) (kk (i + 1) (cnt (fun k9 => ps T n 0 (-1) (b : Int) (i + 1) k9 ≠ ps T n 0 (-1) (b : Int) i k9) n) F2 G2 (⟨by omega, xfr_tr hfr hv2, hw2, q_lts hp (fun z => by have z2 : cnt (fun k9 => ps T n 0 (-1) (b : Int) i k9 = 7) n > 0 := z; omega)⟩) (by omega))
set_option maxRecDepth 20000 in
set_option maxHeartbeats 4000000 in
theorem xc_crowd2 {h : qH} {F G : Nat → Nat → Int} {n b : Nat} (md : Int) {T : Nat → Int} (hn : 1 ≤ n ∧ n ≤ 32) (hb : b < n) (hmd : 0 ≤ md ∧ md ≤ 7) (hT : ∀ c, c < 648 → G 6 c = T c) (hB : ∀ c, c < 648 → 0 ≤ T c ∧ T c ≤ 7) : ∃ F' G', (xfr 173 176 F G F' G') ∧ qEx M_X11_crowd 0 [qR 2, qI (n : Int), qI (b : Int), qI md, qI 2, qU, qU, qU, qU, qU, qU] [] (xput h F G) (some (qI (cnt (fun k => crE T n (b : Int) md (rnJ T n 0 (b : Int) + 1) k) n))) (xput h F' G') := by
  refine x_in (fun Q hQ => ?_)
  refine qy (fun _ _ k9 => z_iload_n d_X11_crowd_0 rfl rfl k9) ?_
  refine qy (fun _ _ k9 => z_iload_n d_X11_crowd_1 rfl rfl k9) ?_
  refine qy (fun _ _ k9 => z_cs (M1 := M_X11_isRun) d_X11_crowd_2 ls_X11_280 k_X11_isRun [qI (n : Int), qI (b : Int)] rfl rfl (Nat.le_of_ble_eq_true rfl) (by decide) (by decide) (Nat.le_of_ble_eq_true rfl) (c_isRun (n : Int) (b : Int) (by omega)) k9) ?_
  refine qy2n (fun _ _ => z_ifeqB 28 d_X11_crowd_5 (by decide)) (fun hc1 => absurd hc1 (by omega)) (fun hc1 => ?_)
  refine qy (fun _ _ k9 => z_iload_n d_X11_crowd_8 rfl rfl k9) ?_
  refine qy (fun _ _ k9 => z_iconst d_X11_crowd_9 (by decide) k9) ?_
  refine qy (fun _ _ k9 => z_bipush d_X11_crowd_10 (by decide) k9) ?_
  refine qy (fun _ _ k9 => z_cs (M1 := M_X11_isWithin) d_X11_crowd_12 ls_X11_62 k_X11_isWithin [qI md, qI 0, qI 7] rfl rfl (Nat.le_of_ble_eq_true rfl) (by decide) (by decide) (Nat.le_of_ble_eq_true rfl) (c_isWithin md 0 7) k9) ?_
  refine qy2n (fun _ _ => z_ifeqB 28 d_X11_crowd_15 (by decide)) (fun hc2 => absurd hc2 (by omega)) (fun hc2 => ?_)
  refine qy (fun _ _ k9 => z_iload d_X11_crowd_18 rfl k9) ?_
  refine qy (fun _ _ k9 => z_iconst d_X11_crowd_20 (by decide) k9) ?_
  refine qy (fun _ _ k9 => z_iconst d_X11_crowd_21 (by decide) k9) ?_
  refine qy (fun _ _ k9 => z_cs (M1 := M_X11_isWithin) d_X11_crowd_22 ls_X11_62 k_X11_isWithin [qI 2, qI 0, qI 2] rfl rfl (Nat.le_of_ble_eq_true rfl) (by decide) (by decide) (Nat.le_of_ble_eq_true rfl) (c_isWithin 2 0 2) k9) ?_
  refine qy2 (fun _ _ => z_ifneB 30 d_X11_crowd_25 (by decide)) (fun hc3 => ?_) (fun hc3 => absurd hc3 (by omega))
  refine qy (fun _ _ k9 => z_aload_n d_X11_crowd_30 rfl rfl k9) ?_
  refine qy (fun _ _ k9 => z_getf (v := qR 172) d_X11_crowd_31 fl_X11_40 (xput_ob (c := (F 2)) xi_2 rfl (xsh_11 xo_2)) rfl k9) ?_
  refine qy (fun _ _ k9 => z_getf (v := qR 173) d_X11_crowd_34 fl_X11_293 (xput_ob (c := (F 172)) xi_172 rfl (xsh_9 xo_172)) rfl k9) ?_
  refine qy (fun _ _ k9 => z_astore (ls' := [qR 2, qI (n : Int), qI (b : Int), qI md, qI 2, qR 173, qU, qU, qU, qU, qU]) d_X11_crowd_37 (by decide) rfl k9) ?_
  refine qy (fun _ _ k9 => z_aload d_X11_crowd_39 rfl k9) ?_
  refine qy (fun _ _ k9 => z_iload_n d_X11_crowd_41 rfl rfl k9) ?_
  refine qy (fun _ _ k9 => z_iload_n d_X11_crowd_42 rfl rfl k9) ?_
  refine qy (fun _ _ k9 => z_iconst d_X11_crowd_43 (by decide) k9) ?_
  obtain ⟨F1, G1, ⟨hv1, hw1, hu1, hg1⟩, hx1⟩ := c_rnStart (h := h) (F := F) (G := G) (u := 173) n b 0 (by decide) xo_173 (by omega) (by omega) (by decide)
  refine qy (fun _ _ k9 => z_cv0 (M1 := M_X7_start) d_X11_crowd_44 lv_X11_297 k_X7_start [qI (n : Int), qI (b : Int), qI 0] rfl rfl (xput_ob (c := (F 173)) xi_173 rfl (xsh_7 xo_173)) ⟨_, _, rfl⟩ (Nat.le_of_ble_eq_true rfl) (by decide) (by decide) (Nat.le_of_ble_eq_true rfl) hx1 k9) ?_
  refine qy (fun _ _ k9 => z_aload d_X11_crowd_47 rfl k9) ?_
  refine qy (fun _ _ k9 => z_iload_n d_X11_crowd_49 rfl rfl k9) ?_
  refine qy (fun _ _ k9 => z_cv (M1 := M_X7_whoHas) d_X11_crowd_50 lv_X11_354 k_X7_whoHas [qI md] rfl rfl (xput_ob (c := (F1 173)) xi_173 rfl (xsh_7 xo_173)) ⟨_, _, rfl⟩ (Nat.le_of_ble_eq_true rfl) (by decide) (by decide) (Nat.le_of_ble_eq_true rfl) (c_rnWho md (by decide) xo_173 (by omega) hw1) k9) ?_
  refine qy (fun _ _ k9 => z_istore (ls' := [qR 2, qI (n : Int), qI (b : Int), qI md, qI 2, qR 173, qI (bst (fun k => k < n ∧ ps T n 0 (-1) (b : Int) 0 k = md)), qU, qU, qU, qU]) d_X11_crowd_53 (by decide) rfl k9) ?_
  refine qy (fun _ _ k9 => z_iload d_X11_crowd_55 rfl k9) ?_
  refine qy (fun _ _ k9 => z_cs (M1 := M_J6_bitCount_0f7a4) d_X11_crowd_57 ls_X11_357 k_J6_bitCount_0f7a4 [qI (bst (fun k => k < n ∧ ps T n 0 (-1) (b : Int) 0 k = md))] rfl rfl (Nat.le_of_ble_eq_true rfl) (by decide) (by decide) (Nat.le_of_ble_eq_true rfl) (by have e9 := c_bits (h := (xput h F1 G1)) (bst (fun k => k < n ∧ ps T n 0 (-1) (b : Int) 0 k = md)); rw [bc_bst (by omega)] at e9; exact e9) k9) ?_
  refine qy (fun _ _ k9 => z_istore (ls' := [qR 2, qI (n : Int), qI (b : Int), qI md, qI 2, qR 173, qI (bst (fun k => k < n ∧ ps T n 0 (-1) (b : Int) 0 k = md)), qI (crC T n (b : Int) md 0), qU, qU, qU]) d_X11_crowd_60 (by decide) rfl k9) ?_
  refine qy (fun _ _ k9 => z_iconst d_X11_crowd_62 (by decide) k9) ?_
  refine qy (fun _ _ k9 => z_istore (ls' := [qR 2, qI (n : Int), qI (b : Int), qI md, qI 2, qR 173, qI (bst (fun k => k < n ∧ ps T n 0 (-1) (b : Int) 0 k = md)), qI (crC T n (b : Int) md 0), qI 0, qU, qU]) d_X11_crowd_63 (by decide) rfl k9) ?_
  refine qy (fun _ _ k9 => z_iconst d_X11_crowd_65 (by decide) k9) ?_
  refine qy (fun _ _ k9 => z_istore (ls' := [qR 2, qI (n : Int), qI (b : Int), qI md, qI 2, qR 173, qI (bst (fun k => k < n ∧ ps T n 0 (-1) (b : Int) 0 k = md)), qI (crC T n (b : Int) md 0), qI 0, qI 1, qU]) d_X11_crowd_66 (by decide) rfl k9) ?_
  refine qy (fun _ _ k9 => z_eq (qc rfl (qc rfl (qc rfl (qc rfl (qc rfl (qc rfl (qc (qi (crE_1 (T := T) (n := n) (b := (b : Int)) (md := md))) (qc (qi (crM_1 (T := T) (n := n) (b := (b : Int)) (md := md))) (qc (qi (crW_1 (T := T) (n := n) (b := (b : Int)) (md := md))) (qc (qi (rfl)) (qc rfl rfl))))))))))) rfl rfl k9) (y_wh4 (fun (i : Nat) (c : Int) (Fa : Nat → Nat → Int) (Ga : Nat → Nat → Int) => 3 * n + 20 - i) (fun (i : Nat) (c : Int) (Fa : Nat → Nat → Int) (Ga : Nat → Nat → Int) => [qR 2, qI (n : Int), qI (b : Int), qI md, qI 2, qR 173, qI (bst (fun k => k < n ∧ crE T n (b : Int) md (i + 1) k)), qI (crM T n (b : Int) md (i + 1)), qI (crW T n (b : Int) md (i + 1)), qI ((i + 1 : Nat) : Int), qU]) (fun (i : Nat) (c : Int) (Fa : Nat → Nat → Int) (Ga : Nat → Nat → Int) => (xput h Fa Ga)) (fun (i : Nat) (c : Int) (Fa : Nat → Nat → Int) (Ga : Nat → Nat → Int) => i ≤ 3 * n + 20 ∧ xfr 173 176 F G Fa Ga ∧ rnS Fa Ga 173 n 0 0 (-1) i (cnt (fun k9 => ps T n 0 (-1) (b : Int) i k9 = 7) n) c (ps T n 0 (-1) (b : Int) i) ∧ ∀ j, j < i → ¬ litAt T n 0 (-1) (b : Int) j) 0 0 F1 G1 (⟨by omega, hv1, rnS_M hw1 (fun _ _ => rfl) ps_l0 rfl, fun k hk => absurd hk (by omega)⟩) (fun i c Fa Ga hp kk => ?_))
  obtain ⟨hi, hfr, hS1, hp⟩ := hp
  show qEy M_X11_crowd 68 [qR 2, qI (n : Int), qI (b : Int), qI md, qI 2, qR 173, qI (bst (fun k => k < n ∧ crE T n (b : Int) md (i + 1) k)), qI (crM T n (b : Int) md (i + 1)), qI (crW T n (b : Int) md (i + 1)), qI ((i + 1 : Nat) : Int), qU] [] (xput h Fa Ga) Q
  have hT1 : ∀ c, c < 648 → Ga 6 c = T c := fun c hc => by rw [xfr_G hfr (by decide)]; exact hT c hc
  have c0 := cnt_bd (fun k9 => ps T n 0 (-1) (b : Int) i k9 = 7) n
  refine qy (fun _ _ k9 => z_iload d_X11_crowd_68 rfl k9) ?_
  refine qy (fun _ _ k9 => z_aload d_X11_crowd_70 rfl k9) ?_
  refine qy (fun _ _ k9 => z_getf (v := qI ((Fa 173) 7)) d_X11_crowd_72 fl_X11_336 (xput_ob (c := (Fa 173)) xi_173 rfl (xsh_7 xo_173)) rfl k9) ?_
  refine qy (fun _ _ k9 => z_eq rfl (qc (qi hS1.2.1.1) rfl) rfl k9) ?_
  refine qy2 (fun _ _ => z_icmp_gt 143 d_X11_crowd_75 (by decide)) (fun q75 => ?_) (fun q75 => ?_)
  · refine qy (fun _ _ k9 => z_iload d_X11_crowd_143 rfl k9) ?_
    refine qy2 (fun _ _ => z_if_ne 151 d_X11_crowd_145 (by decide)) (fun hc4 => ?_) (fun hc4 => absurd (by decide) hc4)
    refine qy (fun _ _ k9 => z_iload d_X11_crowd_151 rfl k9) ?_
    refine qy (fun _ _ k9 => z_iconst d_X11_crowd_153 (by decide) k9) ?_
    refine qy2 (fun _ _ => z_icmp_ne 162 d_X11_crowd_154 (by decide)) (fun hc5 => ?_) (fun hc5 => absurd (by decide) hc5)
    refine qy (fun _ _ k9 => z_iload d_X11_crowd_162 rfl k9) ?_
    refine qy (fun _ _ k9 => z_cs (M1 := M_J6_bitCount_0f7a4) d_X11_crowd_164 ls_X11_357 k_J6_bitCount_0f7a4 [qI (bst (fun k => k < n ∧ crE T n (b : Int) md (i + 1) k))] rfl rfl (Nat.le_of_ble_eq_true rfl) (by decide) (by decide) (Nat.le_of_ble_eq_true rfl) (by have e9 := c_bits (h := (xput h Fa Ga)) (bst (fun k => k < n ∧ crE T n (b : Int) md (i + 1) k)); rw [bc_bst (by omega)] at e9; exact e9) k9) ?_
    exact y_ret (hQ Fa Ga hfr) (z_iret d_X11_crowd_167 rfl (qsi (by rw [rnJ_at hi hp (Or.inl (by omega))])) rfl)
  · refine qy (fun _ _ k9 => z_aload d_X11_crowd_78 rfl k9) ?_
    refine qy (fun _ _ k9 => z_getf (v := qI ((Fa 173) 9)) d_X11_crowd_80 fl_X11_320 (xput_ob (c := (Fa 173)) xi_173 rfl (xsh_7 xo_173)) rfl k9) ?_
    refine qy (fun _ _ k9 => z_eq rfl (qc (qi hS1.2.1.2.2.1) rfl) rfl k9) ?_
    refine qy2 (fun _ _ => z_if_ne 143 d_X11_crowd_83 (by decide)) (fun q83 => ?_) (fun q83 => ?_)
    · refine qy (fun _ _ k9 => z_iload d_X11_crowd_143 rfl k9) ?_
      refine qy2 (fun _ _ => z_if_ne 151 d_X11_crowd_145 (by decide)) (fun hc6 => ?_) (fun hc6 => absurd (by decide) hc6)
      refine qy (fun _ _ k9 => z_iload d_X11_crowd_151 rfl k9) ?_
      refine qy (fun _ _ k9 => z_iconst d_X11_crowd_153 (by decide) k9) ?_
      refine qy2 (fun _ _ => z_icmp_ne 162 d_X11_crowd_154 (by decide)) (fun hc7 => ?_) (fun hc7 => absurd (by decide) hc7)
      refine qy (fun _ _ k9 => z_iload d_X11_crowd_162 rfl k9) ?_
      refine qy (fun _ _ k9 => z_cs (M1 := M_J6_bitCount_0f7a4) d_X11_crowd_164 ls_X11_357 k_J6_bitCount_0f7a4 [qI (bst (fun k => k < n ∧ crE T n (b : Int) md (i + 1) k))] rfl rfl (Nat.le_of_ble_eq_true rfl) (by decide) (by decide) (Nat.le_of_ble_eq_true rfl) (by have e9 := c_bits (h := (xput h Fa Ga)) (bst (fun k => k < n ∧ crE T n (b : Int) md (i + 1) k)); rw [bc_bst (by omega)] at e9; exact e9) k9) ?_
      exact y_ret (hQ Fa Ga hfr) (z_iret d_X11_crowd_167 rfl (qsi (by rw [rnJ_at hi hp (Or.inr (show cnt _ n > 0 by omega))])) rfl)
    · refine qy (fun _ _ k9 => z_aload d_X11_crowd_86 rfl k9) ?_
      refine qy (fun _ _ k9 => z_aload_n d_X11_crowd_88 rfl rfl k9) ?_
      refine qy (fun _ _ k9 => z_getf (v := qR 3) d_X11_crowd_89 fl_X11_12 (xput_ob (c := (Fa 2)) xi_2 rfl (xsh_11 xo_2)) rfl k9) ?_
      refine qy (fun _ _ k9 => z_getf (v := qR 4) d_X11_crowd_92 fl_X11_144 (xput_ob (c := (Fa 3)) xi_3 rfl (xsh_8 xo_3)) rfl k9) ?_
      refine qy (fun _ _ k9 => z_getf (v := qR 6) d_X11_crowd_95 fl_X11_243 (xput_ob (c := (Fa 4)) xi_4 rfl (xsh_0 xo_4)) rfl k9) ?_
      obtain ⟨F2, G2, ⟨hv2, hw2⟩, hx2⟩ := c_rnBr (h := h) (F := Fa) (G := Ga) (u := 173) (d := 6) (n := n) (rg := 0) (t := i) (df := (-1)) (M := (ps T n 0 (-1) (b : Int) i)) (T := T) (by decide) xo_173 xa_6 (by decide) hn (by decide) (by omega) hT1 hS1 (ps_bd hB i)
      refine qy (fun _ _ k9 => z_cv0 (M1 := M_X7_breathe) d_X11_crowd_98 lv_X11_340 k_X7_breathe [qR 6] rfl rfl (xput_ob (c := (Fa 173)) xi_173 rfl (xsh_7 xo_173)) ⟨_, _, rfl⟩ (Nat.le_of_ble_eq_true rfl) (by decide) (by decide) (Nat.le_of_ble_eq_true rfl) hx2 k9) ?_
      refine qy (fun _ _ k9 => z_aload d_X11_crowd_101 rfl k9) ?_
      refine qy (fun _ _ k9 => z_iload_n d_X11_crowd_103 rfl rfl k9) ?_
      refine qy (fun _ _ k9 => z_cv (M1 := M_X7_whoHas) d_X11_crowd_104 lv_X11_354 k_X7_whoHas [qI md] rfl rfl (xput_ob (c := (F2 173)) xi_173 rfl (xsh_7 xo_173)) ⟨_, _, rfl⟩ (Nat.le_of_ble_eq_true rfl) (by decide) (by decide) (Nat.le_of_ble_eq_true rfl) (c_rnWho md (by decide) xo_173 (by omega) hw2) k9) ?_
      refine qy (fun _ _ k9 => z_istore (ls' := [qR 2, qI (n : Int), qI (b : Int), qI md, qI 2, qR 173, qI (bst (fun k => k < n ∧ crE T n (b : Int) md (i + 1) k)), qI (crM T n (b : Int) md (i + 1)), qI (crW T n (b : Int) md (i + 1)), qI ((i + 1 : Nat) : Int), qI (bst (fun k => k < n ∧ ps T n 0 (-1) (b : Int) (i + 1) k = md))]) d_X11_crowd_107 (by decide) rfl k9) ?_
      refine qy (fun _ _ k9 => z_iload d_X11_crowd_109 rfl k9) ?_
      refine qy (fun _ _ k9 => z_iload d_X11_crowd_111 rfl k9) ?_
      refine qy (fun _ _ k9 => z_ior d_X11_crowd_113 k9) ?_
      refine qy (fun _ _ k9 => z_istore (ls' := [qR 2, qI (n : Int), qI (b : Int), qI md, qI 2, qR 173, qI (qOr (bst (fun k => k < n ∧ crE T n (b : Int) md (i + 1) k)) (bst (fun k => k < n ∧ ps T n 0 (-1) (b : Int) (i + 1) k = md))), qI (crM T n (b : Int) md (i + 1)), qI (crW T n (b : Int) md (i + 1)), qI ((i + 1 : Nat) : Int), qI (bst (fun k => k < n ∧ ps T n 0 (-1) (b : Int) (i + 1) k = md))]) d_X11_crowd_114 (by decide) rfl k9) ?_
      refine qy (fun _ _ k9 => z_iload d_X11_crowd_116 rfl k9) ?_
      refine qy (fun _ _ k9 => z_cs (M1 := M_J6_bitCount_0f7a4) d_X11_crowd_118 ls_X11_357 k_J6_bitCount_0f7a4 [qI (bst (fun k => k < n ∧ ps T n 0 (-1) (b : Int) (i + 1) k = md))] rfl rfl (Nat.le_of_ble_eq_true rfl) (by decide) (by decide) (Nat.le_of_ble_eq_true rfl) (by have e9 := c_bits (h := (xput h F2 G2)) (bst (fun k => k < n ∧ ps T n 0 (-1) (b : Int) (i + 1) k = md)); rw [bc_bst (by omega)] at e9; exact e9) k9) ?_
      refine qy (fun _ _ k9 => z_iload d_X11_crowd_121 rfl k9) ?_
      suffices kJ123 : qEy M_X11_crowd 137 [qR 2, qI (n : Int), qI (b : Int), qI md, qI 2, qR 173, qI (qOr (bst (fun k => k < n ∧ crE T n (b : Int) md (i + 1) k)) (bst (fun k => k < n ∧ ps T n 0 (-1) (b : Int) (i + 1) k = md))), qI (qif ((crC T n (b : Int) md (i + 1)) ≤ (crM T n (b : Int) md (i + 1))) (crM T n (b : Int) md (i + 1)) (crC T n (b : Int) md (i + 1))), qI (qif ((crC T n (b : Int) md (i + 1)) ≤ (crM T n (b : Int) md (i + 1))) (crW T n (b : Int) md (i + 1)) ((i + 1 : Nat) : Int)), qI ((i + 1 : Nat) : Int), qI (bst (fun k => k < n ∧ ps T n 0 (-1) (b : Int) (i + 1) k = md))] [] (xput h F2 G2) Q by
        refine qy2 (fun _ _ => z_icmp_le 137 d_X11_crowd_123 (by decide)) (fun hc8 => ?_) (fun hc8 => ?_)
        · exact qy (fun _ _ k9 => z_eq (qc rfl (qc rfl (qc rfl (qc rfl (qc rfl (qc rfl (qc rfl (qc (qi (qif_t hc8).symm) (qc (qi (qif_t hc8).symm) (qc rfl (qc rfl rfl))))))))))) rfl rfl k9) kJ123
        · refine qy (fun _ _ k9 => z_iload d_X11_crowd_126 rfl k9) ?_
          refine qy (fun _ _ k9 => z_cs (M1 := M_J6_bitCount_0f7a4) d_X11_crowd_128 ls_X11_357 k_J6_bitCount_0f7a4 [qI (bst (fun k => k < n ∧ ps T n 0 (-1) (b : Int) (i + 1) k = md))] rfl rfl (Nat.le_of_ble_eq_true rfl) (by decide) (by decide) (Nat.le_of_ble_eq_true rfl) (by have e9 := c_bits (h := (xput h F2 G2)) (bst (fun k => k < n ∧ ps T n 0 (-1) (b : Int) (i + 1) k = md)); rw [bc_bst (by omega)] at e9; exact e9) k9) ?_
          refine qy (fun _ _ k9 => z_istore (ls' := [qR 2, qI (n : Int), qI (b : Int), qI md, qI 2, qR 173, qI (qOr (bst (fun k => k < n ∧ crE T n (b : Int) md (i + 1) k)) (bst (fun k => k < n ∧ ps T n 0 (-1) (b : Int) (i + 1) k = md))), qI (crC T n (b : Int) md (i + 1)), qI (crW T n (b : Int) md (i + 1)), qI ((i + 1 : Nat) : Int), qI (bst (fun k => k < n ∧ ps T n 0 (-1) (b : Int) (i + 1) k = md))]) d_X11_crowd_131 (by decide) rfl k9) ?_
          refine qy (fun _ _ k9 => z_iload d_X11_crowd_133 rfl k9) ?_
          refine qy (fun _ _ k9 => z_istore (ls' := [qR 2, qI (n : Int), qI (b : Int), qI md, qI 2, qR 173, qI (qOr (bst (fun k => k < n ∧ crE T n (b : Int) md (i + 1) k)) (bst (fun k => k < n ∧ ps T n 0 (-1) (b : Int) (i + 1) k = md))), qI (crC T n (b : Int) md (i + 1)), qI ((i + 1 : Nat) : Int), qI ((i + 1 : Nat) : Int), qI (bst (fun k => k < n ∧ ps T n 0 (-1) (b : Int) (i + 1) k = md))]) d_X11_crowd_135 (by decide) rfl k9) ?_
          exact qy (fun _ _ k9 => z_eq (qc rfl (qc rfl (qc rfl (qc rfl (qc rfl (qc rfl (qc rfl (qc (qi (qif_f hc8).symm) (qc (qi (qif_f hc8).symm) (qc rfl (qc rfl rfl))))))))))) rfl rfl k9) kJ123
      refine qy (fun _ _ k9 => z_iinc (ls' := [qR 2, qI (n : Int), qI (b : Int), qI md, qI 2, qR 173, qI (qOr (bst (fun k => k < n ∧ crE T n (b : Int) md (i + 1) k)) (bst (fun k => k < n ∧ ps T n 0 (-1) (b : Int) (i + 1) k = md))), qI (qif ((crC T n (b : Int) md (i + 1)) ≤ (crM T n (b : Int) md (i + 1))) (crM T n (b : Int) md (i + 1)) (crC T n (b : Int) md (i + 1))), qI (qif ((crC T n (b : Int) md (i + 1)) ≤ (crM T n (b : Int) md (i + 1))) (crW T n (b : Int) md (i + 1)) ((i + 1 : Nat) : Int)), qI (((i + 1 : Nat) : Int) + 1), qI (bst (fun k => k < n ∧ ps T n 0 (-1) (b : Int) (i + 1) k = md))]) d_X11_crowd_137 rfl (by decide) (by omega) rfl k9) ?_
      refine qy (fun _ _ k9 => z_goto 68 d_X11_crowd_140 (by decide) k9) ?_
      exact qy (fun _ _ k9 => z_dr (qle_k rfl (qle_k rfl (qle_k rfl (qle_k rfl (qle_k rfl (qle_k rfl (qle_k (qi (crE_o (T := T) (n := n) (b := (b : Int)) (md := md) (i := i + 1))) (qle_k (qi (crM_s (T := T) (n := n) (b := (b : Int)) (md := md) (i := i + 1))) (qle_k (qi (rfl)) (qle_k (qi (by omega)) (qle_d qle_n))))))))))) rfl rfl k9) (kk (i + 1) (cnt (fun k9 => ps T n 0 (-1) (b : Int) (i + 1) k9 ≠ ps T n 0 (-1) (b : Int) i k9) n) F2 G2 (⟨by omega, xfr_tr hfr hv2, hw2, q_lts hp (fun z => by have z2 : cnt (fun k9 => ps T n 0 (-1) (b : Int) i k9 = 7) n > 0 := z; omega)⟩) (by omega))
set_option maxRecDepth 20000 in
set_option maxHeartbeats 4000000 in
theorem xc_crowd_no {h : qH} {F G : Nat → Nat → Int} (n b md what : Int) (hnR : R32 n) (hno : ¬ (((1 ≤ n ∧ n ≤ 32) ∧ 0 ≤ b ∧ b < n) ∧ (0 ≤ md ∧ md ≤ 7) ∧ 0 ≤ what ∧ what ≤ 2)) : qEx M_X11_crowd 0 [qR 2, qI n, qI b, qI md, qI what, qU, qU, qU, qU, qU, qU] [] (xput h F G) (some (qI (-1))) (xput h F G) := by
  refine q_gen (fun r hr er eh => ?_)
  refine z_iload_n d_X11_crowd_0 rfl rfl ?_
  refine z_iload_n d_X11_crowd_1 rfl rfl ?_
  refine z_cs (M1 := M_X11_isRun) d_X11_crowd_2 ls_X11_280 k_X11_isRun [qI n, qI b] rfl rfl (Nat.le_of_ble_eq_true rfl) (by decide) (by decide) (Nat.le_of_ble_eq_true rfl) (c_isRun n b (by first | omega | exact hnR)) ?_
  refine z_ifeqB 28 d_X11_crowd_5 (by decide) (fun q5 => ?_) (fun q5 => ?_)
  · refine z_iconst d_X11_crowd_28 (by decide) ?_
    exact z_iret d_X11_crowd_29 rfl er eh
  · refine z_iload_n d_X11_crowd_8 rfl rfl ?_
    refine z_iconst d_X11_crowd_9 (by decide) ?_
    refine z_bipush d_X11_crowd_10 (by decide) ?_
    refine z_cs (M1 := M_X11_isWithin) d_X11_crowd_12 ls_X11_62 k_X11_isWithin [qI md, qI 0, qI 7] rfl rfl (Nat.le_of_ble_eq_true rfl) (by decide) (by decide) (Nat.le_of_ble_eq_true rfl) (c_isWithin md 0 7) ?_
    refine z_ifeqB 28 d_X11_crowd_15 (by decide) (fun q15 => ?_) (fun q15 => ?_)
    · refine z_iconst d_X11_crowd_28 (by decide) ?_
      exact z_iret d_X11_crowd_29 rfl er eh
    · refine z_iload d_X11_crowd_18 rfl ?_
      refine z_iconst d_X11_crowd_20 (by decide) ?_
      refine z_iconst d_X11_crowd_21 (by decide) ?_
      refine z_cs (M1 := M_X11_isWithin) d_X11_crowd_22 ls_X11_62 k_X11_isWithin [qI what, qI 0, qI 2] rfl rfl (Nat.le_of_ble_eq_true rfl) (by decide) (by decide) (Nat.le_of_ble_eq_true rfl) (c_isWithin what 0 2) ?_
      refine z_ifneB 30 d_X11_crowd_25 (by decide) (fun q25 => ?_) (fun q25 => ?_)
      · exact absurd ⟨q5, q15, q25⟩ hno
      · refine z_iconst d_X11_crowd_28 (by decide) ?_
        exact z_iret d_X11_crowd_29 rfl er eh
set_option maxRecDepth 20000 in
set_option maxHeartbeats 4000000 in
theorem xc_begun0 {h : qH} {F G : Nat → Nat → Int} {n : Nat} {T : Nat → Int} (hn : 1 ≤ n ∧ n ≤ 32) (hT : ∀ c, c < 648 → G 6 c = T c) (hB : ∀ c, c < 648 → 0 ≤ T c ∧ T c ≤ 7) : ∃ F' G', (xfr 173 176 F G F' G') ∧ qEx M_X11_begun 0 [qR 2, qI (n : Int), qI 0, qU, qU, qU, qU, qU, qU] [] (xput h F G) (some (qI ((bgF T n n).1))) (xput h F' G') := by
  refine x_in (fun Q hQ => ?_)
  refine qy (fun _ _ k9 => z_iload_n d_X11_begun_0 rfl rfl k9) ?_
  refine qy (fun _ _ k9 => z_iconst d_X11_begun_1 (by decide) k9) ?_
  refine qy (fun _ _ k9 => z_bipush d_X11_begun_2 (by decide) k9) ?_
  refine qy (fun _ _ k9 => z_cs (M1 := M_X11_isWithin) d_X11_begun_4 ls_X11_62 k_X11_isWithin [qI (n : Int), qI 1, qI 32] rfl rfl (Nat.le_of_ble_eq_true rfl) (by decide) (by decide) (Nat.le_of_ble_eq_true rfl) (c_isWithin (n : Int) 1 32) k9) ?_
  refine qy2n (fun _ _ => z_ifeqB 19 d_X11_begun_7 (by decide)) (fun hc1 => absurd hc1 (by omega)) (fun hc1 => ?_)
  refine qy (fun _ _ k9 => z_iload_n d_X11_begun_10 rfl rfl k9) ?_
  refine qy (fun _ _ k9 => z_iconst d_X11_begun_11 (by decide) k9) ?_
  refine qy (fun _ _ k9 => z_iconst d_X11_begun_12 (by decide) k9) ?_
  refine qy (fun _ _ k9 => z_cs (M1 := M_X11_isWithin) d_X11_begun_13 ls_X11_62 k_X11_isWithin [qI 0, qI 0, qI 2] rfl rfl (Nat.le_of_ble_eq_true rfl) (by decide) (by decide) (Nat.le_of_ble_eq_true rfl) (c_isWithin 0 0 2) k9) ?_
  refine qy2 (fun _ _ => z_ifneB 21 d_X11_begun_16 (by decide)) (fun hc2 => ?_) (fun hc2 => absurd hc2 (by omega))
  refine qy (fun _ _ k9 => z_iconst d_X11_begun_21 (by decide) k9) ?_
  refine qy (fun _ _ k9 => z_istore_n (ls' := [qR 2, qI (n : Int), qI 0, qI 0, qU, qU, qU, qU, qU]) d_X11_begun_22 rfl (by decide) rfl k9) ?_
  refine qy (fun _ _ k9 => z_iconst d_X11_begun_23 (by decide) k9) ?_
  refine qy (fun _ _ k9 => z_istore (ls' := [qR 2, qI (n : Int), qI 0, qI 0, qI (-1), qU, qU, qU, qU]) d_X11_begun_24 (by decide) rfl k9) ?_
  refine qy (fun _ _ k9 => z_iconst d_X11_begun_26 (by decide) k9) ?_
  refine qy (fun _ _ k9 => z_istore (ls' := [qR 2, qI (n : Int), qI 0, qI 0, qI (-1), qI (-1), qU, qU, qU]) d_X11_begun_27 (by decide) rfl k9) ?_
  refine qy (fun _ _ k9 => z_iconst d_X11_begun_29 (by decide) k9) ?_
  refine qy (fun _ _ k9 => z_istore (ls' := [qR 2, qI (n : Int), qI 0, qI 0, qI (-1), qI (-1), qI 0, qU, qU]) d_X11_begun_30 (by decide) rfl k9) ?_
  refine qy (fun _ _ k9 => z_iconst d_X11_begun_32 (by decide) k9) ?_
  refine qy (fun _ _ k9 => z_istore (ls' := [qR 2, qI (n : Int), qI 0, qI 0, qI (-1), qI (-1), qI 0, qI 0, qU]) d_X11_begun_33 (by decide) rfl k9) ?_
  refine qy (fun _ _ k9 => z_eq (qc rfl (qc rfl (qc rfl (qc (qi (rfl)) (qc (qi (rfl)) (qc (qi (rfl)) (qc (qi (rfl)) (qc (qi (rfl)) (qc rfl rfl))))))))) rfl rfl k9) (y_wh3 (fun (i : Nat) (Fa : Nat → Nat → Int) (Ga : Nat → Nat → Int) => n - i) (fun (i : Nat) (Fa : Nat → Nat → Int) (Ga : Nat → Nat → Int) => [qR 2, qI (n : Int), qI 0, qI ((bgF T n i).1), qI ((bgF T n i).2.1), qI ((bgF T n i).2.2.1), qI ((bgF T n i).2.2.2), qI (i : Int), qU]) (fun (i : Nat) (Fa : Nat → Nat → Int) (Ga : Nat → Nat → Int) => (xput h Fa Ga)) (fun (i : Nat) (Fa : Nat → Nat → Int) (Ga : Nat → Nat → Int) => i ≤ n ∧ xfr 173 176 F G Fa Ga) 0 F G (⟨by omega, xfr_rf _ _ _ _⟩) (fun i Fa Ga hp kk => ?_))
  obtain ⟨hi, hfr⟩ := hp
  show qEy M_X11_begun 35 [qR 2, qI (n : Int), qI 0, qI ((bgF T n i).1), qI ((bgF T n i).2.1), qI ((bgF T n i).2.2.1), qI ((bgF T n i).2.2.2), qI (i : Int), qU] [] (xput h Fa Ga) Q
  have hT1 : ∀ c, c < 648 → Ga 6 c = T c := fun c hc => by rw [xfr_G hfr (by decide)]; exact hT c hc
  have b1 := bgF_bd (T := T) (n := n) i
  refine qy (fun _ _ k9 => z_iload d_X11_begun_35 rfl k9) ?_
  refine qy (fun _ _ k9 => z_iload_n d_X11_begun_37 rfl rfl k9) ?_
  refine qy2 (fun _ _ => z_icmp_ge 113 d_X11_begun_38 (by decide)) (fun q38 => ?_) (fun q38 => ?_)
  · refine qy (fun _ _ k9 => z_iload_n d_X11_begun_113 rfl rfl k9) ?_
    refine qy2 (fun _ _ => z_if_ne 119 d_X11_begun_114 (by decide)) (fun hc3 => absurd hc3 (by decide)) (fun hc3 => ?_)
    refine qy (fun _ _ k9 => z_iload_n d_X11_begun_117 rfl rfl k9) ?_
    exact y_ret (hQ Fa Ga hfr) (z_iret d_X11_begun_118 rfl (qsi (by rw [show i = n by omega])) rfl)
  · refine qy (fun _ _ k9 => z_aload_n d_X11_begun_41 rfl rfl k9) ?_
    refine qy (fun _ _ k9 => z_iload_n d_X11_begun_42 rfl rfl k9) ?_
    refine qy (fun _ _ k9 => z_iload d_X11_begun_43 rfl k9) ?_
    refine qy (fun _ _ k9 => z_iconst d_X11_begun_45 (by decide) k9) ?_
    obtain ⟨F1, G1, ⟨hv1, tt1, ch1, hw1, ho1, he1⟩, hx1⟩ := c_firesOf (h := h) (F := Fa) (G := Ga) (n := n) (b := i) (rg := 0) (T := T) hn (by omega) (by decide) hT1 hB
    refine qy (fun _ _ k9 => z_cv (M1 := M_X11_firesOf) d_X11_begun_46 lv_X11_284 k_X11_firesOf [qI (n : Int), qI (i : Int), qI 0] rfl rfl (xput_ob (c := (Fa 2)) xi_2 rfl (xsh_11 xo_2)) ⟨_, _, rfl⟩ (Nat.le_of_ble_eq_true rfl) (by decide) (by decide) (Nat.le_of_ble_eq_true rfl) hx1 k9) ?_
    refine qy (fun _ _ k9 => z_astore (ls' := [qR 2, qI (n : Int), qI 0, qI ((bgF T n i).1), qI ((bgF T n i).2.1), qI ((bgF T n i).2.2.1), qI ((bgF T n i).2.2.2), qI (i : Int), qR 173]) d_X11_begun_49 (by decide) rfl k9) ?_
    refine qy (fun _ _ k9 => z_aload d_X11_begun_51 rfl k9) ?_
    refine qy (fun _ _ k9 => z_cv (M1 := M_X7_isGood) d_X11_begun_53 lv_X11_342 k_X7_isGood [] rfl rfl (xput_ob (c := (F1 173)) xi_173 rfl (xsh_7 xo_173)) ⟨_, _, rfl⟩ (Nat.le_of_ble_eq_true rfl) (by decide) (by decide) (Nat.le_of_ble_eq_true rfl) (c_rnGood (by decide) xo_173 hw1) k9) ?_
    refine qy2 (fun _ _ => z_ifneB 77 d_X11_begun_56 (by decide)) (fun q56 => ?_) (fun q56 => ?_)
    · refine qy (fun _ _ k9 => z_iinc (ls' := [qR 2, qI (n : Int), qI 0, qI (((bgF T n i).1) + 1), qI ((bgF T n i).2.1), qI ((bgF T n i).2.2.1), qI ((bgF T n i).2.2.2), qI (i : Int), qR 173]) d_X11_begun_77 rfl (by decide) (by omega) rfl k9) ?_
      refine qy (fun _ _ k9 => z_iload d_X11_begun_80 rfl k9) ?_
      refine qy (fun _ _ k9 => z_iconst d_X11_begun_82 (by decide) k9) ?_
      refine qy2 (fun _ _ => z_icmp_eq 96 d_X11_begun_83 (by decide)) (fun q83 => ?_) (fun q83 => ?_)
      · refine qy (fun _ _ k9 => z_iload d_X11_begun_96 rfl k9) ?_
        refine qy (fun _ _ k9 => z_istore (ls' := [qR 2, qI (n : Int), qI 0, qI (((bgF T n i).1) + 1), qI ((bgF T n i).2.1), qI (i : Int), qI ((bgF T n i).2.2.2), qI (i : Int), qR 173]) d_X11_begun_98 (by decide) rfl k9) ?_
        refine qy (fun _ _ k9 => z_aload d_X11_begun_100 rfl k9) ?_
        refine qy (fun _ _ k9 => z_getf (v := qI ((F1 173) 8)) d_X11_begun_102 fl_X11_323 (xput_ob (c := (F1 173)) xi_173 rfl (xsh_7 xo_173)) rfl k9) ?_
        refine qy (fun _ _ k9 => z_eq rfl (qc (qi hw1.2.1.2.1) rfl) rfl k9) ?_
        refine qy (fun _ _ k9 => z_istore (ls' := [qR 2, qI (n : Int), qI 0, qI (((bgF T n i).1) + 1), qI ((bgF T n i).2.1), qI (i : Int), qI (tt1 : Int), qI (i : Int), qR 173]) d_X11_begun_105 (by decide) rfl k9) ?_
        refine qy (fun _ _ k9 => z_iinc (ls' := [qR 2, qI (n : Int), qI 0, qI (((bgF T n i).1) + 1), qI ((bgF T n i).2.1), qI (i : Int), qI (tt1 : Int), qI ((i : Int) + 1), qR 173]) d_X11_begun_107 rfl (by decide) (by omega) rfl k9) ?_
        refine qy (fun _ _ k9 => z_goto 35 d_X11_begun_110 (by decide) k9) ?_
        have e9 := bg_good (T := T) (n := n) (b := i) (tt := tt1) hn.1 q56 he1
        rw [qif_f (fun z => z.1 q83)] at e9
        exact qy (fun _ _ k9 => z_dr (qle_k rfl (qle_k rfl (qle_k rfl (qle_k (qi (by rw [e9])) (qle_k (qi (by rw [e9])) (qle_k (qi (by rw [e9])) (qle_k (qi (by rw [e9])) (qle_k (qi (by omega)) (qle_d qle_n))))))))) rfl rfl k9) (kk (i + 1) F1 G1 (⟨by omega, xfr_tr hfr hv1⟩) (by omega))
      · refine qy (fun _ _ k9 => z_aload d_X11_begun_86 rfl k9) ?_
        refine qy (fun _ _ k9 => z_getf (v := qI ((F1 173) 8)) d_X11_begun_88 fl_X11_323 (xput_ob (c := (F1 173)) xi_173 rfl (xsh_7 xo_173)) rfl k9) ?_
        refine qy (fun _ _ k9 => z_eq rfl (qc (qi hw1.2.1.2.1) rfl) rfl k9) ?_
        refine qy (fun _ _ k9 => z_iload d_X11_begun_91 rfl k9) ?_
        refine qy2 (fun _ _ => z_icmp_ge 107 d_X11_begun_93 (by decide)) (fun q93 => ?_) (fun q93 => ?_)
        · refine qy (fun _ _ k9 => z_iinc (ls' := [qR 2, qI (n : Int), qI 0, qI (((bgF T n i).1) + 1), qI ((bgF T n i).2.1), qI ((bgF T n i).2.2.1), qI ((bgF T n i).2.2.2), qI ((i : Int) + 1), qR 173]) d_X11_begun_107 rfl (by decide) (by omega) rfl k9) ?_
          refine qy (fun _ _ k9 => z_goto 35 d_X11_begun_110 (by decide) k9) ?_
          have e9 := bg_good (T := T) (n := n) (b := i) (tt := tt1) hn.1 q56 he1
          rw [qif_t ⟨q83, q93⟩] at e9
          exact qy (fun _ _ k9 => z_dr (qle_k rfl (qle_k rfl (qle_k rfl (qle_k (qi (by rw [e9])) (qle_k (qi (by rw [e9])) (qle_k (qi (by rw [e9])) (qle_k (qi (by rw [e9])) (qle_k (qi (by omega)) (qle_d qle_n))))))))) rfl rfl k9) (kk (i + 1) F1 G1 (⟨by omega, xfr_tr hfr hv1⟩) (by omega))
        · refine qy (fun _ _ k9 => z_iload d_X11_begun_96 rfl k9) ?_
          refine qy (fun _ _ k9 => z_istore (ls' := [qR 2, qI (n : Int), qI 0, qI (((bgF T n i).1) + 1), qI ((bgF T n i).2.1), qI (i : Int), qI ((bgF T n i).2.2.2), qI (i : Int), qR 173]) d_X11_begun_98 (by decide) rfl k9) ?_
          refine qy (fun _ _ k9 => z_aload d_X11_begun_100 rfl k9) ?_
          refine qy (fun _ _ k9 => z_getf (v := qI ((F1 173) 8)) d_X11_begun_102 fl_X11_323 (xput_ob (c := (F1 173)) xi_173 rfl (xsh_7 xo_173)) rfl k9) ?_
          refine qy (fun _ _ k9 => z_eq rfl (qc (qi hw1.2.1.2.1) rfl) rfl k9) ?_
          refine qy (fun _ _ k9 => z_istore (ls' := [qR 2, qI (n : Int), qI 0, qI (((bgF T n i).1) + 1), qI ((bgF T n i).2.1), qI (i : Int), qI (tt1 : Int), qI (i : Int), qR 173]) d_X11_begun_105 (by decide) rfl k9) ?_
          refine qy (fun _ _ k9 => z_iinc (ls' := [qR 2, qI (n : Int), qI 0, qI (((bgF T n i).1) + 1), qI ((bgF T n i).2.1), qI (i : Int), qI (tt1 : Int), qI ((i : Int) + 1), qR 173]) d_X11_begun_107 rfl (by decide) (by omega) rfl k9) ?_
          refine qy (fun _ _ k9 => z_goto 35 d_X11_begun_110 (by decide) k9) ?_
          have e9 := bg_good (T := T) (n := n) (b := i) (tt := tt1) hn.1 q56 he1
          rw [qif_f (fun z => q93 z.2)] at e9
          exact qy (fun _ _ k9 => z_dr (qle_k rfl (qle_k rfl (qle_k rfl (qle_k (qi (by rw [e9])) (qle_k (qi (by rw [e9])) (qle_k (qi (by rw [e9])) (qle_k (qi (by rw [e9])) (qle_k (qi (by omega)) (qle_d qle_n))))))))) rfl rfl k9) (kk (i + 1) F1 G1 (⟨by omega, xfr_tr hfr hv1⟩) (by omega))
    · refine qy (fun _ _ k9 => z_iload d_X11_begun_59 rfl k9) ?_
      refine qy (fun _ _ k9 => z_iconst d_X11_begun_61 (by decide) k9) ?_
      suffices kJ62 : qEy M_X11_begun 72 [qR 2, qI (n : Int), qI 0, qI ((bgF T n i).1), qI ((bgF T n i).2.1), qI ((bgF T n i).2.2.1), qI ((bgF T n i).2.2.2), qI (i : Int), qR 173] [qI (qif (((bgF T n i).2.1) ≠ (-1)) ((bgF T n i).2.1) (i : Int))] (xput h F1 G1) Q by
        refine qy2 (fun _ _ => z_icmp_ne 70 d_X11_begun_62 (by decide)) (fun hc4 => ?_) (fun hc4 => ?_)
        · refine qy (fun _ _ k9 => z_iload d_X11_begun_70 rfl k9) ?_
          exact qy (fun _ _ k9 => z_eq rfl (qc (qi (qif_t hc4).symm) rfl) rfl k9) kJ62
        · refine qy (fun _ _ k9 => z_iload d_X11_begun_65 rfl k9) ?_
          refine qy (fun _ _ k9 => z_goto 72 d_X11_begun_67 (by decide) k9) ?_
          exact qy (fun _ _ k9 => z_eq rfl (qc (qi (qif_f hc4).symm) rfl) rfl k9) kJ62
      refine qy (fun _ _ k9 => z_istore (ls' := [qR 2, qI (n : Int), qI 0, qI ((bgF T n i).1), qI (qif (((bgF T n i).2.1) ≠ (-1)) ((bgF T n i).2.1) (i : Int)), qI ((bgF T n i).2.2.1), qI ((bgF T n i).2.2.2), qI (i : Int), qR 173]) d_X11_begun_72 (by decide) rfl k9) ?_
      refine qy (fun _ _ k9 => z_goto 107 d_X11_begun_74 (by decide) k9) ?_
      refine qy (fun _ _ k9 => z_iinc (ls' := [qR 2, qI (n : Int), qI 0, qI ((bgF T n i).1), qI (qif (((bgF T n i).2.1) ≠ (-1)) ((bgF T n i).2.1) (i : Int)), qI ((bgF T n i).2.2.1), qI ((bgF T n i).2.2.2), qI ((i : Int) + 1), qR 173]) d_X11_begun_107 rfl (by decide) (by omega) rfl k9) ?_
      refine qy (fun _ _ k9 => z_goto 35 d_X11_begun_110 (by decide) k9) ?_
      have e9 := bg_bad (T := T) (n := n) (b := i) q56
      exact qy (fun _ _ k9 => z_dr (qle_k rfl (qle_k rfl (qle_k rfl (qle_k (qi (by rw [e9])) (qle_k (qi (by rw [e9])) (qle_k (qi (by rw [e9])) (qle_k (qi (by rw [e9])) (qle_k (qi (by omega)) (qle_d qle_n))))))))) rfl rfl k9) (kk (i + 1) F1 G1 (⟨by omega, xfr_tr hfr hv1⟩) (by omega))
set_option maxRecDepth 20000 in
set_option maxHeartbeats 4000000 in
theorem xc_begun1 {h : qH} {F G : Nat → Nat → Int} {n : Nat} {T : Nat → Int} (hn : 1 ≤ n ∧ n ≤ 32) (hT : ∀ c, c < 648 → G 6 c = T c) (hB : ∀ c, c < 648 → 0 ≤ T c ∧ T c ≤ 7) : ∃ F' G', (xfr 173 176 F G F' G') ∧ qEx M_X11_begun 0 [qR 2, qI (n : Int), qI 1, qU, qU, qU, qU, qU, qU] [] (xput h F G) (some (qI ((bgF T n n).2.1))) (xput h F' G') := by
  refine x_in (fun Q hQ => ?_)
  refine qy (fun _ _ k9 => z_iload_n d_X11_begun_0 rfl rfl k9) ?_
  refine qy (fun _ _ k9 => z_iconst d_X11_begun_1 (by decide) k9) ?_
  refine qy (fun _ _ k9 => z_bipush d_X11_begun_2 (by decide) k9) ?_
  refine qy (fun _ _ k9 => z_cs (M1 := M_X11_isWithin) d_X11_begun_4 ls_X11_62 k_X11_isWithin [qI (n : Int), qI 1, qI 32] rfl rfl (Nat.le_of_ble_eq_true rfl) (by decide) (by decide) (Nat.le_of_ble_eq_true rfl) (c_isWithin (n : Int) 1 32) k9) ?_
  refine qy2n (fun _ _ => z_ifeqB 19 d_X11_begun_7 (by decide)) (fun hc1 => absurd hc1 (by omega)) (fun hc1 => ?_)
  refine qy (fun _ _ k9 => z_iload_n d_X11_begun_10 rfl rfl k9) ?_
  refine qy (fun _ _ k9 => z_iconst d_X11_begun_11 (by decide) k9) ?_
  refine qy (fun _ _ k9 => z_iconst d_X11_begun_12 (by decide) k9) ?_
  refine qy (fun _ _ k9 => z_cs (M1 := M_X11_isWithin) d_X11_begun_13 ls_X11_62 k_X11_isWithin [qI 1, qI 0, qI 2] rfl rfl (Nat.le_of_ble_eq_true rfl) (by decide) (by decide) (Nat.le_of_ble_eq_true rfl) (c_isWithin 1 0 2) k9) ?_
  refine qy2 (fun _ _ => z_ifneB 21 d_X11_begun_16 (by decide)) (fun hc2 => ?_) (fun hc2 => absurd hc2 (by omega))
  refine qy (fun _ _ k9 => z_iconst d_X11_begun_21 (by decide) k9) ?_
  refine qy (fun _ _ k9 => z_istore_n (ls' := [qR 2, qI (n : Int), qI 1, qI 0, qU, qU, qU, qU, qU]) d_X11_begun_22 rfl (by decide) rfl k9) ?_
  refine qy (fun _ _ k9 => z_iconst d_X11_begun_23 (by decide) k9) ?_
  refine qy (fun _ _ k9 => z_istore (ls' := [qR 2, qI (n : Int), qI 1, qI 0, qI (-1), qU, qU, qU, qU]) d_X11_begun_24 (by decide) rfl k9) ?_
  refine qy (fun _ _ k9 => z_iconst d_X11_begun_26 (by decide) k9) ?_
  refine qy (fun _ _ k9 => z_istore (ls' := [qR 2, qI (n : Int), qI 1, qI 0, qI (-1), qI (-1), qU, qU, qU]) d_X11_begun_27 (by decide) rfl k9) ?_
  refine qy (fun _ _ k9 => z_iconst d_X11_begun_29 (by decide) k9) ?_
  refine qy (fun _ _ k9 => z_istore (ls' := [qR 2, qI (n : Int), qI 1, qI 0, qI (-1), qI (-1), qI 0, qU, qU]) d_X11_begun_30 (by decide) rfl k9) ?_
  refine qy (fun _ _ k9 => z_iconst d_X11_begun_32 (by decide) k9) ?_
  refine qy (fun _ _ k9 => z_istore (ls' := [qR 2, qI (n : Int), qI 1, qI 0, qI (-1), qI (-1), qI 0, qI 0, qU]) d_X11_begun_33 (by decide) rfl k9) ?_
  refine qy (fun _ _ k9 => z_eq (qc rfl (qc rfl (qc rfl (qc (qi (rfl)) (qc (qi (rfl)) (qc (qi (rfl)) (qc (qi (rfl)) (qc (qi (rfl)) (qc rfl rfl))))))))) rfl rfl k9) (y_wh3 (fun (i : Nat) (Fa : Nat → Nat → Int) (Ga : Nat → Nat → Int) => n - i) (fun (i : Nat) (Fa : Nat → Nat → Int) (Ga : Nat → Nat → Int) => [qR 2, qI (n : Int), qI 1, qI ((bgF T n i).1), qI ((bgF T n i).2.1), qI ((bgF T n i).2.2.1), qI ((bgF T n i).2.2.2), qI (i : Int), qU]) (fun (i : Nat) (Fa : Nat → Nat → Int) (Ga : Nat → Nat → Int) => (xput h Fa Ga)) (fun (i : Nat) (Fa : Nat → Nat → Int) (Ga : Nat → Nat → Int) => i ≤ n ∧ xfr 173 176 F G Fa Ga) 0 F G (⟨by omega, xfr_rf _ _ _ _⟩) (fun i Fa Ga hp kk => ?_))
  obtain ⟨hi, hfr⟩ := hp
  show qEy M_X11_begun 35 [qR 2, qI (n : Int), qI 1, qI ((bgF T n i).1), qI ((bgF T n i).2.1), qI ((bgF T n i).2.2.1), qI ((bgF T n i).2.2.2), qI (i : Int), qU] [] (xput h Fa Ga) Q
  have hT1 : ∀ c, c < 648 → Ga 6 c = T c := fun c hc => by rw [xfr_G hfr (by decide)]; exact hT c hc
  have b1 := bgF_bd (T := T) (n := n) i
  refine qy (fun _ _ k9 => z_iload d_X11_begun_35 rfl k9) ?_
  refine qy (fun _ _ k9 => z_iload_n d_X11_begun_37 rfl rfl k9) ?_
  refine qy2 (fun _ _ => z_icmp_ge 113 d_X11_begun_38 (by decide)) (fun q38 => ?_) (fun q38 => ?_)
  · refine qy (fun _ _ k9 => z_iload_n d_X11_begun_113 rfl rfl k9) ?_
    refine qy2 (fun _ _ => z_if_ne 119 d_X11_begun_114 (by decide)) (fun hc3 => ?_) (fun hc3 => absurd (by decide) hc3)
    refine qy (fun _ _ k9 => z_iload_n d_X11_begun_119 rfl rfl k9) ?_
    refine qy (fun _ _ k9 => z_iconst d_X11_begun_120 (by decide) k9) ?_
    refine qy2 (fun _ _ => z_icmp_ne 129 d_X11_begun_121 (by decide)) (fun hc4 => absurd hc4 (by decide)) (fun hc4 => ?_)
    refine qy (fun _ _ k9 => z_iload d_X11_begun_124 rfl k9) ?_
    refine qy (fun _ _ k9 => z_goto 131 d_X11_begun_126 (by decide) k9) ?_
    exact y_ret (hQ Fa Ga hfr) (z_iret d_X11_begun_131 rfl (qsi (by rw [show i = n by omega])) rfl)
  · refine qy (fun _ _ k9 => z_aload_n d_X11_begun_41 rfl rfl k9) ?_
    refine qy (fun _ _ k9 => z_iload_n d_X11_begun_42 rfl rfl k9) ?_
    refine qy (fun _ _ k9 => z_iload d_X11_begun_43 rfl k9) ?_
    refine qy (fun _ _ k9 => z_iconst d_X11_begun_45 (by decide) k9) ?_
    obtain ⟨F1, G1, ⟨hv1, tt1, ch1, hw1, ho1, he1⟩, hx1⟩ := c_firesOf (h := h) (F := Fa) (G := Ga) (n := n) (b := i) (rg := 0) (T := T) hn (by omega) (by decide) hT1 hB
    refine qy (fun _ _ k9 => z_cv (M1 := M_X11_firesOf) d_X11_begun_46 lv_X11_284 k_X11_firesOf [qI (n : Int), qI (i : Int), qI 0] rfl rfl (xput_ob (c := (Fa 2)) xi_2 rfl (xsh_11 xo_2)) ⟨_, _, rfl⟩ (Nat.le_of_ble_eq_true rfl) (by decide) (by decide) (Nat.le_of_ble_eq_true rfl) hx1 k9) ?_
    refine qy (fun _ _ k9 => z_astore (ls' := [qR 2, qI (n : Int), qI 1, qI ((bgF T n i).1), qI ((bgF T n i).2.1), qI ((bgF T n i).2.2.1), qI ((bgF T n i).2.2.2), qI (i : Int), qR 173]) d_X11_begun_49 (by decide) rfl k9) ?_
    refine qy (fun _ _ k9 => z_aload d_X11_begun_51 rfl k9) ?_
    refine qy (fun _ _ k9 => z_cv (M1 := M_X7_isGood) d_X11_begun_53 lv_X11_342 k_X7_isGood [] rfl rfl (xput_ob (c := (F1 173)) xi_173 rfl (xsh_7 xo_173)) ⟨_, _, rfl⟩ (Nat.le_of_ble_eq_true rfl) (by decide) (by decide) (Nat.le_of_ble_eq_true rfl) (c_rnGood (by decide) xo_173 hw1) k9) ?_
    refine qy2 (fun _ _ => z_ifneB 77 d_X11_begun_56 (by decide)) (fun q56 => ?_) (fun q56 => ?_)
    · refine qy (fun _ _ k9 => z_iinc (ls' := [qR 2, qI (n : Int), qI 1, qI (((bgF T n i).1) + 1), qI ((bgF T n i).2.1), qI ((bgF T n i).2.2.1), qI ((bgF T n i).2.2.2), qI (i : Int), qR 173]) d_X11_begun_77 rfl (by decide) (by omega) rfl k9) ?_
      refine qy (fun _ _ k9 => z_iload d_X11_begun_80 rfl k9) ?_
      refine qy (fun _ _ k9 => z_iconst d_X11_begun_82 (by decide) k9) ?_
      refine qy2 (fun _ _ => z_icmp_eq 96 d_X11_begun_83 (by decide)) (fun q83 => ?_) (fun q83 => ?_)
      · refine qy (fun _ _ k9 => z_iload d_X11_begun_96 rfl k9) ?_
        refine qy (fun _ _ k9 => z_istore (ls' := [qR 2, qI (n : Int), qI 1, qI (((bgF T n i).1) + 1), qI ((bgF T n i).2.1), qI (i : Int), qI ((bgF T n i).2.2.2), qI (i : Int), qR 173]) d_X11_begun_98 (by decide) rfl k9) ?_
        refine qy (fun _ _ k9 => z_aload d_X11_begun_100 rfl k9) ?_
        refine qy (fun _ _ k9 => z_getf (v := qI ((F1 173) 8)) d_X11_begun_102 fl_X11_323 (xput_ob (c := (F1 173)) xi_173 rfl (xsh_7 xo_173)) rfl k9) ?_
        refine qy (fun _ _ k9 => z_eq rfl (qc (qi hw1.2.1.2.1) rfl) rfl k9) ?_
        refine qy (fun _ _ k9 => z_istore (ls' := [qR 2, qI (n : Int), qI 1, qI (((bgF T n i).1) + 1), qI ((bgF T n i).2.1), qI (i : Int), qI (tt1 : Int), qI (i : Int), qR 173]) d_X11_begun_105 (by decide) rfl k9) ?_
        refine qy (fun _ _ k9 => z_iinc (ls' := [qR 2, qI (n : Int), qI 1, qI (((bgF T n i).1) + 1), qI ((bgF T n i).2.1), qI (i : Int), qI (tt1 : Int), qI ((i : Int) + 1), qR 173]) d_X11_begun_107 rfl (by decide) (by omega) rfl k9) ?_
        refine qy (fun _ _ k9 => z_goto 35 d_X11_begun_110 (by decide) k9) ?_
        have e9 := bg_good (T := T) (n := n) (b := i) (tt := tt1) hn.1 q56 he1
        rw [qif_f (fun z => z.1 q83)] at e9
        exact qy (fun _ _ k9 => z_dr (qle_k rfl (qle_k rfl (qle_k rfl (qle_k (qi (by rw [e9])) (qle_k (qi (by rw [e9])) (qle_k (qi (by rw [e9])) (qle_k (qi (by rw [e9])) (qle_k (qi (by omega)) (qle_d qle_n))))))))) rfl rfl k9) (kk (i + 1) F1 G1 (⟨by omega, xfr_tr hfr hv1⟩) (by omega))
      · refine qy (fun _ _ k9 => z_aload d_X11_begun_86 rfl k9) ?_
        refine qy (fun _ _ k9 => z_getf (v := qI ((F1 173) 8)) d_X11_begun_88 fl_X11_323 (xput_ob (c := (F1 173)) xi_173 rfl (xsh_7 xo_173)) rfl k9) ?_
        refine qy (fun _ _ k9 => z_eq rfl (qc (qi hw1.2.1.2.1) rfl) rfl k9) ?_
        refine qy (fun _ _ k9 => z_iload d_X11_begun_91 rfl k9) ?_
        refine qy2 (fun _ _ => z_icmp_ge 107 d_X11_begun_93 (by decide)) (fun q93 => ?_) (fun q93 => ?_)
        · refine qy (fun _ _ k9 => z_iinc (ls' := [qR 2, qI (n : Int), qI 1, qI (((bgF T n i).1) + 1), qI ((bgF T n i).2.1), qI ((bgF T n i).2.2.1), qI ((bgF T n i).2.2.2), qI ((i : Int) + 1), qR 173]) d_X11_begun_107 rfl (by decide) (by omega) rfl k9) ?_
          refine qy (fun _ _ k9 => z_goto 35 d_X11_begun_110 (by decide) k9) ?_
          have e9 := bg_good (T := T) (n := n) (b := i) (tt := tt1) hn.1 q56 he1
          rw [qif_t ⟨q83, q93⟩] at e9
          exact qy (fun _ _ k9 => z_dr (qle_k rfl (qle_k rfl (qle_k rfl (qle_k (qi (by rw [e9])) (qle_k (qi (by rw [e9])) (qle_k (qi (by rw [e9])) (qle_k (qi (by rw [e9])) (qle_k (qi (by omega)) (qle_d qle_n))))))))) rfl rfl k9) (kk (i + 1) F1 G1 (⟨by omega, xfr_tr hfr hv1⟩) (by omega))
        · refine qy (fun _ _ k9 => z_iload d_X11_begun_96 rfl k9) ?_
          refine qy (fun _ _ k9 => z_istore (ls' := [qR 2, qI (n : Int), qI 1, qI (((bgF T n i).1) + 1), qI ((bgF T n i).2.1), qI (i : Int), qI ((bgF T n i).2.2.2), qI (i : Int), qR 173]) d_X11_begun_98 (by decide) rfl k9) ?_
          refine qy (fun _ _ k9 => z_aload d_X11_begun_100 rfl k9) ?_
          refine qy (fun _ _ k9 => z_getf (v := qI ((F1 173) 8)) d_X11_begun_102 fl_X11_323 (xput_ob (c := (F1 173)) xi_173 rfl (xsh_7 xo_173)) rfl k9) ?_
          refine qy (fun _ _ k9 => z_eq rfl (qc (qi hw1.2.1.2.1) rfl) rfl k9) ?_
          refine qy (fun _ _ k9 => z_istore (ls' := [qR 2, qI (n : Int), qI 1, qI (((bgF T n i).1) + 1), qI ((bgF T n i).2.1), qI (i : Int), qI (tt1 : Int), qI (i : Int), qR 173]) d_X11_begun_105 (by decide) rfl k9) ?_
          refine qy (fun _ _ k9 => z_iinc (ls' := [qR 2, qI (n : Int), qI 1, qI (((bgF T n i).1) + 1), qI ((bgF T n i).2.1), qI (i : Int), qI (tt1 : Int), qI ((i : Int) + 1), qR 173]) d_X11_begun_107 rfl (by decide) (by omega) rfl k9) ?_
          refine qy (fun _ _ k9 => z_goto 35 d_X11_begun_110 (by decide) k9) ?_
          have e9 := bg_good (T := T) (n := n) (b := i) (tt := tt1) hn.1 q56 he1
          rw [qif_f (fun z => q93 z.2)] at e9
          exact qy (fun _ _ k9 => z_dr (qle_k rfl (qle_k rfl (qle_k rfl (qle_k (qi (by rw [e9])) (qle_k (qi (by rw [e9])) (qle_k (qi (by rw [e9])) (qle_k (qi (by rw [e9])) (qle_k (qi (by omega)) (qle_d qle_n))))))))) rfl rfl k9) (kk (i + 1) F1 G1 (⟨by omega, xfr_tr hfr hv1⟩) (by omega))
    · refine qy (fun _ _ k9 => z_iload d_X11_begun_59 rfl k9) ?_
      refine qy (fun _ _ k9 => z_iconst d_X11_begun_61 (by decide) k9) ?_
      suffices kJ62 : qEy M_X11_begun 72 [qR 2, qI (n : Int), qI 1, qI ((bgF T n i).1), qI ((bgF T n i).2.1), qI ((bgF T n i).2.2.1), qI ((bgF T n i).2.2.2), qI (i : Int), qR 173] [qI (qif (((bgF T n i).2.1) ≠ (-1)) ((bgF T n i).2.1) (i : Int))] (xput h F1 G1) Q by
        refine qy2 (fun _ _ => z_icmp_ne 70 d_X11_begun_62 (by decide)) (fun hc5 => ?_) (fun hc5 => ?_)
        · refine qy (fun _ _ k9 => z_iload d_X11_begun_70 rfl k9) ?_
          exact qy (fun _ _ k9 => z_eq rfl (qc (qi (qif_t hc5).symm) rfl) rfl k9) kJ62
        · refine qy (fun _ _ k9 => z_iload d_X11_begun_65 rfl k9) ?_
          refine qy (fun _ _ k9 => z_goto 72 d_X11_begun_67 (by decide) k9) ?_
          exact qy (fun _ _ k9 => z_eq rfl (qc (qi (qif_f hc5).symm) rfl) rfl k9) kJ62
      refine qy (fun _ _ k9 => z_istore (ls' := [qR 2, qI (n : Int), qI 1, qI ((bgF T n i).1), qI (qif (((bgF T n i).2.1) ≠ (-1)) ((bgF T n i).2.1) (i : Int)), qI ((bgF T n i).2.2.1), qI ((bgF T n i).2.2.2), qI (i : Int), qR 173]) d_X11_begun_72 (by decide) rfl k9) ?_
      refine qy (fun _ _ k9 => z_goto 107 d_X11_begun_74 (by decide) k9) ?_
      refine qy (fun _ _ k9 => z_iinc (ls' := [qR 2, qI (n : Int), qI 1, qI ((bgF T n i).1), qI (qif (((bgF T n i).2.1) ≠ (-1)) ((bgF T n i).2.1) (i : Int)), qI ((bgF T n i).2.2.1), qI ((bgF T n i).2.2.2), qI ((i : Int) + 1), qR 173]) d_X11_begun_107 rfl (by decide) (by omega) rfl k9) ?_
      refine qy (fun _ _ k9 => z_goto 35 d_X11_begun_110 (by decide) k9) ?_
      have e9 := bg_bad (T := T) (n := n) (b := i) q56
      exact qy (fun _ _ k9 => z_dr (qle_k rfl (qle_k rfl (qle_k rfl (qle_k (qi (by rw [e9])) (qle_k (qi (by rw [e9])) (qle_k (qi (by rw [e9])) (qle_k (qi (by rw [e9])) (qle_k (qi (by omega)) (qle_d qle_n))))))))) rfl rfl k9) (kk (i + 1) F1 G1 (⟨by omega, xfr_tr hfr hv1⟩) (by omega))
set_option maxRecDepth 20000 in
set_option maxHeartbeats 4000000 in
theorem xc_begun2 {h : qH} {F G : Nat → Nat → Int} {n : Nat} {T : Nat → Int} (hn : 1 ≤ n ∧ n ≤ 32) (hT : ∀ c, c < 648 → G 6 c = T c) (hB : ∀ c, c < 648 → 0 ≤ T c ∧ T c ≤ 7) : ∃ F' G', (xfr 173 176 F G F' G') ∧ qEx M_X11_begun 0 [qR 2, qI (n : Int), qI 2, qU, qU, qU, qU, qU, qU] [] (xput h F G) (some (qI ((bgF T n n).2.2.1))) (xput h F' G') := by
  refine x_in (fun Q hQ => ?_)
  refine qy (fun _ _ k9 => z_iload_n d_X11_begun_0 rfl rfl k9) ?_
  refine qy (fun _ _ k9 => z_iconst d_X11_begun_1 (by decide) k9) ?_
  refine qy (fun _ _ k9 => z_bipush d_X11_begun_2 (by decide) k9) ?_
  refine qy (fun _ _ k9 => z_cs (M1 := M_X11_isWithin) d_X11_begun_4 ls_X11_62 k_X11_isWithin [qI (n : Int), qI 1, qI 32] rfl rfl (Nat.le_of_ble_eq_true rfl) (by decide) (by decide) (Nat.le_of_ble_eq_true rfl) (c_isWithin (n : Int) 1 32) k9) ?_
  refine qy2n (fun _ _ => z_ifeqB 19 d_X11_begun_7 (by decide)) (fun hc1 => absurd hc1 (by omega)) (fun hc1 => ?_)
  refine qy (fun _ _ k9 => z_iload_n d_X11_begun_10 rfl rfl k9) ?_
  refine qy (fun _ _ k9 => z_iconst d_X11_begun_11 (by decide) k9) ?_
  refine qy (fun _ _ k9 => z_iconst d_X11_begun_12 (by decide) k9) ?_
  refine qy (fun _ _ k9 => z_cs (M1 := M_X11_isWithin) d_X11_begun_13 ls_X11_62 k_X11_isWithin [qI 2, qI 0, qI 2] rfl rfl (Nat.le_of_ble_eq_true rfl) (by decide) (by decide) (Nat.le_of_ble_eq_true rfl) (c_isWithin 2 0 2) k9) ?_
  refine qy2 (fun _ _ => z_ifneB 21 d_X11_begun_16 (by decide)) (fun hc2 => ?_) (fun hc2 => absurd hc2 (by omega))
  refine qy (fun _ _ k9 => z_iconst d_X11_begun_21 (by decide) k9) ?_
  refine qy (fun _ _ k9 => z_istore_n (ls' := [qR 2, qI (n : Int), qI 2, qI 0, qU, qU, qU, qU, qU]) d_X11_begun_22 rfl (by decide) rfl k9) ?_
  refine qy (fun _ _ k9 => z_iconst d_X11_begun_23 (by decide) k9) ?_
  refine qy (fun _ _ k9 => z_istore (ls' := [qR 2, qI (n : Int), qI 2, qI 0, qI (-1), qU, qU, qU, qU]) d_X11_begun_24 (by decide) rfl k9) ?_
  refine qy (fun _ _ k9 => z_iconst d_X11_begun_26 (by decide) k9) ?_
  refine qy (fun _ _ k9 => z_istore (ls' := [qR 2, qI (n : Int), qI 2, qI 0, qI (-1), qI (-1), qU, qU, qU]) d_X11_begun_27 (by decide) rfl k9) ?_
  refine qy (fun _ _ k9 => z_iconst d_X11_begun_29 (by decide) k9) ?_
  refine qy (fun _ _ k9 => z_istore (ls' := [qR 2, qI (n : Int), qI 2, qI 0, qI (-1), qI (-1), qI 0, qU, qU]) d_X11_begun_30 (by decide) rfl k9) ?_
  refine qy (fun _ _ k9 => z_iconst d_X11_begun_32 (by decide) k9) ?_
  refine qy (fun _ _ k9 => z_istore (ls' := [qR 2, qI (n : Int), qI 2, qI 0, qI (-1), qI (-1), qI 0, qI 0, qU]) d_X11_begun_33 (by decide) rfl k9) ?_
  refine qy (fun _ _ k9 => z_eq (qc rfl (qc rfl (qc rfl (qc (qi (rfl)) (qc (qi (rfl)) (qc (qi (rfl)) (qc (qi (rfl)) (qc (qi (rfl)) (qc rfl rfl))))))))) rfl rfl k9) (y_wh3 (fun (i : Nat) (Fa : Nat → Nat → Int) (Ga : Nat → Nat → Int) => n - i) (fun (i : Nat) (Fa : Nat → Nat → Int) (Ga : Nat → Nat → Int) => [qR 2, qI (n : Int), qI 2, qI ((bgF T n i).1), qI ((bgF T n i).2.1), qI ((bgF T n i).2.2.1), qI ((bgF T n i).2.2.2), qI (i : Int), qU]) (fun (i : Nat) (Fa : Nat → Nat → Int) (Ga : Nat → Nat → Int) => (xput h Fa Ga)) (fun (i : Nat) (Fa : Nat → Nat → Int) (Ga : Nat → Nat → Int) => i ≤ n ∧ xfr 173 176 F G Fa Ga) 0 F G (⟨by omega, xfr_rf _ _ _ _⟩) (fun i Fa Ga hp kk => ?_))
  obtain ⟨hi, hfr⟩ := hp
  show qEy M_X11_begun 35 [qR 2, qI (n : Int), qI 2, qI ((bgF T n i).1), qI ((bgF T n i).2.1), qI ((bgF T n i).2.2.1), qI ((bgF T n i).2.2.2), qI (i : Int), qU] [] (xput h Fa Ga) Q
  have hT1 : ∀ c, c < 648 → Ga 6 c = T c := fun c hc => by rw [xfr_G hfr (by decide)]; exact hT c hc
  have b1 := bgF_bd (T := T) (n := n) i
  refine qy (fun _ _ k9 => z_iload d_X11_begun_35 rfl k9) ?_
  refine qy (fun _ _ k9 => z_iload_n d_X11_begun_37 rfl rfl k9) ?_
  refine qy2 (fun _ _ => z_icmp_ge 113 d_X11_begun_38 (by decide)) (fun q38 => ?_) (fun q38 => ?_)
  · refine qy (fun _ _ k9 => z_iload_n d_X11_begun_113 rfl rfl k9) ?_
    refine qy2 (fun _ _ => z_if_ne 119 d_X11_begun_114 (by decide)) (fun hc3 => ?_) (fun hc3 => absurd (by decide) hc3)
    refine qy (fun _ _ k9 => z_iload_n d_X11_begun_119 rfl rfl k9) ?_
    refine qy (fun _ _ k9 => z_iconst d_X11_begun_120 (by decide) k9) ?_
    refine qy2 (fun _ _ => z_icmp_ne 129 d_X11_begun_121 (by decide)) (fun hc4 => ?_) (fun hc4 => absurd (by decide) hc4)
    refine qy (fun _ _ k9 => z_iload d_X11_begun_129 rfl k9) ?_
    exact y_ret (hQ Fa Ga hfr) (z_iret d_X11_begun_131 rfl (qsi (by rw [show i = n by omega])) rfl)
  · refine qy (fun _ _ k9 => z_aload_n d_X11_begun_41 rfl rfl k9) ?_
    refine qy (fun _ _ k9 => z_iload_n d_X11_begun_42 rfl rfl k9) ?_
    refine qy (fun _ _ k9 => z_iload d_X11_begun_43 rfl k9) ?_
    refine qy (fun _ _ k9 => z_iconst d_X11_begun_45 (by decide) k9) ?_
    obtain ⟨F1, G1, ⟨hv1, tt1, ch1, hw1, ho1, he1⟩, hx1⟩ := c_firesOf (h := h) (F := Fa) (G := Ga) (n := n) (b := i) (rg := 0) (T := T) hn (by omega) (by decide) hT1 hB
    refine qy (fun _ _ k9 => z_cv (M1 := M_X11_firesOf) d_X11_begun_46 lv_X11_284 k_X11_firesOf [qI (n : Int), qI (i : Int), qI 0] rfl rfl (xput_ob (c := (Fa 2)) xi_2 rfl (xsh_11 xo_2)) ⟨_, _, rfl⟩ (Nat.le_of_ble_eq_true rfl) (by decide) (by decide) (Nat.le_of_ble_eq_true rfl) hx1 k9) ?_
    refine qy (fun _ _ k9 => z_astore (ls' := [qR 2, qI (n : Int), qI 2, qI ((bgF T n i).1), qI ((bgF T n i).2.1), qI ((bgF T n i).2.2.1), qI ((bgF T n i).2.2.2), qI (i : Int), qR 173]) d_X11_begun_49 (by decide) rfl k9) ?_
    refine qy (fun _ _ k9 => z_aload d_X11_begun_51 rfl k9) ?_
    refine qy (fun _ _ k9 => z_cv (M1 := M_X7_isGood) d_X11_begun_53 lv_X11_342 k_X7_isGood [] rfl rfl (xput_ob (c := (F1 173)) xi_173 rfl (xsh_7 xo_173)) ⟨_, _, rfl⟩ (Nat.le_of_ble_eq_true rfl) (by decide) (by decide) (Nat.le_of_ble_eq_true rfl) (c_rnGood (by decide) xo_173 hw1) k9) ?_
    refine qy2 (fun _ _ => z_ifneB 77 d_X11_begun_56 (by decide)) (fun q56 => ?_) (fun q56 => ?_)
    · refine qy (fun _ _ k9 => z_iinc (ls' := [qR 2, qI (n : Int), qI 2, qI (((bgF T n i).1) + 1), qI ((bgF T n i).2.1), qI ((bgF T n i).2.2.1), qI ((bgF T n i).2.2.2), qI (i : Int), qR 173]) d_X11_begun_77 rfl (by decide) (by omega) rfl k9) ?_
      refine qy (fun _ _ k9 => z_iload d_X11_begun_80 rfl k9) ?_
      refine qy (fun _ _ k9 => z_iconst d_X11_begun_82 (by decide) k9) ?_
      refine qy2 (fun _ _ => z_icmp_eq 96 d_X11_begun_83 (by decide)) (fun q83 => ?_) (fun q83 => ?_)
      · refine qy (fun _ _ k9 => z_iload d_X11_begun_96 rfl k9) ?_
        refine qy (fun _ _ k9 => z_istore (ls' := [qR 2, qI (n : Int), qI 2, qI (((bgF T n i).1) + 1), qI ((bgF T n i).2.1), qI (i : Int), qI ((bgF T n i).2.2.2), qI (i : Int), qR 173]) d_X11_begun_98 (by decide) rfl k9) ?_
        refine qy (fun _ _ k9 => z_aload d_X11_begun_100 rfl k9) ?_
        refine qy (fun _ _ k9 => z_getf (v := qI ((F1 173) 8)) d_X11_begun_102 fl_X11_323 (xput_ob (c := (F1 173)) xi_173 rfl (xsh_7 xo_173)) rfl k9) ?_
        refine qy (fun _ _ k9 => z_eq rfl (qc (qi hw1.2.1.2.1) rfl) rfl k9) ?_
        refine qy (fun _ _ k9 => z_istore (ls' := [qR 2, qI (n : Int), qI 2, qI (((bgF T n i).1) + 1), qI ((bgF T n i).2.1), qI (i : Int), qI (tt1 : Int), qI (i : Int), qR 173]) d_X11_begun_105 (by decide) rfl k9) ?_
        refine qy (fun _ _ k9 => z_iinc (ls' := [qR 2, qI (n : Int), qI 2, qI (((bgF T n i).1) + 1), qI ((bgF T n i).2.1), qI (i : Int), qI (tt1 : Int), qI ((i : Int) + 1), qR 173]) d_X11_begun_107 rfl (by decide) (by omega) rfl k9) ?_
        refine qy (fun _ _ k9 => z_goto 35 d_X11_begun_110 (by decide) k9) ?_
        have e9 := bg_good (T := T) (n := n) (b := i) (tt := tt1) hn.1 q56 he1
        rw [qif_f (fun z => z.1 q83)] at e9
        exact qy (fun _ _ k9 => z_dr (qle_k rfl (qle_k rfl (qle_k rfl (qle_k (qi (by rw [e9])) (qle_k (qi (by rw [e9])) (qle_k (qi (by rw [e9])) (qle_k (qi (by rw [e9])) (qle_k (qi (by omega)) (qle_d qle_n))))))))) rfl rfl k9) (kk (i + 1) F1 G1 (⟨by omega, xfr_tr hfr hv1⟩) (by omega))
      · refine qy (fun _ _ k9 => z_aload d_X11_begun_86 rfl k9) ?_
        refine qy (fun _ _ k9 => z_getf (v := qI ((F1 173) 8)) d_X11_begun_88 fl_X11_323 (xput_ob (c := (F1 173)) xi_173 rfl (xsh_7 xo_173)) rfl k9) ?_
        refine qy (fun _ _ k9 => z_eq rfl (qc (qi hw1.2.1.2.1) rfl) rfl k9) ?_
        refine qy (fun _ _ k9 => z_iload d_X11_begun_91 rfl k9) ?_
        refine qy2 (fun _ _ => z_icmp_ge 107 d_X11_begun_93 (by decide)) (fun q93 => ?_) (fun q93 => ?_)
        · refine qy (fun _ _ k9 => z_iinc (ls' := [qR 2, qI (n : Int), qI 2, qI (((bgF T n i).1) + 1), qI ((bgF T n i).2.1), qI ((bgF T n i).2.2.1), qI ((bgF T n i).2.2.2), qI ((i : Int) + 1), qR 173]) d_X11_begun_107 rfl (by decide) (by omega) rfl k9) ?_
          refine qy (fun _ _ k9 => z_goto 35 d_X11_begun_110 (by decide) k9) ?_
          have e9 := bg_good (T := T) (n := n) (b := i) (tt := tt1) hn.1 q56 he1
          rw [qif_t ⟨q83, q93⟩] at e9
          exact qy (fun _ _ k9 => z_dr (qle_k rfl (qle_k rfl (qle_k rfl (qle_k (qi (by rw [e9])) (qle_k (qi (by rw [e9])) (qle_k (qi (by rw [e9])) (qle_k (qi (by rw [e9])) (qle_k (qi (by omega)) (qle_d qle_n))))))))) rfl rfl k9) (kk (i + 1) F1 G1 (⟨by omega, xfr_tr hfr hv1⟩) (by omega))
        · refine qy (fun _ _ k9 => z_iload d_X11_begun_96 rfl k9) ?_
          refine qy (fun _ _ k9 => z_istore (ls' := [qR 2, qI (n : Int), qI 2, qI (((bgF T n i).1) + 1), qI ((bgF T n i).2.1), qI (i : Int), qI ((bgF T n i).2.2.2), qI (i : Int), qR 173]) d_X11_begun_98 (by decide) rfl k9) ?_
          refine qy (fun _ _ k9 => z_aload d_X11_begun_100 rfl k9) ?_
          refine qy (fun _ _ k9 => z_getf (v := qI ((F1 173) 8)) d_X11_begun_102 fl_X11_323 (xput_ob (c := (F1 173)) xi_173 rfl (xsh_7 xo_173)) rfl k9) ?_
          refine qy (fun _ _ k9 => z_eq rfl (qc (qi hw1.2.1.2.1) rfl) rfl k9) ?_
          refine qy (fun _ _ k9 => z_istore (ls' := [qR 2, qI (n : Int), qI 2, qI (((bgF T n i).1) + 1), qI ((bgF T n i).2.1), qI (i : Int), qI (tt1 : Int), qI (i : Int), qR 173]) d_X11_begun_105 (by decide) rfl k9) ?_
          refine qy (fun _ _ k9 => z_iinc (ls' := [qR 2, qI (n : Int), qI 2, qI (((bgF T n i).1) + 1), qI ((bgF T n i).2.1), qI (i : Int), qI (tt1 : Int), qI ((i : Int) + 1), qR 173]) d_X11_begun_107 rfl (by decide) (by omega) rfl k9) ?_
          refine qy (fun _ _ k9 => z_goto 35 d_X11_begun_110 (by decide) k9) ?_
          have e9 := bg_good (T := T) (n := n) (b := i) (tt := tt1) hn.1 q56 he1
          rw [qif_f (fun z => q93 z.2)] at e9
          exact qy (fun _ _ k9 => z_dr (qle_k rfl (qle_k rfl (qle_k rfl (qle_k (qi (by rw [e9])) (qle_k (qi (by rw [e9])) (qle_k (qi (by rw [e9])) (qle_k (qi (by rw [e9])) (qle_k (qi (by omega)) (qle_d qle_n))))))))) rfl rfl k9) (kk (i + 1) F1 G1 (⟨by omega, xfr_tr hfr hv1⟩) (by omega))
    · refine qy (fun _ _ k9 => z_iload d_X11_begun_59 rfl k9) ?_
      refine qy (fun _ _ k9 => z_iconst d_X11_begun_61 (by decide) k9) ?_
      suffices kJ62 : qEy M_X11_begun 72 [qR 2, qI (n : Int), qI 2, qI ((bgF T n i).1), qI ((bgF T n i).2.1), qI ((bgF T n i).2.2.1), qI ((bgF T n i).2.2.2), qI (i : Int), qR 173] [qI (qif (((bgF T n i).2.1) ≠ (-1)) ((bgF T n i).2.1) (i : Int))] (xput h F1 G1) Q by
        refine qy2 (fun _ _ => z_icmp_ne 70 d_X11_begun_62 (by decide)) (fun hc5 => ?_) (fun hc5 => ?_)
        · refine qy (fun _ _ k9 => z_iload d_X11_begun_70 rfl k9) ?_
          exact qy (fun _ _ k9 => z_eq rfl (qc (qi (qif_t hc5).symm) rfl) rfl k9) kJ62
        · refine qy (fun _ _ k9 => z_iload d_X11_begun_65 rfl k9) ?_
          refine qy (fun _ _ k9 => z_goto 72 d_X11_begun_67 (by decide) k9) ?_
          exact qy (fun _ _ k9 => z_eq rfl (qc (qi (qif_f hc5).symm) rfl) rfl k9) kJ62
      refine qy (fun _ _ k9 => z_istore (ls' := [qR 2, qI (n : Int), qI 2, qI ((bgF T n i).1), qI (qif (((bgF T n i).2.1) ≠ (-1)) ((bgF T n i).2.1) (i : Int)), qI ((bgF T n i).2.2.1), qI ((bgF T n i).2.2.2), qI (i : Int), qR 173]) d_X11_begun_72 (by decide) rfl k9) ?_
      refine qy (fun _ _ k9 => z_goto 107 d_X11_begun_74 (by decide) k9) ?_
      refine qy (fun _ _ k9 => z_iinc (ls' := [qR 2, qI (n : Int), qI 2, qI ((bgF T n i).1), qI (qif (((bgF T n i).2.1) ≠ (-1)) ((bgF T n i).2.1) (i : Int)), qI ((bgF T n i).2.2.1), qI ((bgF T n i).2.2.2), qI ((i : Int) + 1), qR 173]) d_X11_begun_107 rfl (by decide) (by omega) rfl k9) ?_
      refine qy (fun _ _ k9 => z_goto 35 d_X11_begun_110 (by decide) k9) ?_
      have e9 := bg_bad (T := T) (n := n) (b := i) q56
      exact qy (fun _ _ k9 => z_dr (qle_k rfl (qle_k rfl (qle_k rfl (qle_k (qi (by rw [e9])) (qle_k (qi (by rw [e9])) (qle_k (qi (by rw [e9])) (qle_k (qi (by rw [e9])) (qle_k (qi (by omega)) (qle_d qle_n))))))))) rfl rfl k9) (kk (i + 1) F1 G1 (⟨by omega, xfr_tr hfr hv1⟩) (by omega))
set_option maxRecDepth 20000 in
set_option maxHeartbeats 4000000 in
theorem xc_begun_no {h : qH} {F G : Nat → Nat → Int} (n what : Int) (hno : ¬ ((1 ≤ n ∧ n ≤ 32) ∧ 0 ≤ what ∧ what ≤ 2)) : qEx M_X11_begun 0 [qR 2, qI n, qI what, qU, qU, qU, qU, qU, qU] [] (xput h F G) (some (qI (-1))) (xput h F G) := by
  refine q_gen (fun r hr er eh => ?_)
  refine z_iload_n d_X11_begun_0 rfl rfl ?_
  refine z_iconst d_X11_begun_1 (by decide) ?_
  refine z_bipush d_X11_begun_2 (by decide) ?_
  refine z_cs (M1 := M_X11_isWithin) d_X11_begun_4 ls_X11_62 k_X11_isWithin [qI n, qI 1, qI 32] rfl rfl (Nat.le_of_ble_eq_true rfl) (by decide) (by decide) (Nat.le_of_ble_eq_true rfl) (c_isWithin n 1 32) ?_
  refine z_ifeqB 19 d_X11_begun_7 (by decide) (fun q7 => ?_) (fun q7 => ?_)
  · refine z_iconst d_X11_begun_19 (by decide) ?_
    exact z_iret d_X11_begun_20 rfl er eh
  · refine z_iload_n d_X11_begun_10 rfl rfl ?_
    refine z_iconst d_X11_begun_11 (by decide) ?_
    refine z_iconst d_X11_begun_12 (by decide) ?_
    refine z_cs (M1 := M_X11_isWithin) d_X11_begun_13 ls_X11_62 k_X11_isWithin [qI what, qI 0, qI 2] rfl rfl (Nat.le_of_ble_eq_true rfl) (by decide) (by decide) (Nat.le_of_ble_eq_true rfl) (c_isWithin what 0 2) ?_
    refine z_ifneB 21 d_X11_begun_16 (by decide) (fun q16 => ?_) (fun q16 => ?_)
    · exact absurd ⟨q7, q16⟩ hno
    · refine z_iconst d_X11_begun_19 (by decide) ?_
      exact z_iret d_X11_begun_20 rfl er eh
set_option maxRecDepth 20000 in
set_option maxHeartbeats 4000000 in
theorem xc_alike0 {h : qH} {F G : Nat → Nat → Int} {to : Nat} {T S : Nat → Int} (ht : 1 ≤ to ∧ to ≤ 24) (hT : ∀ c, c < 648 → G 6 c = T c) (hB : ∀ c, c < 648 → 0 ≤ T c ∧ T c ≤ 7) (hS : ∀ c, c < 648 → G 30 c = S c) (hB2 : ∀ c, c < 648 → 0 ≤ S c ∧ S c ≤ 7) : ∃ F' G', (xfr 173 180 F G F' G') ∧ qEx M_X11_alike 0 [qR 2, qI (to : Int), qI 0, qU, qU] [] (xput h F G) (some (qI (alR T S to 0))) (xput h F' G') := by
  refine x_in (fun Q hQ => ?_)
  refine qy (fun _ _ k9 => z_iload_n d_X11_alike_0 rfl rfl k9) ?_
  refine qy (fun _ _ k9 => z_cs (M1 := M_X11_isLength) d_X11_alike_1 ls_X11_308 k_X11_isLength [qI (to : Int)] rfl rfl (Nat.le_of_ble_eq_true rfl) (by decide) (by decide) (Nat.le_of_ble_eq_true rfl) (c_isLength (to : Int)) k9) ?_
  refine qy2n (fun _ _ => z_ifeqB 16 d_X11_alike_4 (by decide)) (fun hc1 => absurd hc1 (by omega)) (fun hc1 => ?_)
  refine qy (fun _ _ k9 => z_iload_n d_X11_alike_7 rfl rfl k9) ?_
  refine qy (fun _ _ k9 => z_iconst d_X11_alike_8 (by decide) k9) ?_
  refine qy (fun _ _ k9 => z_iconst d_X11_alike_9 (by decide) k9) ?_
  refine qy (fun _ _ k9 => z_cs (M1 := M_X11_isWithin) d_X11_alike_10 ls_X11_62 k_X11_isWithin [qI 0, qI 0, qI 2] rfl rfl (Nat.le_of_ble_eq_true rfl) (by decide) (by decide) (Nat.le_of_ble_eq_true rfl) (c_isWithin 0 0 2) k9) ?_
  refine qy2 (fun _ _ => z_ifneB 18 d_X11_alike_13 (by decide)) (fun hc2 => ?_) (fun hc2 => absurd hc2 (by omega))
  refine qy (fun _ _ k9 => z_iconst d_X11_alike_18 (by decide) k9) ?_
  refine qy (fun _ _ k9 => z_istore_n (ls' := [qR 2, qI (to : Int), qI 0, qI 1, qU]) d_X11_alike_19 rfl (by decide) rfl k9) ?_
  refine qy (fun _ _ k9 => z_eq (qc rfl (qc rfl (qc rfl (qc (qi (rfl)) (qc rfl rfl))))) rfl rfl k9) (y_wh3 (fun (i : Nat) (Fa : Nat → Nat → Int) (Ga : Nat → Nat → Int) => to - i) (fun (i : Nat) (Fa : Nat → Nat → Int) (Ga : Nat → Nat → Int) => [qR 2, qI (to : Int), qI 0, qI ((i + 1 : Nat) : Int), qU]) (fun (i : Nat) (Fa : Nat → Nat → Int) (Ga : Nat → Nat → Int) => (xput h Fa Ga)) (fun (i : Nat) (Fa : Nat → Nat → Int) (Ga : Nat → Nat → Int) => i ≤ to ∧ xfr 173 180 F G Fa Ga ∧ ∀ k, k < i → ¬ alP T S (k + 1)) 0 F G (⟨by omega, xfr_rf _ _ _ _, fun k hk => absurd hk (by omega)⟩) (fun i Fa Ga hp kk => ?_))
  obtain ⟨hi, hfr, hp⟩ := hp
  show qEy M_X11_alike 20 [qR 2, qI (to : Int), qI 0, qI ((i + 1 : Nat) : Int), qU] [] (xput h Fa Ga) Q
  refine qy (fun _ _ k9 => z_iload_n d_X11_alike_20 rfl rfl k9) ?_
  refine qy (fun _ _ k9 => z_iload_n d_X11_alike_21 rfl rfl k9) ?_
  refine qy2 (fun _ _ => z_icmp_gt 96 d_X11_alike_22 (by decide)) (fun q22 => ?_) (fun q22 => ?_)
  · refine qy (fun _ _ k9 => z_iconst d_X11_alike_96 (by decide) k9) ?_
    exact y_ret (hQ Fa Ga hfr) (z_iret d_X11_alike_97 rfl (qsi (alR_no _ (fun k hk => hp k (by omega)))) rfl)
  · refine qy (fun _ _ k9 => z_aload_n d_X11_alike_25 rfl rfl k9) ?_
    refine qy (fun _ _ k9 => z_getf (v := qR 172) d_X11_alike_26 fl_X11_40 (xput_ob (c := (Fa 2)) xi_2 rfl (xsh_11 xo_2)) rfl k9) ?_
    refine qy (fun _ _ k9 => z_aload_n d_X11_alike_29 rfl rfl k9) ?_
    refine qy (fun _ _ k9 => z_getf (v := qR 3) d_X11_alike_30 fl_X11_12 (xput_ob (c := (Fa 2)) xi_2 rfl (xsh_11 xo_2)) rfl k9) ?_
    refine qy (fun _ _ k9 => z_getf (v := qR 4) d_X11_alike_33 fl_X11_144 (xput_ob (c := (Fa 3)) xi_3 rfl (xsh_8 xo_3)) rfl k9) ?_
    refine qy (fun _ _ k9 => z_getf (v := qR 6) d_X11_alike_36 fl_X11_243 (xput_ob (c := (Fa 4)) xi_4 rfl (xsh_0 xo_4)) rfl k9) ?_
    refine qy (fun _ _ k9 => z_aload_n d_X11_alike_39 rfl rfl k9) ?_
    refine qy (fun _ _ k9 => z_getf (v := qR 3) d_X11_alike_40 fl_X11_12 (xput_ob (c := (Fa 2)) xi_2 rfl (xsh_11 xo_2)) rfl k9) ?_
    refine qy (fun _ _ k9 => z_getf (v := qR 28) d_X11_alike_43 fl_X11_181 (xput_ob (c := (Fa 3)) xi_3 rfl (xsh_8 xo_3)) rfl k9) ?_
    refine qy (fun _ _ k9 => z_getf (v := qR 30) d_X11_alike_46 fl_X11_243 (xput_ob (c := (Fa 28)) xi_28 rfl (xsh_0 xo_28)) rfl k9) ?_
    refine qy (fun _ _ k9 => z_iload_n d_X11_alike_49 rfl rfl k9) ?_
    obtain ⟨F1, G1, ⟨hv1, hq1⟩, hx1⟩ := c_unlike9 (h := h) (F := Fa) (G := Ga) (d := 6) (e := 30) (n := i + 1) (T := T) (S := S) xa_6 (by decide) xa_30 (by decide) (by omega) (fun c hc => by rw [xfr_G hfr (by decide)]; exact hT c hc) hB (fun c hc => by rw [xfr_G hfr (by decide)]; exact hS c hc) hB2
    refine qy (fun _ _ k9 => z_cv (M1 := M_X9_firstUnlike) d_X11_alike_50 lv_X11_380 k_X9_firstUnlike [qR 6, qR 30, qI ((i + 1 : Nat) : Int)] rfl rfl (xput_ob (c := (Fa 172)) xi_172 rfl (xsh_9 xo_172)) ⟨_, _, rfl⟩ (Nat.le_of_ble_eq_true rfl) (by decide) (by decide) (Nat.le_of_ble_eq_true rfl) hx1 k9) ?_
    refine qy (fun _ _ k9 => z_istore (ls' := [qR 2, qI (to : Int), qI 0, qI ((i + 1 : Nat) : Int), qI (qif (alP T S (i + 1)) (fst (alQ T S (i + 1) (alJ T S (i + 1) + 1)) (i + 1)) (-1))]) d_X11_alike_53 (by decide) rfl k9) ?_
    refine qy (fun _ _ k9 => z_iload d_X11_alike_55 rfl k9) ?_
    refine qy (fun _ _ k9 => z_iconst d_X11_alike_57 (by decide) k9) ?_
    refine qy2 (fun _ _ => z_icmp_eq 90 d_X11_alike_58 (by decide)) (fun q58 => ?_) (fun q58 => ?_)
    · have hnl : ¬ alP T S (i + 1) := fun z => by obtain ⟨k9, _, e9⟩ := al_f z; rw [qif_t z, e9] at q58; omega
      refine qy (fun _ _ k9 => z_iinc (ls' := [qR 2, qI (to : Int), qI 0, qI (((i + 1 : Nat) : Int) + 1), qI (qif (alP T S (i + 1)) (fst (alQ T S (i + 1) (alJ T S (i + 1) + 1)) (i + 1)) (-1))]) d_X11_alike_90 rfl (by decide) (by omega) rfl k9) ?_
      refine qy (fun _ _ k9 => z_goto 20 d_X11_alike_93 (by decide) k9) ?_
      exact qy (fun _ _ k9 => z_dr (qle_k rfl (qle_k rfl (qle_k rfl (qle_k (qi (by omega)) (qle_d qle_n))))) rfl rfl k9) (kk (i + 1) F1 G1 (⟨by omega, xfr_tr hfr hv1, q_lts hp hnl⟩) (by omega))
    · have hal : alP T S (i + 1) := Classical.byContradiction (fun z => q58 (qif_f z))
      refine qy (fun _ _ k9 => z_iload_n d_X11_alike_61 rfl rfl k9) ?_
      refine qy2 (fun _ _ => z_if_ne 69 d_X11_alike_62 (by decide)) (fun hc3 => absurd hc3 (by decide)) (fun hc3 => ?_)
      refine qy (fun _ _ k9 => z_iload_n d_X11_alike_65 rfl rfl k9) ?_
      refine qy (fun _ _ k9 => z_goto 89 d_X11_alike_66 (by decide) k9) ?_
      exact y_ret (hQ F1 G1 (xfr_tr hfr hv1)) (z_iret d_X11_alike_89 rfl (qsi (by rw [al_R _ (by omega) hp hal, qif_f (by decide)]; omega)) rfl)
set_option maxRecDepth 20000 in
set_option maxHeartbeats 4000000 in
theorem xc_alike1 {h : qH} {F G : Nat → Nat → Int} {to : Nat} {T S : Nat → Int} (ht : 1 ≤ to ∧ to ≤ 24) (hT : ∀ c, c < 648 → G 6 c = T c) (hB : ∀ c, c < 648 → 0 ≤ T c ∧ T c ≤ 7) (hS : ∀ c, c < 648 → G 30 c = S c) (hB2 : ∀ c, c < 648 → 0 ≤ S c ∧ S c ≤ 7) : ∃ F' G', (xfr 173 180 F G F' G') ∧ qEx M_X11_alike 0 [qR 2, qI (to : Int), qI 1, qU, qU] [] (xput h F G) (some (qI (alR T S to 1))) (xput h F' G') := by
  refine x_in (fun Q hQ => ?_)
  refine qy (fun _ _ k9 => z_iload_n d_X11_alike_0 rfl rfl k9) ?_
  refine qy (fun _ _ k9 => z_cs (M1 := M_X11_isLength) d_X11_alike_1 ls_X11_308 k_X11_isLength [qI (to : Int)] rfl rfl (Nat.le_of_ble_eq_true rfl) (by decide) (by decide) (Nat.le_of_ble_eq_true rfl) (c_isLength (to : Int)) k9) ?_
  refine qy2n (fun _ _ => z_ifeqB 16 d_X11_alike_4 (by decide)) (fun hc1 => absurd hc1 (by omega)) (fun hc1 => ?_)
  refine qy (fun _ _ k9 => z_iload_n d_X11_alike_7 rfl rfl k9) ?_
  refine qy (fun _ _ k9 => z_iconst d_X11_alike_8 (by decide) k9) ?_
  refine qy (fun _ _ k9 => z_iconst d_X11_alike_9 (by decide) k9) ?_
  refine qy (fun _ _ k9 => z_cs (M1 := M_X11_isWithin) d_X11_alike_10 ls_X11_62 k_X11_isWithin [qI 1, qI 0, qI 2] rfl rfl (Nat.le_of_ble_eq_true rfl) (by decide) (by decide) (Nat.le_of_ble_eq_true rfl) (c_isWithin 1 0 2) k9) ?_
  refine qy2 (fun _ _ => z_ifneB 18 d_X11_alike_13 (by decide)) (fun hc2 => ?_) (fun hc2 => absurd hc2 (by omega))
  refine qy (fun _ _ k9 => z_iconst d_X11_alike_18 (by decide) k9) ?_
  refine qy (fun _ _ k9 => z_istore_n (ls' := [qR 2, qI (to : Int), qI 1, qI 1, qU]) d_X11_alike_19 rfl (by decide) rfl k9) ?_
  refine qy (fun _ _ k9 => z_eq (qc rfl (qc rfl (qc rfl (qc (qi (rfl)) (qc rfl rfl))))) rfl rfl k9) (y_wh3 (fun (i : Nat) (Fa : Nat → Nat → Int) (Ga : Nat → Nat → Int) => to - i) (fun (i : Nat) (Fa : Nat → Nat → Int) (Ga : Nat → Nat → Int) => [qR 2, qI (to : Int), qI 1, qI ((i + 1 : Nat) : Int), qU]) (fun (i : Nat) (Fa : Nat → Nat → Int) (Ga : Nat → Nat → Int) => (xput h Fa Ga)) (fun (i : Nat) (Fa : Nat → Nat → Int) (Ga : Nat → Nat → Int) => i ≤ to ∧ xfr 173 180 F G Fa Ga ∧ ∀ k, k < i → ¬ alP T S (k + 1)) 0 F G (⟨by omega, xfr_rf _ _ _ _, fun k hk => absurd hk (by omega)⟩) (fun i Fa Ga hp kk => ?_))
  obtain ⟨hi, hfr, hp⟩ := hp
  show qEy M_X11_alike 20 [qR 2, qI (to : Int), qI 1, qI ((i + 1 : Nat) : Int), qU] [] (xput h Fa Ga) Q
  refine qy (fun _ _ k9 => z_iload_n d_X11_alike_20 rfl rfl k9) ?_
  refine qy (fun _ _ k9 => z_iload_n d_X11_alike_21 rfl rfl k9) ?_
  refine qy2 (fun _ _ => z_icmp_gt 96 d_X11_alike_22 (by decide)) (fun q22 => ?_) (fun q22 => ?_)
  · refine qy (fun _ _ k9 => z_iconst d_X11_alike_96 (by decide) k9) ?_
    exact y_ret (hQ Fa Ga hfr) (z_iret d_X11_alike_97 rfl (qsi (alR_no _ (fun k hk => hp k (by omega)))) rfl)
  · refine qy (fun _ _ k9 => z_aload_n d_X11_alike_25 rfl rfl k9) ?_
    refine qy (fun _ _ k9 => z_getf (v := qR 172) d_X11_alike_26 fl_X11_40 (xput_ob (c := (Fa 2)) xi_2 rfl (xsh_11 xo_2)) rfl k9) ?_
    refine qy (fun _ _ k9 => z_aload_n d_X11_alike_29 rfl rfl k9) ?_
    refine qy (fun _ _ k9 => z_getf (v := qR 3) d_X11_alike_30 fl_X11_12 (xput_ob (c := (Fa 2)) xi_2 rfl (xsh_11 xo_2)) rfl k9) ?_
    refine qy (fun _ _ k9 => z_getf (v := qR 4) d_X11_alike_33 fl_X11_144 (xput_ob (c := (Fa 3)) xi_3 rfl (xsh_8 xo_3)) rfl k9) ?_
    refine qy (fun _ _ k9 => z_getf (v := qR 6) d_X11_alike_36 fl_X11_243 (xput_ob (c := (Fa 4)) xi_4 rfl (xsh_0 xo_4)) rfl k9) ?_
    refine qy (fun _ _ k9 => z_aload_n d_X11_alike_39 rfl rfl k9) ?_
    refine qy (fun _ _ k9 => z_getf (v := qR 3) d_X11_alike_40 fl_X11_12 (xput_ob (c := (Fa 2)) xi_2 rfl (xsh_11 xo_2)) rfl k9) ?_
    refine qy (fun _ _ k9 => z_getf (v := qR 28) d_X11_alike_43 fl_X11_181 (xput_ob (c := (Fa 3)) xi_3 rfl (xsh_8 xo_3)) rfl k9) ?_
    refine qy (fun _ _ k9 => z_getf (v := qR 30) d_X11_alike_46 fl_X11_243 (xput_ob (c := (Fa 28)) xi_28 rfl (xsh_0 xo_28)) rfl k9) ?_
    refine qy (fun _ _ k9 => z_iload_n d_X11_alike_49 rfl rfl k9) ?_
    obtain ⟨F1, G1, ⟨hv1, hq1⟩, hx1⟩ := c_unlike9 (h := h) (F := Fa) (G := Ga) (d := 6) (e := 30) (n := i + 1) (T := T) (S := S) xa_6 (by decide) xa_30 (by decide) (by omega) (fun c hc => by rw [xfr_G hfr (by decide)]; exact hT c hc) hB (fun c hc => by rw [xfr_G hfr (by decide)]; exact hS c hc) hB2
    refine qy (fun _ _ k9 => z_cv (M1 := M_X9_firstUnlike) d_X11_alike_50 lv_X11_380 k_X9_firstUnlike [qR 6, qR 30, qI ((i + 1 : Nat) : Int)] rfl rfl (xput_ob (c := (Fa 172)) xi_172 rfl (xsh_9 xo_172)) ⟨_, _, rfl⟩ (Nat.le_of_ble_eq_true rfl) (by decide) (by decide) (Nat.le_of_ble_eq_true rfl) hx1 k9) ?_
    refine qy (fun _ _ k9 => z_istore (ls' := [qR 2, qI (to : Int), qI 1, qI ((i + 1 : Nat) : Int), qI (qif (alP T S (i + 1)) (fst (alQ T S (i + 1) (alJ T S (i + 1) + 1)) (i + 1)) (-1))]) d_X11_alike_53 (by decide) rfl k9) ?_
    refine qy (fun _ _ k9 => z_iload d_X11_alike_55 rfl k9) ?_
    refine qy (fun _ _ k9 => z_iconst d_X11_alike_57 (by decide) k9) ?_
    refine qy2 (fun _ _ => z_icmp_eq 90 d_X11_alike_58 (by decide)) (fun q58 => ?_) (fun q58 => ?_)
    · have hnl : ¬ alP T S (i + 1) := fun z => by obtain ⟨k9, _, e9⟩ := al_f z; rw [qif_t z, e9] at q58; omega
      refine qy (fun _ _ k9 => z_iinc (ls' := [qR 2, qI (to : Int), qI 1, qI (((i + 1 : Nat) : Int) + 1), qI (qif (alP T S (i + 1)) (fst (alQ T S (i + 1) (alJ T S (i + 1) + 1)) (i + 1)) (-1))]) d_X11_alike_90 rfl (by decide) (by omega) rfl k9) ?_
      refine qy (fun _ _ k9 => z_goto 20 d_X11_alike_93 (by decide) k9) ?_
      exact qy (fun _ _ k9 => z_dr (qle_k rfl (qle_k rfl (qle_k rfl (qle_k (qi (by omega)) (qle_d qle_n))))) rfl rfl k9) (kk (i + 1) F1 G1 (⟨by omega, xfr_tr hfr hv1, q_lts hp hnl⟩) (by omega))
    · have hal : alP T S (i + 1) := Classical.byContradiction (fun z => q58 (qif_f z))
      refine qy (fun _ _ k9 => z_iload_n d_X11_alike_61 rfl rfl k9) ?_
      refine qy2 (fun _ _ => z_if_ne 69 d_X11_alike_62 (by decide)) (fun hc3 => ?_) (fun hc3 => absurd (by decide) hc3)
      refine qy (fun _ _ k9 => z_iload_n d_X11_alike_69 rfl rfl k9) ?_
      refine qy (fun _ _ k9 => z_iconst d_X11_alike_70 (by decide) k9) ?_
      refine qy2 (fun _ _ => z_icmp_ne 87 d_X11_alike_71 (by decide)) (fun hc4 => absurd hc4 (by decide)) (fun hc4 => ?_)
      refine qy (fun _ _ k9 => z_aload_n d_X11_alike_74 rfl rfl k9) ?_
      refine qy (fun _ _ k9 => z_getf (v := qR 172) d_X11_alike_75 fl_X11_40 (xput_ob (c := (F1 2)) xi_2 rfl (xsh_11 xo_2)) rfl k9) ?_
      refine qy (fun _ _ k9 => z_getf (v := qR 173) d_X11_alike_78 fl_X11_293 (xput_ob (c := (F1 172)) xi_172 rfl (xsh_9 xo_172)) rfl k9) ?_
      refine qy (fun _ _ k9 => z_getf (v := qI ((F1 173) 8)) d_X11_alike_81 fl_X11_323 (xput_ob (c := (F1 173)) xi_173 rfl (xsh_7 xo_173)) rfl k9) ?_
      refine qy (fun _ _ k9 => z_eq rfl (qc (qi (hq1 hal)) rfl) rfl k9) ?_
      refine qy (fun _ _ k9 => z_goto 89 d_X11_alike_84 (by decide) k9) ?_
      exact y_ret (hQ F1 G1 (xfr_tr hfr hv1)) (z_iret d_X11_alike_89 rfl (qsi (by rw [al_R _ (by omega) hp hal, qif_t (by decide), qif_f (by decide)])) rfl)
set_option maxRecDepth 20000 in
set_option maxHeartbeats 4000000 in
theorem xc_alike2 {h : qH} {F G : Nat → Nat → Int} {to : Nat} {T S : Nat → Int} (ht : 1 ≤ to ∧ to ≤ 24) (hT : ∀ c, c < 648 → G 6 c = T c) (hB : ∀ c, c < 648 → 0 ≤ T c ∧ T c ≤ 7) (hS : ∀ c, c < 648 → G 30 c = S c) (hB2 : ∀ c, c < 648 → 0 ≤ S c ∧ S c ≤ 7) : ∃ F' G', (xfr 173 180 F G F' G') ∧ qEx M_X11_alike 0 [qR 2, qI (to : Int), qI 2, qU, qU] [] (xput h F G) (some (qI (alR T S to 2))) (xput h F' G') := by
  refine x_in (fun Q hQ => ?_)
  refine qy (fun _ _ k9 => z_iload_n d_X11_alike_0 rfl rfl k9) ?_
  refine qy (fun _ _ k9 => z_cs (M1 := M_X11_isLength) d_X11_alike_1 ls_X11_308 k_X11_isLength [qI (to : Int)] rfl rfl (Nat.le_of_ble_eq_true rfl) (by decide) (by decide) (Nat.le_of_ble_eq_true rfl) (c_isLength (to : Int)) k9) ?_
  refine qy2n (fun _ _ => z_ifeqB 16 d_X11_alike_4 (by decide)) (fun hc1 => absurd hc1 (by omega)) (fun hc1 => ?_)
  refine qy (fun _ _ k9 => z_iload_n d_X11_alike_7 rfl rfl k9) ?_
  refine qy (fun _ _ k9 => z_iconst d_X11_alike_8 (by decide) k9) ?_
  refine qy (fun _ _ k9 => z_iconst d_X11_alike_9 (by decide) k9) ?_
  refine qy (fun _ _ k9 => z_cs (M1 := M_X11_isWithin) d_X11_alike_10 ls_X11_62 k_X11_isWithin [qI 2, qI 0, qI 2] rfl rfl (Nat.le_of_ble_eq_true rfl) (by decide) (by decide) (Nat.le_of_ble_eq_true rfl) (c_isWithin 2 0 2) k9) ?_
  refine qy2 (fun _ _ => z_ifneB 18 d_X11_alike_13 (by decide)) (fun hc2 => ?_) (fun hc2 => absurd hc2 (by omega))
  refine qy (fun _ _ k9 => z_iconst d_X11_alike_18 (by decide) k9) ?_
  refine qy (fun _ _ k9 => z_istore_n (ls' := [qR 2, qI (to : Int), qI 2, qI 1, qU]) d_X11_alike_19 rfl (by decide) rfl k9) ?_
  refine qy (fun _ _ k9 => z_eq (qc rfl (qc rfl (qc rfl (qc (qi (rfl)) (qc rfl rfl))))) rfl rfl k9) (y_wh3 (fun (i : Nat) (Fa : Nat → Nat → Int) (Ga : Nat → Nat → Int) => to - i) (fun (i : Nat) (Fa : Nat → Nat → Int) (Ga : Nat → Nat → Int) => [qR 2, qI (to : Int), qI 2, qI ((i + 1 : Nat) : Int), qU]) (fun (i : Nat) (Fa : Nat → Nat → Int) (Ga : Nat → Nat → Int) => (xput h Fa Ga)) (fun (i : Nat) (Fa : Nat → Nat → Int) (Ga : Nat → Nat → Int) => i ≤ to ∧ xfr 173 180 F G Fa Ga ∧ ∀ k, k < i → ¬ alP T S (k + 1)) 0 F G (⟨by omega, xfr_rf _ _ _ _, fun k hk => absurd hk (by omega)⟩) (fun i Fa Ga hp kk => ?_))
  obtain ⟨hi, hfr, hp⟩ := hp
  show qEy M_X11_alike 20 [qR 2, qI (to : Int), qI 2, qI ((i + 1 : Nat) : Int), qU] [] (xput h Fa Ga) Q
  refine qy (fun _ _ k9 => z_iload_n d_X11_alike_20 rfl rfl k9) ?_
  refine qy (fun _ _ k9 => z_iload_n d_X11_alike_21 rfl rfl k9) ?_
  refine qy2 (fun _ _ => z_icmp_gt 96 d_X11_alike_22 (by decide)) (fun q22 => ?_) (fun q22 => ?_)
  · refine qy (fun _ _ k9 => z_iconst d_X11_alike_96 (by decide) k9) ?_
    exact y_ret (hQ Fa Ga hfr) (z_iret d_X11_alike_97 rfl (qsi (alR_no _ (fun k hk => hp k (by omega)))) rfl)
  · refine qy (fun _ _ k9 => z_aload_n d_X11_alike_25 rfl rfl k9) ?_
    refine qy (fun _ _ k9 => z_getf (v := qR 172) d_X11_alike_26 fl_X11_40 (xput_ob (c := (Fa 2)) xi_2 rfl (xsh_11 xo_2)) rfl k9) ?_
    refine qy (fun _ _ k9 => z_aload_n d_X11_alike_29 rfl rfl k9) ?_
    refine qy (fun _ _ k9 => z_getf (v := qR 3) d_X11_alike_30 fl_X11_12 (xput_ob (c := (Fa 2)) xi_2 rfl (xsh_11 xo_2)) rfl k9) ?_
    refine qy (fun _ _ k9 => z_getf (v := qR 4) d_X11_alike_33 fl_X11_144 (xput_ob (c := (Fa 3)) xi_3 rfl (xsh_8 xo_3)) rfl k9) ?_
    refine qy (fun _ _ k9 => z_getf (v := qR 6) d_X11_alike_36 fl_X11_243 (xput_ob (c := (Fa 4)) xi_4 rfl (xsh_0 xo_4)) rfl k9) ?_
    refine qy (fun _ _ k9 => z_aload_n d_X11_alike_39 rfl rfl k9) ?_
    refine qy (fun _ _ k9 => z_getf (v := qR 3) d_X11_alike_40 fl_X11_12 (xput_ob (c := (Fa 2)) xi_2 rfl (xsh_11 xo_2)) rfl k9) ?_
    refine qy (fun _ _ k9 => z_getf (v := qR 28) d_X11_alike_43 fl_X11_181 (xput_ob (c := (Fa 3)) xi_3 rfl (xsh_8 xo_3)) rfl k9) ?_
    refine qy (fun _ _ k9 => z_getf (v := qR 30) d_X11_alike_46 fl_X11_243 (xput_ob (c := (Fa 28)) xi_28 rfl (xsh_0 xo_28)) rfl k9) ?_
    refine qy (fun _ _ k9 => z_iload_n d_X11_alike_49 rfl rfl k9) ?_
    obtain ⟨F1, G1, ⟨hv1, hq1⟩, hx1⟩ := c_unlike9 (h := h) (F := Fa) (G := Ga) (d := 6) (e := 30) (n := i + 1) (T := T) (S := S) xa_6 (by decide) xa_30 (by decide) (by omega) (fun c hc => by rw [xfr_G hfr (by decide)]; exact hT c hc) hB (fun c hc => by rw [xfr_G hfr (by decide)]; exact hS c hc) hB2
    refine qy (fun _ _ k9 => z_cv (M1 := M_X9_firstUnlike) d_X11_alike_50 lv_X11_380 k_X9_firstUnlike [qR 6, qR 30, qI ((i + 1 : Nat) : Int)] rfl rfl (xput_ob (c := (Fa 172)) xi_172 rfl (xsh_9 xo_172)) ⟨_, _, rfl⟩ (Nat.le_of_ble_eq_true rfl) (by decide) (by decide) (Nat.le_of_ble_eq_true rfl) hx1 k9) ?_
    refine qy (fun _ _ k9 => z_istore (ls' := [qR 2, qI (to : Int), qI 2, qI ((i + 1 : Nat) : Int), qI (qif (alP T S (i + 1)) (fst (alQ T S (i + 1) (alJ T S (i + 1) + 1)) (i + 1)) (-1))]) d_X11_alike_53 (by decide) rfl k9) ?_
    refine qy (fun _ _ k9 => z_iload d_X11_alike_55 rfl k9) ?_
    refine qy (fun _ _ k9 => z_iconst d_X11_alike_57 (by decide) k9) ?_
    refine qy2 (fun _ _ => z_icmp_eq 90 d_X11_alike_58 (by decide)) (fun q58 => ?_) (fun q58 => ?_)
    · have hnl : ¬ alP T S (i + 1) := fun z => by obtain ⟨k9, _, e9⟩ := al_f z; rw [qif_t z, e9] at q58; omega
      refine qy (fun _ _ k9 => z_iinc (ls' := [qR 2, qI (to : Int), qI 2, qI (((i + 1 : Nat) : Int) + 1), qI (qif (alP T S (i + 1)) (fst (alQ T S (i + 1) (alJ T S (i + 1) + 1)) (i + 1)) (-1))]) d_X11_alike_90 rfl (by decide) (by omega) rfl k9) ?_
      refine qy (fun _ _ k9 => z_goto 20 d_X11_alike_93 (by decide) k9) ?_
      exact qy (fun _ _ k9 => z_dr (qle_k rfl (qle_k rfl (qle_k rfl (qle_k (qi (by omega)) (qle_d qle_n))))) rfl rfl k9) (kk (i + 1) F1 G1 (⟨by omega, xfr_tr hfr hv1, q_lts hp hnl⟩) (by omega))
    · have hal : alP T S (i + 1) := Classical.byContradiction (fun z => q58 (qif_f z))
      refine qy (fun _ _ k9 => z_iload_n d_X11_alike_61 rfl rfl k9) ?_
      refine qy2 (fun _ _ => z_if_ne 69 d_X11_alike_62 (by decide)) (fun hc3 => ?_) (fun hc3 => absurd (by decide) hc3)
      refine qy (fun _ _ k9 => z_iload_n d_X11_alike_69 rfl rfl k9) ?_
      refine qy (fun _ _ k9 => z_iconst d_X11_alike_70 (by decide) k9) ?_
      refine qy2 (fun _ _ => z_icmp_ne 87 d_X11_alike_71 (by decide)) (fun hc4 => ?_) (fun hc4 => absurd (by decide) hc4)
      refine qy (fun _ _ k9 => z_iload d_X11_alike_87 rfl k9) ?_
      exact y_ret (hQ F1 G1 (xfr_tr hfr hv1)) (z_iret d_X11_alike_89 rfl (qsi (by rw [al_R _ (by omega) hp hal, qif_t (by decide), qif_t (by decide), qif_t hal])) rfl)
