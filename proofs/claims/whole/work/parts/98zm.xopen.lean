/-! ===== CONTRACTS: the reader: findTokens, open; Page.add ===== -/
theorem sk_bl {B : Nat → Int} {N q : Nat} (hq : q < N) (h : isB (B q)) : sk B N (q + 1) = sk B N q := by
  have hr := rl_sp (Q := isB) B nB (show q + 1 ≤ N by omega)
  have e : rl isB B N q = rl isB B N (q + 1) + 1 := rl_at (by omega) (fun j hj => by
    rcases Nat.eq_zero_or_pos j with z | z
    · subst z; rw [bAt_lt (by omega)]; exact h
    · have := hr.2.1 (j - 1) (by omega)
      rw [show q + 1 + (j - 1) = q + j by omega] at this
      exact this) (by
    rw [show q + (rl isB B N (q + 1) + 1) = q + 1 + rl isB B N (q + 1) by omega]
    exact hr.2.2)
  unfold sk
  omega
theorem sk_N {B : Nat → Int} {N : Nat} : sk B N N = N := by
  have := sk_sp B (Nat.le_refl N)
  omega
/-- the rows of the first c tokens -/
def tkR (G : Nat → Nat → Int) (B : Nat → Int) (N c : Nat) : Prop := ∀ j, j < c → tp B N j < N ∧ G 162 j = kd B N (tp B N j) ∧ G 163 j = (tp B N j : Int) ∧ (kd B N (tp B N j) = 2 → G 164 j = vl B N (tp B N j))
theorem tkR_s {G G' : Nat → Nat → Int} {B : Nat → Int} {N c : Nat} (h : tkR G B N c) (hc : tp B N c < N) (hG : ntG B N (tp B N c) c G G') : tkR G' B N (c + 1) := by
  obtain ⟨_, e2, e3, v, e4, hv⟩ := hG
  intro j hj
  rw [e2, e3, e4]
  by_cases z : j = c
  · subst z
    rw [qup_eq, qup_eq, qup_eq]
    exact ⟨hc, rfl, rfl, hv⟩
  · rw [qup_ne z, qup_ne z, qup_ne z]
    exact h j (by omega)
def tkX (G G' : Nat → Nat → Int) : Prop := ∀ a, a ≠ 162 → a ≠ 163 → a ≠ 164 → G' a = G a
theorem tk_fin {Ga : Nat → Nat → Int} {B : Nat → Int} {N c q : Nat} (hc : c ≤ q) (hq : q = N) (hN : N ≤ 400) (hs : sk B N q = tp B N c) (hr : tkR Ga B N c) : tkT (gup (gup Ga 162 (qup (Ga 162) c 0)) 163 (qup (Ga 163) c (N : Int))) B N c := by
  have ht : tp B N c = N := by rw [← hs, hq, sk_N]
  refine ⟨fun j hj => ?_, fun j hj => (hr j hj).1, ht, by omega⟩
  rw [gup_ne (show (162 : Nat) ≠ 163 by decide), gup_eq, gup_eq, gup_ne (show (164 : Nat) ≠ 163 by decide), gup_ne (show (164 : Nat) ≠ 162 by decide)]
  by_cases z : j = c
  · subst z
    have k0 : kd B N N = 0 := kd_0.mpr (Nat.le_refl _)
    rw [qup_eq, qup_eq, ht, k0]
    exact ⟨rfl, rfl, fun y => absurd y (by decide)⟩
  · rw [qup_ne z, qup_ne z]
    exact (hr j (by omega)).2
set_option maxRecDepth 20000 in
set_option maxHeartbeats 4000000 in
theorem c_findTok {h : qH} {F G : Nat → Nat → Int} {B : Nat → Int} {N : Nat} (hZ : rdB F G B N) (hN : N ≤ 400) : ∃ F' G', (F' = F ∧ tkX G G' ∧ ∃ c, tkT G' B N c) ∧ qEx M_X4_findTokens 0 [qR 160, qU, qU, qU, qU] [] (xput h F G) none (xput h F' G') := by
  refine x_in (fun Q hQ => ?_)
  refine qy (fun _ _ k9 => z_iconst d_X4_findTokens_0 (by decide) k9) ?_
  refine qy (fun _ _ k9 => z_istore_n (ls' := [qR 160, qI 0, qU, qU, qU]) d_X4_findTokens_1 rfl (by decide) rfl k9) ?_
  refine qy (fun _ _ k9 => z_iconst d_X4_findTokens_2 (by decide) k9) ?_
  refine qy (fun _ _ k9 => z_istore_n (ls' := [qR 160, qI 0, qI 0, qU, qU]) d_X4_findTokens_3 rfl (by decide) rfl k9) ?_
  refine qy (fun _ _ k9 => z_iconst d_X4_findTokens_4 (by decide) k9) ?_
  refine qy (fun _ _ k9 => z_istore_n (ls' := [qR 160, qI 0, qI 0, qI 0, qU]) d_X4_findTokens_5 rfl (by decide) rfl k9) ?_
  refine qy (fun _ _ k9 => z_eq (qc rfl (qc (qi (rfl)) (qc (qi (rfl)) (qc (qi (rfl)) (qc rfl rfl))))) rfl rfl k9) (y_wh4 (fun (i : Nat) (c : Nat) (q : Nat) (Ga : Nat → Nat → Int) => 400 - i) (fun (i : Nat) (c : Nat) (q : Nat) (Ga : Nat → Nat → Int) => [qR 160, qI (c : Int), qI (q : Int), qI (i : Int), qU]) (fun (i : Nat) (c : Nat) (q : Nat) (Ga : Nat → Nat → Int) => (xput h F Ga)) (fun (i : Nat) (c : Nat) (q : Nat) (Ga : Nat → Nat → Int) => (i ≤ q ∧ c ≤ q ∧ q ≤ N) ∧ sk B N q = tp B N c ∧ tkX G Ga ∧ tkR Ga B N c) 0 0 0 G (⟨⟨by omega, by omega, by omega⟩, rfl, fun _ _ _ _ => rfl, fun j hj => absurd hj (by omega)⟩) (fun i c q Ga hp kk => ?_))
  obtain ⟨⟨hiq, hcq, hqN⟩, hs, hx, hr⟩ := hp
  show qEy M_X4_findTokens 6 [qR 160, qI (c : Int), qI (q : Int), qI (i : Int), qU] [] (xput h F Ga) Q
  have hZ1 : rdB F Ga B N := ⟨hZ.1, fun j hj => by rw [hx 161 (by decide) (by decide) (by decide)]; exact hZ.2 j hj⟩
  refine qy (fun _ _ k9 => z_iload_n d_X4_findTokens_6 rfl rfl k9) ?_
  refine qy (fun _ _ k9 => z_sipush d_X4_findTokens_7 (by decide) k9) ?_
  refine qy2 (fun _ _ => z_icmp_ge 66 d_X4_findTokens_10 (by decide)) (fun q10 => ?_) (fun q10 => ?_)
  · refine qy (fun _ _ k9 => z_aload_n d_X4_findTokens_66 rfl rfl k9) ?_
    refine qy (fun _ _ k9 => z_getf (v := qR 162) d_X4_findTokens_67 fl_X4_19 (xput_ob (c := (F 160)) xi_160 rfl (xsh_4 xo_160)) rfl k9) ?_
    refine qy (fun _ _ k9 => z_iload_n d_X4_findTokens_70 rfl rfl k9) ?_
    refine qy (fun _ _ k9 => z_iconst d_X4_findTokens_71 (by decide) k9) ?_
    refine qy (fun _ _ k9 => z_ist c d_X4_findTokens_72 (xput_ar (g := (Ga 162)) xa_162 rfl) (by omega) rfl (by omega) k9) ?_
    refine qy (fun _ _ k9 => z_eq rfl rfl (xput_sa xa_162) k9) ?_
    refine qy (fun _ _ k9 => z_aload_n d_X4_findTokens_73 rfl rfl k9) ?_
    refine qy (fun _ _ k9 => z_getf (v := qR 163) d_X4_findTokens_74 fl_X4_22 (xput_ob (c := (F 160)) xi_160 rfl (xsh_4 xo_160)) rfl k9) ?_
    refine qy (fun _ _ k9 => z_iload_n d_X4_findTokens_77 rfl rfl k9) ?_
    refine qy (fun _ _ k9 => z_aload_n d_X4_findTokens_78 rfl rfl k9) ?_
    refine qy (fun _ _ k9 => z_getf (v := qI ((F 160) 1)) d_X4_findTokens_79 fl_X4_15 (xput_ob (c := (F 160)) xi_160 rfl (xsh_4 xo_160)) rfl k9) ?_
    refine qy (fun _ _ k9 => z_eq rfl (qc (qi hZ.1) rfl) rfl k9) ?_
    refine qy (fun _ _ k9 => z_ist c d_X4_findTokens_82 (xput_ar (g := (Ga 163)) xa_163 rfl) (by omega) rfl (by omega) k9) ?_
    refine qy (fun _ _ k9 => z_eq rfl rfl (xput_sa xa_163) k9) ?_
    exact y_ret (hQ F (gup (gup Ga 162 (qup (Ga 162) c 0)) 163 (qup (Ga 163) c (N : Int))) (⟨rfl, fun a h1 h2 h3 => by rw [gup_ne h2, gup_ne h1]; exact hx a h1 h2 h3, c, tk_fin hcq (by omega) hN hs hr⟩)) (z_vret d_X4_findTokens_83 rfl rfl rfl)
  · refine qy (fun _ _ k9 => z_iload_n d_X4_findTokens_13 rfl rfl k9) ?_
    refine qy (fun _ _ k9 => z_aload_n d_X4_findTokens_14 rfl rfl k9) ?_
    refine qy (fun _ _ k9 => z_getf (v := qI ((F 160) 1)) d_X4_findTokens_15 fl_X4_15 (xput_ob (c := (F 160)) xi_160 rfl (xsh_4 xo_160)) rfl k9) ?_
    refine qy (fun _ _ k9 => z_eq rfl (qc (qi hZ.1) rfl) rfl k9) ?_
    refine qy2 (fun _ _ => z_icmp_ge 66 d_X4_findTokens_18 (by decide)) (fun q18 => ?_) (fun q18 => ?_)
    · refine qy (fun _ _ k9 => z_aload_n d_X4_findTokens_66 rfl rfl k9) ?_
      refine qy (fun _ _ k9 => z_getf (v := qR 162) d_X4_findTokens_67 fl_X4_19 (xput_ob (c := (F 160)) xi_160 rfl (xsh_4 xo_160)) rfl k9) ?_
      refine qy (fun _ _ k9 => z_iload_n d_X4_findTokens_70 rfl rfl k9) ?_
      refine qy (fun _ _ k9 => z_iconst d_X4_findTokens_71 (by decide) k9) ?_
      refine qy (fun _ _ k9 => z_ist c d_X4_findTokens_72 (xput_ar (g := (Ga 162)) xa_162 rfl) (by omega) rfl (by omega) k9) ?_
      refine qy (fun _ _ k9 => z_eq rfl rfl (xput_sa xa_162) k9) ?_
      refine qy (fun _ _ k9 => z_aload_n d_X4_findTokens_73 rfl rfl k9) ?_
      refine qy (fun _ _ k9 => z_getf (v := qR 163) d_X4_findTokens_74 fl_X4_22 (xput_ob (c := (F 160)) xi_160 rfl (xsh_4 xo_160)) rfl k9) ?_
      refine qy (fun _ _ k9 => z_iload_n d_X4_findTokens_77 rfl rfl k9) ?_
      refine qy (fun _ _ k9 => z_aload_n d_X4_findTokens_78 rfl rfl k9) ?_
      refine qy (fun _ _ k9 => z_getf (v := qI ((F 160) 1)) d_X4_findTokens_79 fl_X4_15 (xput_ob (c := (F 160)) xi_160 rfl (xsh_4 xo_160)) rfl k9) ?_
      refine qy (fun _ _ k9 => z_eq rfl (qc (qi hZ.1) rfl) rfl k9) ?_
      refine qy (fun _ _ k9 => z_ist c d_X4_findTokens_82 (xput_ar (g := (Ga 163)) xa_163 rfl) (by omega) rfl (by omega) k9) ?_
      refine qy (fun _ _ k9 => z_eq rfl rfl (xput_sa xa_163) k9) ?_
      exact y_ret (hQ F (gup (gup Ga 162 (qup (Ga 162) c 0)) 163 (qup (Ga 163) c (N : Int))) (⟨rfl, fun a h1 h2 h3 => by rw [gup_ne h2, gup_ne h1]; exact hx a h1 h2 h3, c, tk_fin hcq (by omega) hN hs hr⟩)) (z_vret d_X4_findTokens_83 rfl rfl rfl)
    · refine qy (fun _ _ k9 => z_aload_n d_X4_findTokens_21 rfl rfl k9) ?_
      refine qy (fun _ _ k9 => z_getf (v := qR 161) d_X4_findTokens_22 fl_X4_11 (xput_ob (c := (F 160)) xi_160 rfl (xsh_4 xo_160)) rfl k9) ?_
      refine qy (fun _ _ k9 => z_iload_n d_X4_findTokens_25 rfl rfl k9) ?_
      refine qy (fun _ _ k9 => z_ild q d_X4_findTokens_26 (xput_ar (g := (Ga 161)) xa_161 rfl) rfl (by omega) k9) ?_
      refine qy (fun _ _ k9 => z_eq rfl (qc (qi (show ((Ga 161) q) = (B q) from hZ1.2 q (by omega))) rfl) rfl k9) ?_
      refine qy (fun _ _ k9 => z_cs (M1 := M_X4_isBlank) d_X4_findTokens_27 ls_X4_72 k_X4_isBlank [qI (B q)] rfl rfl (Nat.le_of_ble_eq_true rfl) (by decide) (by decide) (Nat.le_of_ble_eq_true rfl) (c_isBlank (B q)) k9) ?_
      refine qy2n (fun _ _ => z_ifeqB 39 d_X4_findTokens_30 (by decide)) (fun q30 => ?_) (fun q30 => ?_)
      · have hqc : q = tp B N c := (sk_id (by omega) (by rw [bAt_lt (by omega)]; exact q30)).symm.trans hs
        have hen := en_sp (B := B) (N := N) (p := q) (by omega)
        refine qy (fun _ _ k9 => z_aload_n d_X4_findTokens_39 rfl rfl k9) ?_
        refine qy (fun _ _ k9 => z_iload_n d_X4_findTokens_40 rfl rfl k9) ?_
        refine qy (fun _ _ k9 => z_cv (M1 := M_X4_behindToken) d_X4_findTokens_41 lv_X4_76 k_X4_behindToken [qI (q : Int)] rfl rfl (xput_ob (c := (F 160)) xi_160 rfl (xsh_4 xo_160)) ⟨_, _, rfl⟩ (Nat.le_of_ble_eq_true rfl) (by decide) (by decide) (Nat.le_of_ble_eq_true rfl) (c_beh (B := B) (N := N) (p := q) hZ1 hN (by omega)) k9) ?_
        refine qy (fun _ _ k9 => z_istore (ls' := [qR 160, qI (c : Int), qI (q : Int), qI (i : Int), qI (((en B N q) : Nat) : Int)]) d_X4_findTokens_44 (by decide) rfl k9) ?_
        refine qy (fun _ _ k9 => z_aload_n d_X4_findTokens_46 rfl rfl k9) ?_
        refine qy (fun _ _ k9 => z_iload_n d_X4_findTokens_47 rfl rfl k9) ?_
        refine qy (fun _ _ k9 => z_iload_n d_X4_findTokens_48 rfl rfl k9) ?_
        refine qy (fun _ _ k9 => z_iload d_X4_findTokens_49 rfl k9) ?_
        obtain ⟨G1, hg1, hx1⟩ := c_note (h := h) (F := F) (G := Ga) (B := B) (N := N) (p := q) (j := c) hZ1 hN (by omega) (by omega)
        refine qy (fun _ _ k9 => z_cv0 (M1 := M_X4_noteToken) d_X4_findTokens_51 lv_X4_80 k_X4_noteToken [qI (c : Int), qI (q : Int), qI (((en B N q) : Nat) : Int)] rfl rfl (xput_ob (c := (F 160)) xi_160 rfl (xsh_4 xo_160)) ⟨_, _, rfl⟩ (Nat.le_of_ble_eq_true rfl) (by decide) (by decide) (Nat.le_of_ble_eq_true rfl) hx1 k9) ?_
        refine qy (fun _ _ k9 => z_iinc (ls' := [qR 160, qI ((c : Int) + 1), qI (q : Int), qI (i : Int), qI (((en B N q) : Nat) : Int)]) d_X4_findTokens_54 rfl (by decide) (by omega) rfl k9) ?_
        refine qy (fun _ _ k9 => z_iload d_X4_findTokens_57 rfl k9) ?_
        refine qy (fun _ _ k9 => z_istore_n (ls' := [qR 160, qI ((c : Int) + 1), qI (((en B N q) : Nat) : Int), qI (i : Int), qI (((en B N q) : Nat) : Int)]) d_X4_findTokens_59 rfl (by decide) rfl k9) ?_
        refine qy (fun _ _ k9 => z_iinc (ls' := [qR 160, qI ((c : Int) + 1), qI (((en B N q) : Nat) : Int), qI ((i : Int) + 1), qI (((en B N q) : Nat) : Int)]) d_X4_findTokens_60 rfl (by decide) (by omega) rfl k9) ?_
        refine qy (fun _ _ k9 => z_goto 6 d_X4_findTokens_63 (by decide) k9) ?_
        exact qy (fun _ _ k9 => z_dr (qle_k rfl (qle_k (qi (by omega)) (qle_k (qi (by omega)) (qle_k (qi (by omega)) (qle_d qle_n))))) rfl rfl k9) (kk (i + 1) (c + 1) (en B N q) G1 (⟨⟨by omega, by omega, hen.2⟩, (by show sk B N (en B N q) = nx B N (tp B N c); rw [← hqc]; rfl), (fun a h1 h2 h3 => (hg1.1 a h1 h2 h3).trans (hx a h1 h2 h3)), tkR_s hr (by omega) (by rw [← hqc]; exact hg1)⟩) (by omega))
      · refine qy (fun _ _ k9 => z_iinc (ls' := [qR 160, qI (c : Int), qI ((q : Int) + 1), qI (i : Int), qU]) d_X4_findTokens_33 rfl (by decide) (by omega) rfl k9) ?_
        refine qy (fun _ _ k9 => z_goto 60 d_X4_findTokens_36 (by decide) k9) ?_
        refine qy (fun _ _ k9 => z_iinc (ls' := [qR 160, qI (c : Int), qI ((q : Int) + 1), qI ((i : Int) + 1), qU]) d_X4_findTokens_60 rfl (by decide) (by omega) rfl k9) ?_
        refine qy (fun _ _ k9 => z_goto 6 d_X4_findTokens_63 (by decide) k9) ?_
        exact qy (fun _ _ k9 => z_eq (qc rfl (qc (qi (by omega)) (qc (qi (by omega)) (qc (qi (by omega)) (qc rfl rfl))))) rfl rfl k9) (kk (i + 1) c (q + 1) Ga (⟨⟨by omega, by omega, by omega⟩, (sk_bl (by omega) q30).trans hs, hx, hr⟩) (by omega))
/-- the reader's page is empty but for what pgR says: the bits behind the rules are 0 -/
def pgZ (G : Nat → Nat → Int) (p : Nat) (c : Int) : Prop := ∀ i s : Nat, c ≤ (i : Int) → i < 32 → s < 9 → tb (G (p + 2) s) i = false ∧ tb (G (p + 3) s) i = false
theorem open_p {F G Fa F1 G1 : Nat → Nat → Int} {B : Nat → Int} {N c : Nat} (hFa : Fa = gup (gup (gup F 160 (qup (qup (F 160) 7 0) 8 (-1))) 165 (qup (F 165) 4 0)) 170 (qup (F 170) 2 0)) (hf : F1 = Fa) (hg : tkX (gup (gup (gup G 166 (qmx 9 (fun _ => 0) (G 166))) 167 (qmx 9 (fun _ => 0) (G 167))) 168 (qmx 9 (fun _ => 0) (G 168))) G1) (ht : tkT G1 B N c) (F' G' : Nat → Nat → Int) (e1 : F' = gup F1 160 (qup (qup (F1 160) 5 0) 6 (G1 162 0))) (e2 : G' = G1) : (∀ a, a ≠ 160 → a ≠ 165 → a ≠ 170 → F' a = F a) ∧ (∀ k, k < 5 ∨ 8 < k → F' 160 k = F 160 k) ∧ (∀ a, (a < 162 ∨ 168 < a) → G' a = G a) ∧ rdE F' 0 (-1) ∧ rdP F' G' B N (sk B N 0) ∧ (F' 165 4 = 0 ∧ (∀ s, s < 9 → G' 166 s = 0 ∧ G' 167 s = 0 ∧ G' 168 s = 0)) ∧ F' 170 2 = 0 := by
  subst e1 e2 hf
  have ea : ∀ a, a ≠ 160 → F1 a = (gup (gup F 165 (qup (F 165) 4 0)) 170 (qup (F 170) 2 0)) a := fun a h => by
    rw [hFa]
    by_cases z : a = 170
    · subst z; rw [gup_eq, gup_eq]
    · rw [gup_ne z, gup_ne z]
      by_cases y : a = 165
      · subst y; rw [gup_eq, gup_eq]
      · rw [gup_ne y, gup_ne y, gup_ne h]
  have eb : F1 160 = qup (qup (F 160) 7 0) 8 (-1) := by rw [hFa, gup_ne (by decide), gup_ne (by decide), gup_eq]
  refine ⟨fun a h1 h2 h3 => ?_, fun k hk => ?_, fun a ha => ?_, ⟨?_, ?_⟩, ⟨0, c, ⟨Nat.zero_le _, rfl⟩, ht, ?_, ?_⟩, ⟨?_, fun s hs => ⟨?_, ?_, ?_⟩⟩, ?_⟩
  · rw [gup_ne h1, ea a h1, gup_ne h3, gup_ne h2]
  · rw [gup_eq, qup_ne (by omega), qup_ne (by omega), eb, qup_ne (by omega), qup_ne (by omega)]
  · rw [hg a (by omega) (by omega) (by omega), gup_ne (by omega), gup_ne (by omega), gup_ne (by omega)]
  · rw [gup_eq, qup_ne (by decide), qup_ne (by decide), eb, qup_ne (by decide), qup_eq]
  · rw [gup_eq, qup_ne (by decide), qup_ne (by decide), eb, qup_eq]
  · rw [gup_eq, qup_ne (by decide), qup_eq]; rfl
  · rw [gup_eq, qup_eq]; exact (ht.1 0 (Nat.zero_le _)).1
  · rw [gup_ne (by decide), ea 165 (by decide), gup_ne (by decide), gup_eq, qup_eq]
  · rw [hg 166 (by decide) (by decide) (by decide), gup_ne (by decide), gup_ne (by decide), gup_eq, qmx_lt hs]
  · rw [hg 167 (by decide) (by decide) (by decide), gup_ne (by decide), gup_eq, qmx_lt hs]
  · rw [hg 168 (by decide) (by decide) (by decide), gup_eq, qmx_lt hs]
  · rw [gup_ne (by decide), ea 170 (by decide), gup_eq, qup_eq]
set_option maxRecDepth 20000 in
set_option maxHeartbeats 4000000 in
theorem c_open {h : qH} {F G : Nat → Nat → Int} {B : Nat → Int} {N L : Nat} (hZ : rdB F G B N) (hN : N ≤ 400) (hL : F 170 2 = (L : Int)) (hL2 : L ≤ 16) : ∃ F' G', ((∀ a, a ≠ 160 → a ≠ 165 → a ≠ 170 → F' a = F a) ∧ (∀ k, k < 5 ∨ 8 < k → F' 160 k = F 160 k) ∧ (∀ a, (a < 162 ∨ 168 < a) → G' a = G a) ∧ rdE F' 0 (-1) ∧ rdP F' G' B N (sk B N 0) ∧ (F' 165 4 = 0 ∧ (∀ s, s < 9 → G' 166 s = 0 ∧ G' 167 s = 0 ∧ G' 168 s = 0)) ∧ F' 170 2 = 0) ∧ qEx M_X4_open 0 [qR 160] [] (xput h F G) none (xput h F' G') := by
  refine x_in (fun Q hQ => ?_)
  refine qy (fun _ _ k9 => z_aload_n d_X4_open_0 rfl rfl k9) ?_
  refine qy (fun _ _ k9 => z_iconst d_X4_open_1 (by decide) k9) ?_
  refine qy (fun _ _ k9 => z_putf (fs' := [qR 161, qI ((F 160) 1), qR 162, qR 163, qR 164, qI ((F 160) 5), qI ((F 160) 6), qI 0, qI ((F 160) 8), qR 165, qR 170]) d_X4_open_2 fp_X4_34 (xput_ob (c := (F 160)) xi_160 rfl (xsh_4 xo_160)) (fun _ => rfl) (fun _ => rfl) (Nat.le_of_ble_eq_true rfl) rfl k9) ?_
  refine qy (fun _ _ k9 => z_eq rfl rfl (xput_sf (c := (qup (F 160) 7 0)) xi_160 (xsh_4 xo_160)) k9) ?_
  refine qy (fun _ _ k9 => z_aload_n d_X4_open_5 rfl rfl k9) ?_
  refine qy (fun _ _ k9 => z_iconst d_X4_open_6 (by decide) k9) ?_
  refine qy (fun _ _ k9 => z_putf (fs' := [qR 161, qI ((F 160) 1), qR 162, qR 163, qR 164, qI ((F 160) 5), qI ((F 160) 6), qI 0, qI (-1), qR 165, qR 170]) d_X4_open_7 fp_X4_37 (xput_ob (c := (qup (F 160) 7 0)) xi_160 rfl (xsh_4 xo_160)) (fun _ => rfl) (fun _ => rfl) (Nat.le_of_ble_eq_true rfl) rfl k9) ?_
  refine qy (fun _ _ k9 => z_eq rfl rfl ((xput_sf (c := (qup (qup (F 160) 7 0) 8 (-1))) xi_160 (xsh_4 xo_160)).trans (xput_cg (gup_gup _ _ _) rfl)) k9) ?_
  refine qy (fun _ _ k9 => z_aload_n d_X4_open_10 rfl rfl k9) ?_
  refine qy (fun _ _ k9 => z_getf (v := qR 165) d_X4_open_11 fl_X4_43 (xput_ob (c := (qup (qup (F 160) 7 0) 8 (-1))) xi_160 rfl (xsh_4 xo_160)) rfl k9) ?_
  refine qy (fun _ _ k9 => z_cv0 (M1 := M_X2_clear) d_X4_open_14 lv_X4_63 k_X2_clear [] rfl rfl (xput_ob (c := (F 165)) xi_165 rfl (xsh_2 xo_165)) ⟨_, _, rfl⟩ (Nat.le_of_ble_eq_true rfl) (by decide) (by decide) (Nat.le_of_ble_eq_true rfl) (c_pgClear (h := h) (F := (gup F 160 (qup (qup (F 160) 7 0) 8 (-1)))) (G := G) (p := 165) (by decide) xo_165) k9) ?_
  refine qy (fun _ _ k9 => z_aload_n d_X4_open_17 rfl rfl k9) ?_
  refine qy (fun _ _ k9 => z_getf (v := qR 170) d_X4_open_18 fl_X4_52 (xput_ob (c := (qup (qup (F 160) 7 0) 8 (-1))) xi_160 rfl (xsh_4 xo_160)) rfl k9) ?_
  refine qy (fun _ _ k9 => z_iconst d_X4_open_21 (by decide) k9) ?_
  refine qy (fun _ _ k9 => z_cv0 (M1 := M_X6_cutTo) d_X4_open_22 lv_X4_66 k_X6_cutTo [qI 0] rfl rfl (xput_ob (c := (F 170)) xi_170 rfl (xsh_6 xo_170)) ⟨_, _, rfl⟩ (Nat.le_of_ble_eq_true rfl) (by decide) (by decide) (Nat.le_of_ble_eq_true rfl) (c_rwCut (h := h) (F := (gup (gup F 160 (qup (qup (F 160) 7 0) 8 (-1))) 165 (qup (F 165) 4 0))) (G := (gup (gup (gup G 166 (qmx 9 (fun _ => 0) (G 166))) 167 (qmx 9 (fun _ => 0) (G 167))) 168 (qmx 9 (fun _ => 0) (G 168)))) (q := 170) (L := L) 0 (by decide) xo_170 (by rw [gup_ne (by decide), gup_ne (by decide)]; exact hL) (by rw [show xM 170 = 16 by decide]; exact hL2) (by omega)) k9) ?_
  refine qy (fun _ _ k9 => z_aload_n d_X4_open_25 rfl rfl k9) ?_
  obtain ⟨F1, G1, ⟨hf1, hg1, c9, ht1⟩, hx1⟩ := c_findTok (h := h) (F := (gup (gup (gup F 160 (qup (qup (F 160) 7 0) 8 (-1))) 165 (qup (F 165) 4 0)) 170 (qup (F 170) 2 0))) (G := (gup (gup (gup G 166 (qmx 9 (fun _ => 0) (G 166))) 167 (qmx 9 (fun _ => 0) (G 167))) 168 (qmx 9 (fun _ => 0) (G 168)))) (B := B) (N := N) ⟨by rw [gup_ne (by decide), gup_ne (by decide), gup_eq, qup_ne (by decide), qup_ne (by decide)]; exact hZ.1, fun j9 hj9 => by rw [gup_ne (by decide), gup_ne (by decide), gup_ne (by decide)]; exact hZ.2 j9 hj9⟩ hN
  refine qy (fun _ _ k9 => z_cv0 (M1 := M_X4_findTokens) d_X4_open_26 lv_X4_69 k_X4_findTokens [] rfl rfl (xput_ob (c := (qup (qup (F 160) 7 0) 8 (-1))) xi_160 rfl (xsh_4 xo_160)) ⟨_, _, rfl⟩ (Nat.le_of_ble_eq_true rfl) (by decide) (by decide) (Nat.le_of_ble_eq_true rfl) hx1 k9) ?_
  refine qy (fun _ _ k9 => z_aload_n d_X4_open_29 rfl rfl k9) ?_
  refine qy (fun _ _ k9 => z_iconst d_X4_open_30 (by decide) k9) ?_
  refine qy (fun _ _ k9 => z_putf (fs' := [qR 161, qI ((F1 160) 1), qR 162, qR 163, qR 164, qI 0, qI ((F1 160) 6), qI ((F1 160) 7), qI ((F1 160) 8), qR 165, qR 170]) d_X4_open_31 fp_X4_28 (xput_ob (c := (F1 160)) xi_160 rfl (xsh_4 xo_160)) (fun _ => rfl) (fun _ => rfl) (Nat.le_of_ble_eq_true rfl) rfl k9) ?_
  refine qy (fun _ _ k9 => z_eq rfl rfl (xput_sf (c := (qup (F1 160) 5 0)) xi_160 (xsh_4 xo_160)) k9) ?_
  refine qy (fun _ _ k9 => z_aload_n d_X4_open_34 rfl rfl k9) ?_
  refine qy (fun _ _ k9 => z_aload_n d_X4_open_35 rfl rfl k9) ?_
  refine qy (fun _ _ k9 => z_getf (v := qR 162) d_X4_open_36 fl_X4_19 (xput_ob (c := (qup (F1 160) 5 0)) xi_160 rfl (xsh_4 xo_160)) rfl k9) ?_
  refine qy (fun _ _ k9 => z_iconst d_X4_open_39 (by decide) k9) ?_
  refine qy (fun _ _ k9 => z_ild 0 d_X4_open_40 (xput_ar (g := (G1 162)) xa_162 rfl) rfl (by omega) k9) ?_
  refine qy (fun _ _ k9 => z_putf (fs' := [qR 161, qI ((F1 160) 1), qR 162, qR 163, qR 164, qI 0, qI ((G1 162) 0), qI ((F1 160) 7), qI ((F1 160) 8), qR 165, qR 170]) d_X4_open_41 fp_X4_31 (xput_ob (c := (qup (F1 160) 5 0)) xi_160 rfl (xsh_4 xo_160)) (fun _ => rfl) (fun _ => rfl) (Nat.le_of_ble_eq_true rfl) rfl k9) ?_
  refine qy (fun _ _ k9 => z_eq rfl rfl ((xput_sf (c := (qup (qup (F1 160) 5 0) 6 ((G1 162) 0))) xi_160 (xsh_4 xo_160)).trans (xput_cg (gup_gup _ _ _) rfl)) k9) ?_
  exact y_ret (hQ (gup F1 160 (qup (qup (F1 160) 5 0) 6 ((G1 162) 0))) G1 (open_p (c := c9) rfl hf1 hg1 ht1 _ _ rfl rfl)) (z_vret d_X4_open_44 rfl rfl rfl)
