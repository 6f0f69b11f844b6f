/-! ===== CONTRACTS: rounds: follow ===== -/
noncomputable def Mp (T N : Nat → Int) (n : Nat) : Nat → Nat → Int
  | 0 => fun j => N (32 + j)
  | s + 1 => rr T N n s
theorem Mp_bd {T N : Nat → Int} {n : Nat} (hn : n ≤ 32) (hT : ∀ c, c < 648 → 0 ≤ T c ∧ T c ≤ 7) (hB : ∀ j, j < 64 → 0 ≤ N j ∧ N j ≤ 7) : ∀ p k, k < 32 → 0 ≤ Mp T N n p k ∧ Mp T N n p k ≤ 7
  | 0, k, hk => hB (32 + k) (by omega)
  | s + 1, k, hk => rr_bd hn hT hB s k (by omega)
theorem pk_iff9 {M M' : Nat → Int} {n : Nat} (hn : n ≤ 32) (h : ∀ k, k < 32 → 0 ≤ M k ∧ M k ≤ 7) (h' : ∀ k, k < 32 → 0 ≤ M' k ∧ M' k ≤ 7) : (pkL M n = pkL M' n ∧ pkH M n = pkH M' n) ↔ ∀ k, k < n → M k = M' k := by
  unfold pkL pkH
  rw [pk4_inj (o := 0) (min n 16) (fun j hj => h _ (by omega)) (fun j hj => h' _ (by omega)), pk4_inj (o := 16) (n - 16) (fun j hj => h _ (by omega)) (fun j hj => h' _ (by omega))]
  constructor
  · rintro ⟨a, b⟩ k hk
    rcases Nat.lt_or_ge k 16 with q | q
    · have := a k (by omega); rwa [Nat.zero_add] at this
    · have := b (k - 16) (by omega); rwa [show 16 + (k - 16) = k by omega] at this
  · intro a
    exact ⟨fun j hj => a _ (by omega), fun j hj => a _ (by omega)⟩
/-- of a row in the thought: what lies beyond the wall, and what was -/
theorem rr_out {T N : Nat → Int} {n : Nat} (hn : n ≤ 32) : ∀ t k, n ≤ k → k < 32 → rr T N n t k = N k ∧ rr T N n t (32 + k) = N (32 + k)
  | 0, _, _, _ => ⟨rfl, rfl⟩
  | t + 1, k, h1, h2 => by
    obtain ⟨a, b⟩ := rr_out hn t k h1 h2
    constructor
    · show rmv T (rr T N n t) n n k = _
      unfold rmv
      rw [if_neg (by omega), if_neg (by omega)]; exact a
    · show rmv T (rr T N n t) n n (32 + k) = _
      unfold rmv
      rw [if_neg (by omega), if_neg (by omega)]; exact b
theorem rr_was {T N : Nat → Int} {n : Nat} (hn : n ≤ 32) : ∀ t k, k < n → rr T N n t (32 + k) = Mp T N n t k
  | 0, _, _ => rfl
  | t + 1, k, hk => by
    show rmv T (rr T N n t) n n (32 + k) = rr T N n t k
    unfold rmv
    rw [if_neg (by omega), if_pos (by omega), show 32 + k - 32 = k by omega]
theorem rdS_iff {T N : Nat → Int} {n s t : Nat} (hn : n ≤ 32) : rdS T N n s t ↔ (∀ k, k < n → Mp T N n s k = Mp T N n t k) ∧ ∀ k, k < n → Mp T N n (s + 1) k = Mp T N n (t + 1) k := by
  unfold rdS
  constructor
  · intro h
    exact ⟨fun k hk => by rw [← rr_was hn s k hk, ← rr_was hn t k hk]; exact h _ (by omega), fun k hk => h k (by omega)⟩
  · rintro ⟨a, b⟩ j hj
    rcases Nat.lt_or_ge j 32 with q | q
    · rcases Nat.lt_or_ge j n with p | p
      · exact b j p
      · rw [(rr_out hn s j p q).1, (rr_out hn t j p q).1]
    · obtain ⟨k, rfl⟩ : ∃ k, j = 32 + k := ⟨j - 32, by omega⟩
      rcases Nat.lt_or_ge k n with p | p
      · rw [rr_was hn s k p, rr_was hn t k p]; exact a k p
      · rw [(rr_out hn s k p (by omega)).2, (rr_out hn t k p (by omega)).2]
def plc (G : Nat → Nat → Int) (T N : Nat → Int) (n t : Nat) : Prop := ∀ p, p ≤ t + 1 → G 212 p = pkL (Mp T N n p) n ∧ G 213 p = pkH (Mp T N n p) n
theorem sm_rd {G : Nat → Nat → Int} {T N : Nat → Int} {n t s : Nat} (hn : n ≤ 32) (hT : ∀ c, c < 648 → 0 ≤ T c ∧ T c ≤ 7) (hB : ∀ j, j < 64 → 0 ≤ N j ∧ N j ≤ 7) (h : plc G T N n t) (hs : s ≤ t) : smP G s t ↔ rdS T N n s t := by
  rw [rdS_iff hn, ← pk_iff9 hn (Mp_bd hn hT hB s) (Mp_bd hn hT hB t), ← pk_iff9 hn (Mp_bd hn hT hB (s + 1)) (Mp_bd hn hT hB (t + 1))]
  unfold smP
  rw [(h s (by omega)).1, (h s (by omega)).2, (h t (by omega)).1, (h t (by omega)).2, (h (s + 1) (by omega)).1, (h (s + 1) (by omega)).2, (h (t + 1) (by omega)).1, (h (t + 1) (by omega)).2]
theorem rmv_163 {T M : Nat → Int} {n : Nat} {a : Int} (hn : n ≤ 32) (hB : ∀ j, j < 64 → 0 ≤ M j ∧ M j ≤ 7) {j : Nat} (hj : j ≠ 163) : rmv T (qup M 163 a) n n j = rmv T M n n j := by
  unfold rmv
  by_cases c : j < n
  · rw [if_pos c, if_pos c]
    exact rnx_cg2 hn c (fun q hq => qup_ne (by omega)) hB (fun _ _ => rfl)
  · rw [if_neg c, if_neg c]
    by_cases d : 32 ≤ j ∧ j < 32 + n
    · rw [if_pos d, if_pos d, qup_ne (by omega)]
    · rw [if_neg d, if_neg d, qup_ne hj]
theorem rdS_tr {T N : Nat → Int} {n a b c : Nat} (h1 : rdS T N n a c) (h2 : rdS T N n b c) : rdS T N n a b := fun j hj => (h1 j hj).trans (h2 j hj).symm
theorem wOk_rr {T N : Nat → Int} {n t : Nat} {a : Int} (hO : wOk N) (hn : n ≤ 32) (hT : ∀ c, c < 648 → 0 ≤ T c ∧ T c ≤ 7) (ha : 0 ≤ a ∧ a ≤ 1000000) : wOk (qup (rr T N n t) 163 a) := by
  refine ⟨fun j hj => ?_, by rw [qup_eq]; exact ha⟩
  rw [qup_ne (by omega)]
  rcases Nat.lt_or_ge j 64 with q | q
  · rw [rw_lo (by omega), rw_h7 q]
    exact rr_bd hn hT (fun k hk => wOk_m hO hk) t j q
  · rw [rr_hi hn q]; exact hO.1 j hj
theorem pkL_cg {M M' : Nat → Int} {n : Nat} (h : ∀ k, k < n → M k = M' k) (hn : n ≤ 32) : pkL M n = pkL M' n := pk4_cg _ (fun j hj => h _ (by omega))
theorem pkH_cg {M M' : Nat → Int} {n : Nat} (h : ∀ k, k < n → M k = M' k) (hn : n ≤ 32) : pkH M n = pkH M' n := pk4_cg _ (fun j hj => h _ (by omega))
theorem chO_mv {G G' : Nat → Nat → Int} {t : Nat} (h : chO G t) (e1 : ∀ p, p ≤ t → G' 212 p = G 212 p) (e2 : ∀ p, p ≤ t → G' 213 p = G 213 p) (e3 : G' 214 = G 214) (e4 : G' 215 = G 215) : chO G' t := by
  have e : ∀ s, s < t → bkT9 G' s = bkT9 G s := fun s hs => by
    unfold bkT9
    rw [e1 s (by omega), e1 (s + 1) (by omega), e2 s (by omega), e2 (s + 1) (by omega)]
  refine ⟨fun b hb => ?_, fun s hs => ?_⟩
  · rw [e3, h.1 b hb]
    exact las_cg t (fun k hk => by rw [e k hk])
  · rw [e4, h.2 s hs]
    exact las_cg s (fun k hk => by rw [e k (by omega), e s hs])
set_option maxRecDepth 20000 in
set_option maxHeartbeats 4000000 in
theorem c_follow {h : qH} {F G : Nat → Nat → Int} {n : Nat} {T N : Nat → Int} (hW : wlR F G 56 N) (hO : rwOk N) (hN : N 160 = (n : Int)) (hT : ∀ c, c < 648 → G 6 c = T c) (hB : ∀ c, c < 648 → 0 ≤ T c ∧ T c ≤ 7) : ∃ F' G', (xfr 206 215 F G F' G' ∧ F' 206 5 = rdR T N n 0 ∧ F' 206 6 = rdR T N n 1) ∧ qEx M_X5_follow 0 [qR 206, qR 56, qR 4, qU, qU] [] (xput h F G) none (xput h F' G') := by
  refine x_in (fun Q hQ => ?_)
  have hO1 := wOk_of hO
  have hn : n ≤ 32 := by have := wOk_n hO1; omega
  have h163 := rw_at (a := 0) (b := 319968) hO (j := 163) (by decide) rfl rfl
  have h01 : N 161 = 0 ∨ N 161 = 1 := by have := rw_at (a := 0) (b := 1) hO (j := 161) (by decide) rfl rfl; omega
  refine qy (fun _ _ k9 => z_aload_n d_X5_follow_0 rfl rfl k9) ?_
  refine qy (fun _ _ k9 => z_iconst d_X5_follow_1 (by decide) k9) ?_
  refine qy (fun _ _ k9 => z_putf (fs' := [qR 207, qR 212, qR 213, qR 214, qR 215, qI (-1), qI ((F 206) 6)]) d_X5_follow_2 fp_X5_32 (xput_ob (c := (F 206)) xi_206 rfl (xsh_5 xo_206)) (fun _ => rfl) (fun _ => rfl) (Nat.le_of_ble_eq_true rfl) rfl k9) ?_
  refine qy (fun _ _ k9 => z_eq rfl rfl (xput_sf (c := (qup (F 206) 5 (-1))) xi_206 (xsh_5 xo_206)) k9) ?_
  refine qy (fun _ _ k9 => z_aload_n d_X5_follow_5 rfl rfl k9) ?_
  refine qy (fun _ _ k9 => z_iconst d_X5_follow_6 (by decide) k9) ?_
  refine qy (fun _ _ k9 => z_putf (fs' := [qR 207, qR 212, qR 213, qR 214, qR 215, qI (-1), qI (-1)]) d_X5_follow_7 fp_X5_36 (xput_ob (c := (qup (F 206) 5 (-1))) xi_206 rfl (xsh_5 xo_206)) (fun _ => rfl) (fun _ => rfl) (Nat.le_of_ble_eq_true rfl) rfl k9) ?_
  refine qy (fun _ _ k9 => z_eq rfl rfl ((xput_sf (c := (qup (qup (F 206) 5 (-1)) 6 (-1))) xi_206 (xsh_5 xo_206)).trans (xput_cg (gup_gup _ _ _) rfl)) k9) ?_
  refine qy (fun _ _ k9 => z_aload_n d_X5_follow_10 rfl rfl k9) ?_
  refine qy (fun _ _ k9 => z_getf (v := qR 214) d_X5_follow_11 fl_X5_25 (xput_ob (c := (qup (qup (F 206) 5 (-1)) 6 (-1))) xi_206 rfl (xsh_5 xo_206)) rfl k9) ?_
  refine qy (fun _ _ k9 => z_iconst d_X5_follow_14 (by decide) k9) ?_
  refine qy (fun _ _ k9 => z_cs0 (M1 := M_J7_fill_53178) d_X5_follow_15 ls_X5_39 k_J7_fill_53178 [qR 214, qI (-1)] rfl rfl (Nat.le_of_ble_eq_true rfl) (by decide) (by decide) (Nat.le_of_ble_eq_true rfl) (c_fill (xput_ar (g := (G 214)) xa_214 rfl) (by decide) (by decide)) k9) ?_
  refine qy (fun _ _ k9 => z_eq rfl rfl (xput_sa xa_214) k9) ?_
  refine qy (fun _ _ k9 => z_aload_n d_X5_follow_18 rfl rfl k9) ?_
  refine qy (fun _ _ k9 => z_getf (v := qR 207) d_X5_follow_19 fl_X5_12 (xput_ob (c := (qup (qup (F 206) 5 (-1)) 6 (-1))) xi_206 rfl (xsh_5 xo_206)) rfl k9) ?_
  refine qy (fun _ _ k9 => z_aload_n d_X5_follow_22 rfl rfl k9) ?_
  obtain ⟨F1, G1, ⟨hv1, hw1⟩, hx1⟩ := c_wlCopy (h := h) (F := (gup F 206 (qup (qup (F 206) 5 (-1)) 6 (-1)))) (G := (gup G 214 (qmx 1024 (fun _ => (-1)) (G 214)))) (wl := 207) (vl := 56) (N := N) (by decide) xo_207 (by decide) xo_56 (by decide) h01 (wlR_cg hW rfl rfl rfl rfl)
  refine qy (fun _ _ k9 => z_cv0 (M1 := M_X10_copyFrom) d_X5_follow_23 lv_X5_45 k_X10_copyFrom [qR 56] rfl rfl (xput_ob (c := (F 207)) xi_207 rfl (xsh_10 xo_207)) ⟨_, _, rfl⟩ (Nat.le_of_ble_eq_true rfl) (by decide) (by decide) (Nat.le_of_ble_eq_true rfl) hx1 k9) ?_
  have hN7 : F1 207 0 = (n : Int) := hw1.1.1.trans hN
  have hM8 : ∀ k, k < 32 → 0 ≤ G1 208 k ∧ G1 208 k ≤ 7 := fun k hk => by rw [(hw1.2.1 k hk).1]; exact wOk_m hO1 (by omega)
  have hM9 : ∀ k, k < 32 → 0 ≤ G1 209 k ∧ G1 209 k ≤ 7 := fun k hk => by rw [(hw1.2.1 k hk).2.1]; exact wOk_m hO1 (by omega)
  refine qy (fun _ _ k9 => z_aload_n d_X5_follow_26 rfl rfl k9) ?_
  refine qy (fun _ _ k9 => z_iconst d_X5_follow_27 (by decide) k9) ?_
  refine qy (fun _ _ k9 => z_aload_n d_X5_follow_28 rfl rfl k9) ?_
  refine qy (fun _ _ k9 => z_getf (v := qR 207) d_X5_follow_29 fl_X5_12 (xput_ob (c := (F1 206)) xi_206 rfl (xsh_5 xo_206)) rfl k9) ?_
  refine qy (fun _ _ k9 => z_getf (v := qR 209) d_X5_follow_32 fl_X5_49 (xput_ob (c := (F1 207)) xi_207 rfl (xsh_10 xo_207)) rfl k9) ?_
  refine qy (fun _ _ k9 => z_cv0 (M1 := M_X5_write) d_X5_follow_35 lv_X5_52 k_X5_write [qI 0, qR 209] rfl rfl (xput_ob (c := (F1 206)) xi_206 rfl (xsh_5 xo_206)) ⟨_, _, rfl⟩ (Nat.le_of_ble_eq_true rfl) (by decide) (by decide) (Nat.le_of_ble_eq_true rfl) (c_write (h := h) (F := F1) (G := G1) (a := 209) (n := n) 0 xa_209 hn hN7 (by omega) hM9) k9) ?_
  refine qy (fun _ _ k9 => z_aload_n d_X5_follow_38 rfl rfl k9) ?_
  refine qy (fun _ _ k9 => z_iconst d_X5_follow_39 (by decide) k9) ?_
  refine qy (fun _ _ k9 => z_aload_n d_X5_follow_40 rfl rfl k9) ?_
  refine qy (fun _ _ k9 => z_getf (v := qR 207) d_X5_follow_41 fl_X5_12 (xput_ob (c := (F1 206)) xi_206 rfl (xsh_5 xo_206)) rfl k9) ?_
  refine qy (fun _ _ k9 => z_getf (v := qR 208) d_X5_follow_44 fl_X5_56 (xput_ob (c := (F1 207)) xi_207 rfl (xsh_10 xo_207)) rfl k9) ?_
  refine qy (fun _ _ k9 => z_cv0 (M1 := M_X5_write) d_X5_follow_47 lv_X5_52 k_X5_write [qI 1, qR 208] rfl rfl (xput_ob (c := (F1 206)) xi_206 rfl (xsh_5 xo_206)) ⟨_, _, rfl⟩ (Nat.le_of_ble_eq_true rfl) (by decide) (by decide) (Nat.le_of_ble_eq_true rfl) (c_write (h := h) (F := F1) (G := (gup (gup G1 212 (qup (G1 212) 0 (pkL (G1 209) n))) 213 (qup (G1 213) 0 (pkH (G1 209) n)))) (a := 208) (n := n) 1 xa_208 hn hN7 (by omega) hM8) k9) ?_
  refine qy (fun _ _ k9 => z_eq rfl rfl (xput_cg rfl ((congrArg (fun z => gup z 213 (qup (qup (G1 213) 0 (pkH (G1 209) n)) 1 (pkH (G1 208) n))) ((gup_comm (by omega)).trans (congrArg (fun z => gup z 213 (qup (G1 213) 0 (pkH (G1 209) n))) (gup_gup _ _ _)))).trans (gup_gup _ _ _))) k9) ?_
  refine qy (fun _ _ k9 => z_iconst d_X5_follow_50 (by decide) k9) ?_
  refine qy (fun _ _ k9 => z_istore_n (ls' := [qR 206, qR 56, qR 4, qI 0, qU]) d_X5_follow_51 rfl (by decide) rfl k9) ?_
  refine qy (fun _ _ k9 => z_eq (qc rfl (qc rfl (qc rfl (qc (qi (rfl)) (qc rfl rfl))))) rfl rfl k9) (y_wh4 (fun (t : Nat) (a : Int) (Fa : Nat → Nat → Int) (Ga : Nat → Nat → Int) => 2001 - t) (fun (t : Nat) (a : Int) (Fa : Nat → Nat → Int) (Ga : Nat → Nat → Int) => [qR 206, qR 56, qR 4, qI (t : Int), qU]) (fun (t : Nat) (a : Int) (Fa : Nat → Nat → Int) (Ga : Nat → Nat → Int) => (xput h Fa Ga)) (fun (t : Nat) (a : Int) (Fa : Nat → Nat → Int) (Ga : Nat → Nat → Int) => t ≤ 2001 ∧ xfr 206 215 F G Fa Ga ∧ (Fa 206 5 = -1 ∧ Fa 206 6 = -1) ∧ (∀ q, q < t → ¬ ∃ s, s < q ∧ rdS T N n s q) ∧ (t ≤ 2000 → wlR Fa Ga 207 (qup (rr T N n t) 163 a) ∧ (0 ≤ a ∧ a ≤ N 163 + 32 * t) ∧ plc Ga T N n t ∧ chO Ga t)) 0 (N 163) F1 (gup (gup G1 212 (qup (qup (G1 212) 0 (pkL (G1 209) n)) 1 (pkL (G1 208) n))) 213 (qup (qup (G1 213) 0 (pkH (G1 209) n)) 1 (pkH (G1 208) n))) (⟨by omega, (by have hz := xfr_wd (lo' := 206) (hi' := 215) hv1 (by decide) (by decide); exact xfr_g (xfr_g (xfr_tr (xfr_g (xfr_f (xfr_rf _ _ _ _) (by decide) (by decide)) (by decide) (by decide)) hz) (by decide) (by decide)) (by decide) (by decide)), ⟨by rw [xfr_F hv1 (by decide)]; rfl, by rw [xfr_F hv1 (by decide)]; rfl⟩, fun q hq => absurd hq (by omega), fun _ => ⟨(by rw [show qup (rr T N n 0) 163 (N 163) = N from qup_self rfl]; exact wlR_cg hw1 rfl rfl rfl rfl), by omega, fun p hp => (by rcases Nat.eq_zero_or_pos p with z | z; subst z; exact ⟨pkL_cg (fun k hk => (hw1.2.1 k (by omega)).2.1) hn, pkH_cg (fun k hk => (hw1.2.1 k (by omega)).2.1) hn⟩; rw [show p = 1 by omega]; exact ⟨pkL_cg (fun k hk => (hw1.2.1 k (by omega)).1) hn, pkH_cg (fun k hk => (hw1.2.1 k (by omega)).1) hn⟩), ⟨fun b hb => (by rw [gup_ne (by decide), gup_ne (by decide), xfr_G hv1 (by decide), gup_eq, qmx_lt hb]; rfl), fun s hs => absurd hs (by omega)⟩⟩⟩) (fun t a Fa Ga hp kk => ?_))
  obtain ⟨ht, hfr, hf5, hrep, hst⟩ := hp
  show qEy M_X5_follow 52 [qR 206, qR 56, qR 4, qI (t : Int), qU] [] (xput h Fa Ga) Q
  refine qy (fun _ _ k9 => z_iload_n d_X5_follow_52 rfl rfl k9) ?_
  refine qy (fun _ _ k9 => z_sipush d_X5_follow_53 (by decide) k9) ?_
  refine qy2 (fun _ _ => z_icmp_gt 121 d_X5_follow_56 (by decide)) (fun hc1 => ?_) (fun hc1 => ?_)
  · exact y_ret (hQ Fa Ga (⟨hfr, hf5.1.trans (rdR_no 0 (fun k hk z => hrep (k + 1) (by omega) z)).symm, hf5.2.trans (rdR_no 1 (fun k hk z => hrep (k + 1) (by omega) z)).symm⟩)) (z_vret d_X5_follow_121 rfl rfl rfl)
  · have hst1 := hst (by omega)
    refine qy (fun _ _ k9 => z_aload_n d_X5_follow_59 rfl rfl k9) ?_
    refine qy (fun _ _ k9 => z_iload_n d_X5_follow_60 rfl rfl k9) ?_
    obtain ⟨F2, G2, ⟨he2, hv2, hw2⟩, hx2⟩ := c_findSame (h := h) (F := Fa) (G := Ga) (t := t) (by omega) (hst (by omega)).2.2.2
    refine qy (fun _ _ k9 => z_cv (M1 := M_X5_findSame) d_X5_follow_61 lv_X5_59 k_X5_findSame [qI (t : Int)] rfl rfl (xput_ob (c := (Fa 206)) xi_206 rfl (xsh_5 xo_206)) ⟨_, _, rfl⟩ (Nat.le_of_ble_eq_true rfl) (by decide) (by decide) (Nat.le_of_ble_eq_true rfl) hx2 k9) ?_
    refine qy (fun _ _ k9 => z_istore (ls' := [qR 206, qR 56, qR 4, qI (t : Int), qI (las (fun s => smP Ga s t) t)]) d_X5_follow_64 (by decide) rfl k9) ?_
    refine qy (fun _ _ k9 => z_iload d_X5_follow_66 rfl k9) ?_
    refine qy (fun _ _ k9 => z_iconst d_X5_follow_68 (by decide) k9) ?_
    refine qy2 (fun _ _ => z_icmp_eq 86 d_X5_follow_69 (by decide)) (fun q69 => ?_) (fun q69 => ?_)
    · have hnone : las (fun s => smP Ga s t) t = -1 := q69
      refine qy (fun _ _ k9 => z_iload_n d_X5_follow_86 rfl rfl k9) ?_
      refine qy (fun _ _ k9 => z_sipush d_X5_follow_87 (by decide) k9) ?_
      refine qy2 (fun _ _ => z_icmp_ge 115 d_X5_follow_90 (by decide)) (fun hc2 => ?_) (fun hc2 => ?_)
      · refine qy (fun _ _ k9 => z_iinc (ls' := [qR 206, qR 56, qR 4, qI ((t : Int) + 1), qI (las (fun s => smP Ga s t) t)]) d_X5_follow_115 rfl (by decide) (by omega) rfl k9) ?_
        refine qy (fun _ _ k9 => z_goto 52 d_X5_follow_118 (by decide) k9) ?_
        exact qy (fun _ _ k9 => z_dr (qle_k rfl (qle_k rfl (qle_k rfl (qle_k (qi (by omega)) (qle_d qle_n))))) rfl rfl k9) (kk (t + 1) a F2 G2 (⟨by omega, xfr_tr hfr (fun b hb => ⟨by rw [he2], hv2 b (by omega) (by omega)⟩), by rw [he2]; exact hf5, q_lts hrep (fun ⟨s, h1, h2⟩ => by rcases las_cases (fun s => smP Ga s t) t with ⟨_, z⟩ | ⟨e, h3, h4, _⟩; exact z s h1 ((sm_rd hn hB (fun k hk => wOk_m hO1 hk) hst1.2.2.1 (by omega)).mpr h2); rw [h4] at q69; omega), fun z => absurd z (by omega)⟩) (by omega))
      · refine qy (fun _ _ k9 => z_aload_n d_X5_follow_93 rfl rfl k9) ?_
        refine qy (fun _ _ k9 => z_getf (v := qR 207) d_X5_follow_94 fl_X5_12 (xput_ob (c := (F2 206)) xi_206 rfl (xsh_5 xo_206)) rfl k9) ?_
        refine qy (fun _ _ k9 => z_aload_n d_X5_follow_97 rfl rfl k9) ?_
        obtain ⟨F3, G3, ⟨hv3, hw3⟩, hx3⟩ := c_wlGo (h := h) (F := F2) (G := G2) (wl := 207) (b := 4) (n := n) (N := qup (rr T N n t) 163 a) (T := T) (D := G 7) (by decide) xo_207 (by decide) xo_4 (by decide) (fun c hc => by rw [hv2 6 (by decide) (by decide), xfr_G hfr (by decide)]; exact hT c hc) (fun c _ => by rw [hv2 7 (by decide) (by decide), xfr_G hfr (by decide)]) (wlR_cg hst1.1 (by rw [he2]) (hv2 _ (by decide) (by decide)) (hv2 _ (by decide) (by decide)) (hv2 _ (by decide) (by decide))) (wOk_rr hO1 hn hB (by omega)) (by rw [qup_ne (by decide), rr_hi hn (by decide)]; exact hN) (by rw [qup_eq]; omega)
        refine qy (fun _ _ k9 => z_cv0 (M1 := M_X10_goOn) d_X5_follow_98 lv_X5_63 k_X10_goOn [qR 4] rfl rfl (xput_ob (c := (F2 207)) xi_207 rfl (xsh_10 xo_207)) ⟨_, _, rfl⟩ (Nat.le_of_ble_eq_true rfl) (by decide) (by decide) (Nat.le_of_ble_eq_true rfl) hx3 k9) ?_
        have hrow : wlR F3 G3 207 (qup (rr T N n (t + 1)) 163 (a + cnt (rdc (G 7) (qup (rr T N n t) 163 a) n) n)) := wlR_N hw3 (fun j hj => by rw [qup_eq]; by_cases z : j = 163; rw [z, qup_eq, qup_eq]; rw [qup_ne z, qup_ne z]; exact rmv_163 hn (rr_bd hn hB (fun k hk => wOk_m hO1 hk) t) z)
        have hcn := cnt_bd (rdc (G 7) (qup (rr T N n t) 163 a) n) n
        have hN7b : F3 207 0 = (n : Int) := hrow.1.1.trans (by rw [qup_ne (by decide), rr_hi hn (by decide)]; exact hN)
        have hM8b : ∀ k, k < 32 → 0 ≤ G3 208 k ∧ G3 208 k ≤ 7 := fun k hk => by rw [(hrow.2.1 k hk).1, qup_ne (by omega)]; exact rr_bd hn hB (fun k hk => wOk_m hO1 hk) (t + 1) k (by omega)
        refine qy (fun _ _ k9 => z_aload_n d_X5_follow_101 rfl rfl k9) ?_
        refine qy (fun _ _ k9 => z_iload_n d_X5_follow_102 rfl rfl k9) ?_
        refine qy (fun _ _ k9 => z_iconst d_X5_follow_103 (by decide) k9) ?_
        refine qy (fun _ _ k9 => z_iadd d_X5_follow_104 (by omega) k9) ?_
        refine qy (fun _ _ k9 => z_aload_n d_X5_follow_105 rfl rfl k9) ?_
        refine qy (fun _ _ k9 => z_getf (v := qR 207) d_X5_follow_106 fl_X5_12 (xput_ob (c := (F3 206)) xi_206 rfl (xsh_5 xo_206)) rfl k9) ?_
        refine qy (fun _ _ k9 => z_getf (v := qR 208) d_X5_follow_109 fl_X5_56 (xput_ob (c := (F3 207)) xi_207 rfl (xsh_10 xo_207)) rfl k9) ?_
        refine qy (fun _ _ k9 => z_cv0 (M1 := M_X5_write) d_X5_follow_112 lv_X5_52 k_X5_write [qI ((t : Int) + 2), qR 208] rfl rfl (xput_ob (c := (F3 206)) xi_206 rfl (xsh_5 xo_206)) ⟨_, _, rfl⟩ (Nat.le_of_ble_eq_true rfl) (by decide) (by decide) (Nat.le_of_ble_eq_true rfl) (c_write (h := h) (F := F3) (G := G3) (a := 208) (n := n) (t + 2) xa_208 hn hN7b (by omega) hM8b) k9) ?_
        refine qy (fun _ _ k9 => z_iinc (ls' := [qR 206, qR 56, qR 4, qI ((t : Int) + 1), qI (las (fun s => smP Ga s t) t)]) d_X5_follow_115 rfl (by decide) (by omega) rfl k9) ?_
        refine qy (fun _ _ k9 => z_goto 52 d_X5_follow_118 (by decide) k9) ?_
        exact qy (fun _ _ k9 => z_dr (qle_k rfl (qle_k rfl (qle_k rfl (qle_k (qi (by omega)) (qle_d qle_n))))) rfl rfl k9) (kk (t + 1) (a + cnt (rdc (G 7) (qup (rr T N n t) 163 a) n) n) F3 (gup (gup G3 212 (qup (G3 212) (t + 2) (pkL (G3 208) n))) 213 (qup (G3 213) (t + 2) (pkH (G3 208) n))) (⟨by omega, xfr_g (xfr_g (xfr_tr hfr (xfr_tr (fun b hb => ⟨by rw [he2], hv2 b (by omega) (by omega)⟩) (xfr_wd hv3 (by decide) (by decide)))) (by decide) (by decide)) (by decide) (by decide), by rw [xfr_F hv3 (by decide), he2]; exact hf5, q_lts hrep (fun ⟨s, h1, h2⟩ => by rcases las_cases (fun s => smP Ga s t) t with ⟨_, z⟩ | ⟨e, h3, h4, _⟩; exact z s h1 ((sm_rd hn hB (fun k hk => wOk_m hO1 hk) hst1.2.2.1 (by omega)).mpr h2); rw [h4] at q69; omega), fun _ => ⟨wlR_cg hrow rfl rfl rfl rfl, by omega, (fun p hp => by by_cases z : p = t + 2; rw [z, gup_eq, gup_ne (by decide), gup_eq, qup_eq, qup_eq]; exact ⟨pkL_cg (fun k hk => by rw [(hrow.2.1 k (by omega)).1, qup_ne (by omega)]; rfl) hn, pkH_cg (fun k hk => by rw [(hrow.2.1 k (by omega)).1, qup_ne (by omega)]; rfl) hn⟩; rw [gup_eq, gup_ne (by decide), gup_eq, qup_ne z, qup_ne z, xfr_G hv3 (by decide), xfr_G hv3 (by decide), hv2 212 (by decide) (by decide), hv2 213 (by decide) (by decide)]; exact hst1.2.2.1 p (by omega)), (chO_mv (G := G2) (t := t + 1) (hw2 hnone) (fun p hp => by rw [gup_ne (by decide), gup_eq, qup_ne (by omega), xfr_G hv3 (by decide)]) (fun p hp => by rw [gup_eq, qup_ne (by omega), xfr_G hv3 (by decide)]) (by rw [gup_ne (by decide), gup_ne (by decide), xfr_G hv3 (by decide)]) (by rw [gup_ne (by decide), gup_ne (by decide), xfr_G hv3 (by decide)]))⟩⟩) (by omega))
    · obtain ⟨e, het, he9, hse, -⟩ : ∃ e, e < t ∧ las (fun s => smP Ga s t) t = (e : Int) ∧ smP Ga e t ∧ True := by
        rcases las_cases (fun s => smP Ga s t) t with ⟨z, _⟩ | ⟨e, h1, h2, h3, _⟩
        · exact absurd z q69
        · exact ⟨e, h1, h2, h3, trivial⟩
      have hre : rdS T N n e t := (sm_rd hn hB (fun k hk => wOk_m hO1 hk) hst1.2.2.1 (by omega)).mp hse
      obtain ⟨i, hti⟩ : ∃ i, t = i + 1 := ⟨t - 1, by omega⟩
      have hre2 : rdS T N n e (i + 1) := hti ▸ hre
      have hR : ∀ what : Int, rdR T N n what = qif (what ≠ 0) ((t : Int) - (e : Int)) (t : Int) := fun what => by rw [rdR_at (i := i) (s := e) what (by omega) (fun k hk z => hrep (k + 1) (by omega) z) (by omega) (fun k hk z => hrep e het ⟨k, hk, rdS_tr z hre2⟩) hre2, show (t : Int) = (i : Int) + 1 by omega]
      refine qy (fun _ _ k9 => z_eq (qc rfl (qc rfl (qc rfl (qc rfl (qc (qi (show (las (fun s => smP Ga s t) t) = (e : Int) from he9)) rfl))))) rfl rfl k9) ?_
      refine qy (fun _ _ k9 => z_aload_n d_X5_follow_72 rfl rfl k9) ?_
      refine qy (fun _ _ k9 => z_iload_n d_X5_follow_73 rfl rfl k9) ?_
      refine qy (fun _ _ k9 => z_putf (fs' := [qR 207, qR 212, qR 213, qR 214, qR 215, qI (t : Int), qI ((F2 206) 6)]) d_X5_follow_74 fp_X5_32 (xput_ob (c := (F2 206)) xi_206 rfl (xsh_5 xo_206)) (fun _ => rfl) (fun _ => rfl) (Nat.le_of_ble_eq_true rfl) rfl k9) ?_
      refine qy (fun _ _ k9 => z_eq rfl rfl (xput_sf (c := (qup (F2 206) 5 (t : Int))) xi_206 (xsh_5 xo_206)) k9) ?_
      refine qy (fun _ _ k9 => z_aload_n d_X5_follow_77 rfl rfl k9) ?_
      refine qy (fun _ _ k9 => z_iload_n d_X5_follow_78 rfl rfl k9) ?_
      refine qy (fun _ _ k9 => z_iload d_X5_follow_79 rfl k9) ?_
      refine qy (fun _ _ k9 => z_isub d_X5_follow_81 (by omega) k9) ?_
      refine qy (fun _ _ k9 => z_putf (fs' := [qR 207, qR 212, qR 213, qR 214, qR 215, qI (t : Int), qI ((t : Int) - (e : Int))]) d_X5_follow_82 fp_X5_36 (xput_ob (c := (qup (F2 206) 5 (t : Int))) xi_206 rfl (xsh_5 xo_206)) (fun _ => rfl) (fun _ => rfl) (Nat.le_of_ble_eq_true rfl) rfl k9) ?_
      refine qy (fun _ _ k9 => z_eq rfl rfl ((xput_sf (c := (qup (qup (F2 206) 5 (t : Int)) 6 ((t : Int) - (e : Int)))) xi_206 (xsh_5 xo_206)).trans (xput_cg (gup_gup _ _ _) rfl)) k9) ?_
      exact y_ret (hQ (gup F2 206 (qup (qup (F2 206) 5 (t : Int)) 6 ((t : Int) - (e : Int)))) G2 (⟨(xfr_f (xfr_tr hfr (fun b hb => ⟨by rw [he2], hv2 b (by omega) (by omega)⟩)) (by decide) (by decide)), (by rw [gup_eq, hR 0]; exact (qif_f (fun z => z rfl)).symm), (by rw [gup_eq, hR 1]; exact (qif_t (by decide)).symm)⟩)) (z_vret d_X5_follow_85 rfl rfl rfl)
