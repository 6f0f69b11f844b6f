/-! ===== CONTRACTS: the reader: readRule (whole), readPage ===== -/
set_option maxRecDepth 20000 in
set_option maxHeartbeats 4000000 in
theorem c_rrBad {h : qH} {F G : Nat → Nat → Int} {B : Nat → Int} {N : Nat} (s : pS) (hP : rdP F G B N s.1) (ha : s.1 ≤ N) (hsk : sk B N s.1 = s.1) (hs : s.2.1 = 0) (hN : N ≤ 400) (hL : F 165 4 = 24) (hcb : ¬ ((6 ≤ kd B N s.1 ∧ kd B N s.1 ≤ 8) ∨ (kd B N s.1 = 2 ∧ vl B N s.1 ≤ 7))) (hbad : (seS B N s).2.1 ≠ 0) : ∃ F' G', ((∀ a, a ≠ 160 → (a < 165 ∨ 169 < a) → F' a = F a) ∧ (∀ k, k < 5 ∨ 8 < k → F' 160 k = F 160 k) ∧ (∀ a, (a < 165 ∨ 169 < a) → G' a = G a) ∧ rdE F' (seS B N s).2.1 (seS B N s).2.2) ∧ qEx M_X4_readRule 0 [qR 160, qU, qU, qU, qU] [] (xput h F G) (some (qI 0)) (xput h F' G') := by
  refine x_in (fun Q hQ => ?_)
  refine qy (fun _ _ k9 => z_aload_n d_X4_readRule_0 rfl rfl k9) ?_
  refine qy (fun _ _ k9 => z_getf (v := qR 165) d_X4_readRule_1 fl_X4_43 (xput_ob (c := (F 160)) xi_160 rfl (xsh_4 xo_160)) rfl k9) ?_
  refine qy (fun _ _ k9 => z_getf (v := qI ((F 165) 4)) d_X4_readRule_4 fl_X4_124 (xput_ob (c := (F 165)) xi_165 rfl (xsh_2 xo_165)) rfl k9) ?_
  refine qy (fun _ _ k9 => z_eq rfl (qc (qi hL) rfl) rfl k9) ?_
  refine qy (fun _ _ k9 => z_bipush d_X4_readRule_7 (by decide) k9) ?_
  refine qy2 (fun _ _ => z_icmp_lt 25 d_X4_readRule_9 (by decide)) (fun hc1 => absurd hc1 (by decide)) (fun hc1 => ?_)
  refine qy (fun _ _ k9 => z_aload_n d_X4_readRule_12 rfl rfl k9) ?_
  refine qy (fun _ _ k9 => z_cv (M1 := M_X4_canBeginRule) d_X4_readRule_13 lv_X4_127 k_X4_canBeginRule [] rfl rfl (xput_ob (c := (F 160)) xi_160 rfl (xsh_4 xo_160)) ⟨_, _, rfl⟩ (Nat.le_of_ble_eq_true rfl) (by decide) (by decide) (Nat.le_of_ble_eq_true rfl) (c_canBegin hP) k9) ?_
  refine qy2n (fun _ _ => z_ifeqB 25 d_X4_readRule_16 (by decide)) (fun hc2 => ?_) (fun hc2 => absurd hc2 (by exact hcb))
  refine qy (fun _ _ k9 => z_aload_n d_X4_readRule_25 rfl rfl k9) ?_
  obtain ⟨F1, ⟨hf1, hy1, hn1⟩, hx1⟩ := c_passPat (h := h) (F := F) (G := G) s (by rw [hsk]; exact hP) ha hs hN
  refine qy (fun _ _ k9 => z_cv (M1 := M_X4_passPattern) d_X4_readRule_26 lv_X4_130 k_X4_passPattern [] rfl rfl (xput_ob (c := (F 160)) xi_160 rfl (xsh_4 xo_160)) ⟨_, _, rfl⟩ (Nat.le_of_ble_eq_true rfl) (by decide) (by decide) (Nat.le_of_ble_eq_true rfl) hx1 k9) ?_
  refine qy (fun _ _ k9 => z_eq rfl (qc (qi (show (qif ((seS B N s).2.1 = 0) (seV B N s) (-1)) = (-1) from qif_f hbad)) rfl) rfl k9) ?_
  refine qy (fun _ _ k9 => z_istore_n (ls' := [qR 160, qI (-1), qU, qU, qU]) d_X4_readRule_29 rfl (by decide) rfl k9) ?_
  refine qy (fun _ _ k9 => z_iload_n d_X4_readRule_30 rfl rfl k9) ?_
  refine qy (fun _ _ k9 => z_iconst d_X4_readRule_31 (by decide) k9) ?_
  refine qy2 (fun _ _ => z_icmp_ne 39 d_X4_readRule_32 (by decide)) (fun hc3 => absurd hc3 (by decide)) (fun hc3 => ?_)
  refine qy (fun _ _ k9 => z_iconst d_X4_readRule_35 (by decide) k9) ?_
  refine qy (fun _ _ k9 => z_goto 43 d_X4_readRule_36 (by decide) k9) ?_
  refine qy (fun _ _ k9 => z_istore_n (ls' := [qR 160, qI (-1), qI (-1), qU, qU]) d_X4_readRule_43 rfl (by decide) rfl k9) ?_
  refine qy (fun _ _ k9 => z_iload_n d_X4_readRule_44 rfl rfl k9) ?_
  refine qy (fun _ _ k9 => z_iconst d_X4_readRule_45 (by decide) k9) ?_
  refine qy2 (fun _ _ => z_icmp_ne 53 d_X4_readRule_46 (by decide)) (fun hc4 => absurd hc4 (by decide)) (fun hc4 => ?_)
  refine qy (fun _ _ k9 => z_iconst d_X4_readRule_49 (by decide) k9) ?_
  refine qy (fun _ _ k9 => z_goto 57 d_X4_readRule_50 (by decide) k9) ?_
  refine qy (fun _ _ k9 => z_istore_n (ls' := [qR 160, qI (-1), qI (-1), qI (-1), qU]) d_X4_readRule_57 rfl (by decide) rfl k9) ?_
  refine qy (fun _ _ k9 => z_iload_n d_X4_readRule_58 rfl rfl k9) ?_
  refine qy (fun _ _ k9 => z_iconst d_X4_readRule_59 (by decide) k9) ?_
  refine qy2 (fun _ _ => z_icmp_eq 71 d_X4_readRule_60 (by decide)) (fun hc5 => ?_) (fun hc5 => absurd (by decide) hc5)
  refine qy (fun _ _ k9 => z_iconst d_X4_readRule_71 (by decide) k9) ?_
  exact y_ret (hQ F1 G (⟨fun a h1 _ => hf1.1 a h1, hf1.2, fun a _ => rfl, hn1 hbad⟩)) (z_zret d_X4_readRule_72 rfl (by first | exact qb_01 _ | decide | omega) rfl rfl)
theorem ck_cb {B : Nat → Int} {N p : Nat} (h : (6 ≤ kd B N p ∧ kd B N p ≤ 8) ∨ (kd B N p = 2 ∧ vl B N p ≤ 7)) : ckK B N 24 p = 3 := by
  unfold ckK
  rw [qif_t (by omega), qif_f (by omega), qif_t rfl]
theorem ck_nc {B : Nat → Int} {N p : Nat} (h : ¬ ((6 ≤ kd B N p ∧ kd B N p ≤ 8) ∨ (kd B N p = 2 ∧ vl B N p ≤ 7))) : ckK B N 24 p = 1 ∨ ckK B N 24 p = 2 := by
  unfold ckK
  by_cases z : kd B N p = 2
  · rw [qif_t (by omega), qif_t (by omega)]; exact Or.inr rfl
  · rw [qif_f (by omega)]; exact Or.inl rfl
theorem c_readRule {h : qH} {F G : Nat → Nat → Int} {B : Nat → Int} {N L : Nat} {R : Nat → Int} (s : pS) (hP : rdP F G B N s.1) (ha : s.1 ≤ N) (hsk : sk B N s.1 = s.1) (hs : s.2.1 = 0) (hN : N ≤ 400) (hR : pgR F G 165 R (L : Int)) (hZ : pgZ G 165 (L : Int)) : ∃ F' G', ((∀ a, a ≠ 160 → (a < 165 ∨ 169 < a) → F' a = F a) ∧ (∀ k, k < 5 ∨ 8 < k → F' 160 k = F 160 k) ∧ (∀ a, (a < 165 ∨ 169 < a) → G' a = G a) ∧ ((lpS B N L s).2.1 = 0 → L < 24 ∧ rdK F F' ∧ rdP F' G' B N (sk B N (lpS B N L s).1) ∧ pgR F' G' 165 (row4 R (4 * L) (lpV B N s 0) (lpV B N s 1) (lpV B N s 2) (lpV B N s 3)) ((L : Int) + 1) ∧ pgZ G' 165 ((L : Int) + 1)) ∧ ((lpS B N L s).2.1 ≠ 0 → rdE F' (lpS B N L s).2.1 (lpS B N L s).2.2)) ∧ qEx M_X4_readRule 0 [qR 160, qU, qU, qU, qU] [] (xput h F G) (some (qI (qb ((lpS B N L s).2.1 = 0)))) (xput h F' G') := by
  have hL24 := hR.2.2.1
  by_cases hL2 : L < 24
  · obtain ⟨F1, G1, ⟨h1, h2, h3, h4, h5⟩, hx⟩ := c_rrChain (h := h) s hP ha hsk hs hN hR hZ hL2
    obtain ⟨e1, e2⟩ := lp_ln (B := B) ha hsk hs hL2
    refine ⟨F1, G1, ⟨h1, h2, h3, fun z => ?_, fun z => ?_⟩, ?_⟩
    · have z2 : (lnS B N s).2.1 = 0 := by rw [← e1]; exact z
      obtain ⟨a1, a2, a3, a4⟩ := h4 z2
      rw [e2 z]
      exact ⟨hL2, a1, a2, a3, a4⟩
    · rw [e1] at z ⊢
      exact h5 z
    · rw [e1]; exact hx
  · have hL3 : L = 24 := by omega
    subst hL3
    by_cases hcb : (6 ≤ kd B N s.1 ∧ kd B N s.1 ≤ 8) ∨ (kd B N s.1 = 2 ∧ vl B N s.1 ≤ 7)
    · obtain ⟨F1, G1, ⟨h1, h2, h3, h4⟩, hx⟩ := c_rrFull (h := h) s hP ha hsk hs hN hR.1 hcb
      have e : lpS B N 24 s = (s.1, 3, (s.1 : Int)) := by
        unfold lpS
        rw [ck_cb hcb, qif_t (by decide)]
      refine ⟨F1, G1, ⟨h1, h2, h3, fun z => ?_, fun z => ?_⟩, ?_⟩
      · rw [e] at z; cases z
      · rw [e]; exact h4
      · rw [e, qb_f (show ¬ ((3 : Int) = 0) by decide)]; exact hx
    · have hk := ck_nc hcb
      have e9 := se_bad ha hsk hs hk
      have e : (lpS B N 24 s).2 = (seS B N s).2 := by
        unfold lpS
        rw [qif_t (by omega), e9]
      have hbad : (seS B N s).2.1 ≠ 0 := by rw [e9]; show ckK B N 24 s.1 ≠ 0; omega
      obtain ⟨F1, G1, ⟨h1, h2, h3, h4⟩, hx⟩ := c_rrBad (h := h) s hP ha hsk hs hN hR.1 hcb hbad
      refine ⟨F1, G1, ⟨h1, h2, h3, fun z => ?_, fun z => ?_⟩, ?_⟩
      · rw [e] at z; exact absurd z hbad
      · rw [e]; exact h4
      · rw [e, qb_f hbad]; exact hx
section FaultWords
variable {B : Nat → Int} {N : Nat} {s : pS}
/-- without a fault the fault's place is -1 -/
def fOk (s : pS) : Prop := s.2.1 = 0 → s.2.2 = -1
theorem fOk_2 {x y : pS} (h : fOk x) (e : y.2 = x.2) : fOk y := fun z => by rw [e] at z ⊢; exact h z
theorem fOk_n {a : Nat} {k p : Int} (h : k ≠ 0) : fOk (a, k, p) := fun z => absurd z h
theorem fOk_nu {lo hi : Int} (h : fOk s) : fOk (nuS B N lo hi s) := by
  unfold nuS
  exact qif_or fOk h (qif_or fOk (qif_or fOk (fOk_2 h rfl) (fOk_n (by decide))) (fOk_n (by decide)))
theorem fOk_gn {c : Int} (h : fOk s) : fOk (gnS B N c s) := by
  unfold gnS
  exact qif_or fOk h (qif_or fOk (fOk_2 h rfl) (fOk_n (by decide)))
theorem fOk_tk {W : Int} (h : fOk s) : fOk (tkS B N W s) := fOk_2 h tk_2
theorem fOk_sk (h : fOk s) : fOk (skS B N s) := fOk_2 h rfl
theorem fOk_wr {k p : Int} (hk : k ≠ 0) (h : fOk s) : fOk (wrS k p s) := by
  unfold wrS
  split
  · exact fOk_n hk
  · exact h
theorem fOk_one (h : fOk s) : fOk (oneS B N s) := by
  unfold oneS
  exact qif_or fOk h (qif_or fOk (fOk_tk h) (fOk_nu (fOk_tk h)))
theorem fOk_seL : ∀ (n : Nat) {x : pS × Int}, fOk x.1 → fOk (seL B N n x).1
  | 0, _, h => h
  | n + 1, x, h => by
    show fOk (qif (x.1.2.1 = 0 ∧ bAt B N x.1.1 = 44) (seL B N n (skS B N (oneS B N (x.1.1 + 1, x.1.2)), qOr x.2 (oneV B N (x.1.1 + 1, x.1.2)))) x).1
    by_cases c : x.1.2.1 = 0 ∧ bAt B N x.1.1 = 44
    · rw [qif_t c]
      exact fOk_seL n (fOk_sk (fOk_one (fOk_2 h rfl)))
    · rw [qif_f c]; exact h
theorem fOk_se (h : fOk s) : fOk (seS B N s) := by
  unfold seS
  refine qif_or fOk h (qif_or fOk (fOk_tk h) ?_)
  unfold seX
  exact fOk_seL N (fOk_sk (fOk_one (fOk_tk (fOk_tk h))))
theorem fOk_ln (h : fOk s) : fOk (lnS B N s) := by
  have hA : fOk (lnA B N s) := fOk_gn (fOk_se (fOk_se (fOk_se h)))
  unfold lnS lnB
  exact fOk_gn (qif_or fOk (fOk_tk hA) (fOk_nu (fOk_tk hA)))
theorem fOk_lp {L : Nat} (h : fOk s) : fOk (lpS B N L s) := by
  unfold lpS
  by_cases z : ckK B N L s.1 = 0
  · rw [qif_f (fun y => y z)]; exact fOk_ln h
  · rw [qif_t z]; exact fOk_n z
theorem fOk_pg : ∀ i, fOk (pgS B N i)
  | 0 => fOk_sk (fun _ => rfl)
  | i + 1 => fOk_sk (fOk_lp (fOk_pg i))
end FaultWords
theorem pgS_s {B : Nat → Int} {N i : Nat} : (pgS B N (i + 1)).2 = (lpS B N i (pgS B N i)).2 := rfl
set_option maxRecDepth 20000 in
set_option maxHeartbeats 4000000 in
theorem c_readPage {h : qH} {F G : Nat → Nat → Int} {B : Nat → Int} {N : Nat} {R0 : Nat → Int} (hP : rdP F G B N (sk B N 0)) (hN : N ≤ 400) (hR : pgR F G 165 R0 0) (hZ : pgZ G 165 0) : ∃ F' G', ((∀ a, a ≠ 160 → (a < 165 ∨ 169 < a) → F' a = F a) ∧ (∀ k, k < 5 ∨ 8 < k → F' 160 k = F 160 k) ∧ (∀ a, (a < 165 ∨ 169 < a) → G' a = G a) ∧ ((pgS B N (pgJ B N)).2.1 = 0 → rdK F F' ∧ (pgJ B N) ≤ 24 ∧ ∃ R', pgR F' G' 165 R' ((pgJ B N) : Int) ∧ ∀ j, j < 4 * (pgJ B N) → R' j = lpV B N (pgS B N (j / 4)) (j % 4)) ∧ ((pgS B N (pgJ B N)).2.1 ≠ 0 → rdE F' (pgS B N (pgJ B N)).2.1 (pgS B N (pgJ B N)).2.2)) ∧ qEx M_X4_readPage 0 [qR 160, qU] [] (xput h F G) (some (qI (qb ((pgS B N (pgJ B N)).2.1 = 0)))) (xput h F' G') := by
  refine x_in (fun Q hQ => ?_)
  refine qy (fun _ _ k9 => z_iconst d_X4_readPage_0 (by decide) k9) ?_
  refine qy (fun _ _ k9 => z_istore_n (ls' := [qR 160, qI 0]) d_X4_readPage_1 rfl (by decide) rfl k9) ?_
  refine qy (fun _ _ k9 => z_eq (qc rfl (qc (qi (rfl)) rfl)) rfl rfl k9) (y_wh4 (fun (i : Nat) (R : Nat → Int) (Fa : Nat → Nat → Int) (Ga : Nat → Nat → Int) => 25 - i) (fun (i : Nat) (R : Nat → Int) (Fa : Nat → Nat → Int) (Ga : Nat → Nat → Int) => [qR 160, qI (i : Int)]) (fun (i : Nat) (R : Nat → Int) (Fa : Nat → Nat → Int) (Ga : Nat → Nat → Int) => (xput h Fa Ga)) (fun (i : Nat) (R : Nat → Int) (Fa : Nat → Nat → Int) (Ga : Nat → Nat → Int) => (i ≤ 24 ∧ (pgS B N i).2.1 = 0 ∧ ∀ k, k < i → gon N (pgS B N k)) ∧ ((∀ a, a ≠ 160 → (a < 165 ∨ 169 < a) → Fa a = F a) ∧ (∀ k, k < 5 ∨ 8 < k → Fa 160 k = F 160 k) ∧ (∀ a, (a < 165 ∨ 169 < a) → Ga a = G a)) ∧ rdK F Fa ∧ rdP Fa Ga B N (pgS B N i).1 ∧ (pgR Fa Ga 165 R (i : Int) ∧ pgZ Ga 165 (i : Int)) ∧ ∀ j, j < 4 * i → R j = lpV B N (pgS B N (j / 4)) (j % 4)) 0 R0 F G (⟨⟨by omega, rfl, fun k hk => absurd hk (by omega)⟩, ⟨fun _ _ _ => rfl, fun _ _ => rfl, fun _ _ => rfl⟩, rdK_rf F, hP, ⟨hR, hZ⟩, fun j hj => absurd hj (by omega)⟩) (fun i R Fa Ga hp kk => ?_))
  obtain ⟨⟨hi, hs0, hgo⟩, hfa, hka, hPa, ⟨hRa, hZa⟩, hrw⟩ := hp
  show qEy M_X4_readPage 2 [qR 160, qI (i : Int)] [] (xput h Fa Ga) Q
  have hPa6 := hPa
  obtain ⟨_, _, _, _, _, hPa6⟩ := hPa6
  refine qy (fun _ _ k9 => z_iload_n d_X4_readPage_2 rfl rfl k9) ?_
  refine qy (fun _ _ k9 => z_bipush d_X4_readPage_3 (by decide) k9) ?_
  refine qy2 (fun _ _ => z_icmp_gt 30 d_X4_readPage_5 (by decide)) (fun q5 => absurd q5 (by omega)) (fun q5 => ?_)
  refine qy (fun _ _ k9 => z_aload_n d_X4_readPage_8 rfl rfl k9) ?_
  refine qy (fun _ _ k9 => z_getf (v := qI ((Fa 160) 6)) d_X4_readPage_9 fl_X4_31 (xput_ob (c := (Fa 160)) xi_160 rfl (xsh_4 xo_160)) rfl k9) ?_
  refine qy (fun _ _ k9 => z_eq rfl (qc (qi hPa6) rfl) rfl k9) ?_
  refine qy2 (fun _ _ => z_if_eq 30 d_X4_readPage_12 (by decide)) (fun q12 => ?_) (fun q12 => ?_)
  · have hng : ¬ gon N (pgS B N i) := fun z => absurd (kd_0.mp q12) (by have := z.2; omega)
    refine qy (fun _ _ k9 => z_iconst d_X4_readPage_30 (by decide) k9) ?_
    exact y_ret (hQ Fa Ga (⟨hfa.1, hfa.2.1, hfa.2.2, fun _ => ⟨hka, (by rw [(show (pgJ B N) = i from utl_at (by omega) (fun k hk z => z (hgo k hk)) hng)]; exact hi), R, (by rw [(show (pgJ B N) = i from utl_at (by omega) (fun k hk z => z (hgo k hk)) hng)]; exact hRa), (by rw [(show (pgJ B N) = i from utl_at (by omega) (fun k hk z => z (hgo k hk)) hng)]; exact hrw)⟩, fun z => absurd (by rw [(show (pgJ B N) = i from utl_at (by omega) (fun k hk z => z (hgo k hk)) hng)]; exact hs0) z⟩)) (z_zret d_X4_readPage_31 rfl (by first | exact qb_01 _ | decide | omega) (qsi (qb_t (by rw [(show (pgJ B N) = i from utl_at (by omega) (fun k hk z => z (hgo k hk)) hng)]; exact hs0))) rfl)
  · have hgi : gon N (pgS B N i) := ⟨hs0, Nat.lt_of_not_le (fun z => q12 (kd_0.mpr z))⟩
    refine qy (fun _ _ k9 => z_aload_n d_X4_readPage_15 rfl rfl k9) ?_
    obtain ⟨F1, G1, ⟨ha1, hb1, hc1, hy1, hn1⟩, hx1⟩ := c_readRule (h := h) (F := Fa) (G := Ga) (B := B) (N := N) (L := i) (R := R) (pgS B N i) hPa (pgS_le i) (pgS_sk i) hs0 hN hRa hZa
    refine qy (fun _ _ k9 => z_cv (M1 := M_X4_readRule) d_X4_readPage_16 lv_X4_120 k_X4_readRule [] rfl rfl (xput_ob (c := (Fa 160)) xi_160 rfl (xsh_4 xo_160)) ⟨_, _, rfl⟩ (Nat.le_of_ble_eq_true rfl) (by decide) (by decide) (Nat.le_of_ble_eq_true rfl) hx1 k9) ?_
    refine qy2 (fun _ _ => z_ifneB 24 d_X4_readPage_19 (by decide)) (fun q19 => ?_) (fun q19 => ?_)
    · refine qy (fun _ _ k9 => z_iinc (ls' := [qR 160, qI ((i : Int) + 1)]) d_X4_readPage_24 rfl (by decide) (by omega) rfl k9) ?_
      refine qy (fun _ _ k9 => z_goto 2 d_X4_readPage_27 (by decide) k9) ?_
      exact qy (fun _ _ k9 => z_eq (qc rfl (qc (qi (by omega)) rfl)) rfl rfl k9) (kk (i + 1) (row4 R (4 * i) (lpV B N (pgS B N i) 0) (lpV B N (pgS B N i) 1) (lpV B N (pgS B N i) 2) (lpV B N (pgS B N i) 3)) F1 G1 (⟨⟨by have := (hy1 q19).1; omega, q19, q_lts hgo hgi⟩, ⟨fun a h1 h2 => (ha1 a h1 h2).trans (hfa.1 a h1 h2), fun k hk => (hb1 k hk).trans (hfa.2.1 k hk), fun a h2 => (hc1 a h2).trans (hfa.2.2 a h2)⟩, rdK_tr hka (hy1 q19).2.1, (hy1 q19).2.2.1, ⟨(by have e9 := (hy1 q19).2.2.2.1; rw [show ((i : Int) + 1) = ((i + 1 : Nat) : Int) by omega] at e9; exact e9), (by have e9 := (hy1 q19).2.2.2.2; rw [show ((i : Int) + 1) = ((i + 1 : Nat) : Int) by omega] at e9; exact e9)⟩, fun j hj => (by rw [row4_at]; by_cases z : j / 4 = i; (rw [if_pos z, z]; unfold lpV; have := Nat.mod_lt j (show 0 < 4 by decide); split <;> (try split) <;> (try split) <;> first | rfl | omega); (rw [if_neg z]; exact hrw j (by omega)))⟩) (by omega))
    · refine qy (fun _ _ k9 => z_iconst d_X4_readPage_22 (by decide) k9) ?_
      exact y_ret (hQ F1 G1 (⟨fun a h1 h2 => (ha1 a h1 h2).trans (hfa.1 a h1 h2), fun k hk => (hb1 k hk).trans (hfa.2.1 k hk), fun a h2 => (hc1 a h2).trans (hfa.2.2 a h2), fun z => absurd z (by rw [(show (pgJ B N) = i + 1 from utl_at (by omega) (fun k hk z => z (q_lts hgo hgi k hk)) (fun z => q19 z.1))]; exact q19), fun _ => (by rw [(show (pgJ B N) = i + 1 from utl_at (by omega) (fun k hk z => z (q_lts hgo hgi k hk)) (fun z => q19 z.1))]; exact hn1 q19)⟩)) (z_zret d_X4_readPage_23 rfl (by first | exact qb_01 _ | decide | omega) (qsi (qb_f (by rw [(show (pgJ B N) = i + 1 from utl_at (by omega) (fun k hk z => z (q_lts hgo hgi k hk)) (fun z => q19 z.1))]; exact q19))) rfl)
