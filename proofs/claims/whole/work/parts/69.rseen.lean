/-! ===== CONTRACTS: the reference: oneSeen, seen ===== -/
theorem y_takes2 {h : qH} {m : Nat} {f : Nat → Int} {g : Nat → Nat → Int} {N : Nat} (s : pS) (w : Nat) (W : Int) (x1 x2 x3 x4 x5 x6 : Int) (hm : 2 ≤ m) (hN : f 2 = (N : Int)) (hN4 : N ≤ 400) (ha : s.1 ≤ N) (hW : 6 + (w : Int) = W) (hw : w < 13) (hx : wof x1 x2 x3 x4 x5 x6 = wK w) (hx1 : 0 ≤ x1 ∧ x1 ≤ 26) (hx2 : 0 ≤ x2 ∧ x2 ≤ 26) (hx3 : 0 ≤ x3 ∧ x3 ≤ 26) (hx4 : 0 ≤ x4 ∧ x4 ≤ 26) (hx5 : 0 ≤ x5 ∧ x5 ≤ 26) (hx6 : 0 ≤ x6 ∧ x6 ≤ 26) : qEx M_X12_takes 0 [qR m, qI x1, qI x2, qI x3, qI x4, qI x5, qI x6] [] (rput h m (qup (qup (qup f 3 ((s.1 : Nat) : Int)) 4 s.2.1) 5 s.2.2) g) (some (qI (qb (tkQ (g 1) N W s)))) (rput h m (qup (qup (qup f 3 (((tkS (g 1) N W s).1 : Nat) : Int)) 4 ((tkS (g 1) N W s).2.1)) 5 ((tkS (g 1) N W s).2.2)) g) := by
  subst hW
  exact y_takes s w x1 x2 x3 x4 x5 x6 hm hN hN4 ha hw hx hx1 hx2 hx3 hx4 hx5 hx6
section SeenWords
variable (B : Nat → Int) (N : Nat)
noncomputable def oneS (s : pS) : pS := qif (s.2.1 ≠ 0) s (qif (tkQ B N 8 s) (tkS B N 8 s) (nuS B N 0 7 (tkS B N 8 s)))
noncomputable def oneV (s : pS) : Int := qif (s.2.1 ≠ 0) 0 (qif (tkQ B N 8 s) 256 (qShl 1 (nuV B N (tkS B N 8 s))))
noncomputable def seL : Nat → pS × Int → pS × Int
  | 0, x => x
  | n + 1, x => qif (x.1.2.1 = 0 ∧ bAt B N x.1.1 = 44) (seL n (skS B N (oneS B N (x.1.1 + 1, x.1.2)), qOr x.2 (oneV B N (x.1.1 + 1, x.1.2)))) x
noncomputable def seX (s : pS) : pS × Int := seL B N N (skS B N (oneS B N (tkS B N 7 (tkS B N 6 s))), oneV B N (tkS B N 7 (tkS B N 6 s)))
noncomputable def seS (s : pS) : pS := qif (s.2.1 ≠ 0) s (qif (tkQ B N 6 s) (tkS B N 6 s) (seX B N s).1)
noncomputable def seV (s : pS) : Int := qif (s.2.1 ≠ 0) 0 (qif (tkQ B N 6 s) 511 (qif (tkQ B N 7 (tkS B N 6 s)) (qAnd 511 (qXor (seX B N s).2 (-1))) (seX B N s).2))
end SeenWords
theorem tkS_ge {B : Nat → Int} {N : Nat} {W : Int} {s : pS} (hW : 6 ≤ W) (h : s.1 ≤ N) : s.1 ≤ (tkS B N W s).1 := by
  have h1 := sk_sp B h
  unfold tkS
  by_cases c : s.2.1 ≠ 0
  · rw [qif_t c]; exact Nat.le_refl _
  · rw [qif_f c]
    by_cases d : kd B N (sk B N s.1) = W
    · rw [qif_t d]
      have : sk B N s.1 < N := by
        rcases Nat.lt_or_ge (sk B N s.1) N with q | q
        · exact q
        · have := (kd_0 (B := B)).mpr q; omega
      have h2 := en_sp (B := B) this
      show s.1 ≤ en B N (sk B N s.1)
      omega
    · rw [qif_f d]; exact h1.1
theorem nuS_ge {B : Nat → Int} {N : Nat} {lo hi : Int} {s : pS} (h : s.1 ≤ N) : s.1 ≤ (nuS B N lo hi s).1 := by
  have h1 := sk_sp B h
  unfold nuS
  by_cases c : s.2.1 ≠ 0
  · rw [qif_t c]; exact Nat.le_refl _
  · rw [qif_f c]
    by_cases d : kd B N (sk B N s.1) = 2
    · rw [qif_t d]
      by_cases e : lo ≤ vl B N (sk B N s.1) ∧ vl B N (sk B N s.1) ≤ hi
      · rw [qif_t e]
        have h2 := en_sp (B := B) (kd_en2 h1.2.1 d).1
        show s.1 ≤ en B N (sk B N s.1)
        omega
      · rw [qif_f e]; exact h1.1
    · rw [qif_f d]; exact h1.1
theorem oneS_le {B : Nat → Int} {N : Nat} {s : pS} (h : s.1 ≤ N) : (oneS B N s).1 ≤ N := by
  unfold oneS
  have h1 := tkS_le (B := B) (W := 8) (by decide) h
  exact qif_or (fun z : pS => z.1 ≤ N) h (qif_or (fun z : pS => z.1 ≤ N) h1 (nuS_le h1))
theorem oneS_ge {B : Nat → Int} {N : Nat} {s : pS} (h : s.1 ≤ N) : s.1 ≤ (oneS B N s).1 := by
  unfold oneS
  have h1 := tkS_le (B := B) (W := 8) (by decide) h
  have h2 := tkS_ge (B := B) (W := 8) (by decide) h
  have h3 := nuS_ge (B := B) (lo := 0) (hi := 7) h1
  exact qif_or (fun z : pS => s.1 ≤ z.1) (Nat.le_refl _) (qif_or (fun z : pS => s.1 ≤ z.1) h2 (Nat.le_trans h2 h3))
theorem seL_le {B : Nat → Int} {N : Nat} : ∀ (n : Nat) {x : pS × Int}, x.1.1 ≤ N → (seL B N n x).1.1 ≤ N
  | 0, _, h => h
  | n + 1, x, h => by
    show (qif (x.1.2.1 = 0 ∧ bAt B N x.1.1 = 44) (seL B N n (skS B N (oneS B N (x.1.1 + 1, x.1.2)), qOr x.2 (oneV B N (x.1.1 + 1, x.1.2)))) x).1.1 ≤ N
    by_cases c : x.1.2.1 = 0 ∧ bAt B N x.1.1 = 44
    · rw [qif_t c]
      exact seL_le n (skS_le (oneS_le (kd_en3 (Or.inr (Or.inl rfl)) c.2).1))
    · rw [qif_f c]; exact h
theorem seL_s {B : Nat → Int} {N n : Nat} {x : pS × Int} (hn : 0 < n) (c : x.1.2.1 = 0 ∧ bAt B N x.1.1 = 44) : seL B N n x = seL B N (n - 1) (skS B N (oneS B N (x.1.1 + 1, x.1.2)), qOr x.2 (oneV B N (x.1.1 + 1, x.1.2))) := by
  obtain ⟨k, rfl⟩ : ∃ k, n = k + 1 := ⟨n - 1, by omega⟩
  exact qif_t c
theorem seL_e {B : Nat → Int} {N n : Nat} {x : pS × Int} (c : ¬ (x.1.2.1 = 0 ∧ bAt B N x.1.1 = 44)) : seL B N n x = x := by
  cases n with
  | zero => rfl
  | succ k => exact qif_f c
theorem seS_le {B : Nat → Int} {N : Nat} {s : pS} (h : s.1 ≤ N) : (seS B N s).1 ≤ N := by
  unfold seS
  have h1 := tkS_le (B := B) (W := 6) (by decide) h
  refine qif_or (fun z : pS => z.1 ≤ N) h (qif_or (fun z : pS => z.1 ≤ N) h1 ?_)
  exact seL_le N (skS_le (oneS_le (tkS_le (by decide) h1)))
set_option maxRecDepth 20000 in
set_option maxHeartbeats 4000000 in
theorem c_oneSeen {h : qH} {m : Nat} {f : Nat → Int} {g : Nat → Nat → Int} {N : Nat} (s : pS) (hm : 2 ≤ m) (hN : f 2 = (N : Int)) (hN4 : N ≤ 400) (ha : s.1 ≤ N) : qEx M_X12_oneSeen 0 [qR m] [] (rput h m (qup (qup (qup f 3 ((s.1 : Nat) : Int)) 4 s.2.1) 5 s.2.2) g) (some (qI (oneV (g 1) N s))) (rput h m (qup (qup (qup f 3 (((oneS (g 1) N s).1 : Nat) : Int)) 4 ((oneS (g 1) N s).2.1)) 5 ((oneS (g 1) N s).2.2)) g) := by
  refine q_gen (fun r hr er eh => ?_)
  refine z_aload_n d_X12_oneSeen_0 rfl rfl ?_
  refine z_getf (v := qI s.2.1) d_X12_oneSeen_1 fl_X12_141 rput_o rfl ?_
  refine z_if_eq 9 d_X12_oneSeen_4 (by decide) (fun q1 => ?_) (fun q1 => ?_)
  · refine z_aload_n d_X12_oneSeen_9 rfl rfl ?_
    refine z_iconst d_X12_oneSeen_10 (by decide) ?_
    refine z_bipush d_X12_oneSeen_11 (by decide) ?_
    refine z_iconst d_X12_oneSeen_13 (by decide) ?_
    refine z_iconst d_X12_oneSeen_14 (by decide) ?_
    refine z_iconst d_X12_oneSeen_15 (by decide) ?_
    refine z_iconst d_X12_oneSeen_16 (by decide) ?_
    refine z_cv (M1 := M_X12_takes) d_X12_oneSeen_17 lv_X12_203 k_X12_takes [qI 5, qI 14, qI 4, qI 0, qI 0, qI 0] rfl rfl rput_o ⟨_, _, rfl⟩ (Nat.le_of_ble_eq_true rfl) (by decide) (by decide) (Nat.le_of_ble_eq_true rfl) (y_takes2 (N := N) s 2 8 5 14 4 0 0 0 hm hN hN4 ha (by decide) (by decide) (by decide +kernel) (by decide) (by decide) (by decide) (by decide) (by decide) (by decide)) ?_
    refine z_ifeqB 27 d_X12_oneSeen_20 (by decide) (fun q2 => ?_) (fun q2 => ?_)
    · refine z_iconst d_X12_oneSeen_27 (by decide) ?_
      refine z_aload_n d_X12_oneSeen_28 rfl rfl ?_
      refine z_iconst d_X12_oneSeen_29 (by decide) ?_
      refine z_bipush d_X12_oneSeen_30 (by decide) ?_
      refine z_cv (M1 := M_X12_number) d_X12_oneSeen_32 lv_X12_206 k_X12_number [qI 0, qI 7] rfl rfl rput_o ⟨_, _, rfl⟩ (Nat.le_of_ble_eq_true rfl) (by decide) (by decide) (Nat.le_of_ble_eq_true rfl) (y_number (N := N) (tkS (g 1) N 8 s) 0 7 hm hN hN4 (tkS_le (by decide) ha)) ?_
      refine z_ishl d_X12_oneSeen_35 ?_
      exact z_iret d_X12_oneSeen_36 rfl (qer er (by unfold oneV; rw [qif_f (fun z => z q1), qif_f q2])) (eh.trans (by unfold oneS; rw [qif_f (fun z => z q1), qif_f q2]))
    · refine z_sipush d_X12_oneSeen_23 (by decide) ?_
      exact z_iret d_X12_oneSeen_26 rfl (qer er (by unfold oneV; rw [qif_f (fun z => z q1), qif_t q2])) (eh.trans (by unfold oneS; rw [qif_f (fun z => z q1), qif_t q2]))
  · refine z_iconst d_X12_oneSeen_7 (by decide) ?_
    exact z_iret d_X12_oneSeen_8 rfl (qer er (by unfold oneV; rw [qif_t q1])) (eh.trans (by unfold oneS; rw [qif_t q1]))
set_option maxRecDepth 20000 in
set_option maxHeartbeats 1000000 in
theorem c_seen0 {h : qH} {m : Nat} {f : Nat → Int} {g : Nat → Nat → Int} {N : Nat} (s : pS) (hm : 2 ≤ m) (hN : f 2 = (N : Int)) (hN4 : N ≤ 400) (ha : s.1 ≤ N) : ∃ g', (g' = g) ∧ qEx M_X12_seen 0 [qR m, qU, qU] [] (rput h m (qup (qup (qup f 3 ((s.1 : Nat) : Int)) 4 s.2.1) 5 s.2.2) g) (some (qI (seV (g 1) N s))) (rput h m (qup (qup (qup f 3 (((seS (g 1) N s).1 : Nat) : Int)) 4 ((seS (g 1) N s).2.1)) 5 ((seS (g 1) N s).2.2)) g') := by
  refine y_in (fun Q hQ => ?_)
  refine qy (fun _ _ k9 => z_aload_n d_X12_seen_0 rfl rfl k9) ?_
  refine qy (fun _ _ k9 => z_getf (v := qI s.2.1) d_X12_seen_1 fl_X12_141 rput_o rfl k9) ?_
  refine qy2 (fun _ _ => z_if_eq 9 d_X12_seen_4 (by decide)) (fun q1 => ?_) (fun q1 => ?_)
  · refine qy (fun _ _ k9 => z_aload_n d_X12_seen_9 rfl rfl k9) ?_
    refine qy (fun _ _ k9 => z_iconst d_X12_seen_10 (by decide) k9) ?_
    refine qy (fun _ _ k9 => z_bipush d_X12_seen_11 (by decide) k9) ?_
    refine qy (fun _ _ k9 => z_bipush d_X12_seen_13 (by decide) k9) ?_
    refine qy (fun _ _ k9 => z_iconst d_X12_seen_15 (by decide) k9) ?_
    refine qy (fun _ _ k9 => z_iconst d_X12_seen_16 (by decide) k9) ?_
    refine qy (fun _ _ k9 => z_iconst d_X12_seen_17 (by decide) k9) ?_
    refine qy (fun _ _ k9 => z_cv (M1 := M_X12_takes) d_X12_seen_18 lv_X12_203 k_X12_takes [qI 1, qI 14, qI 25, qI 0, qI 0, qI 0] rfl rfl rput_o ⟨_, _, rfl⟩ (Nat.le_of_ble_eq_true rfl) (by decide) (by decide) (Nat.le_of_ble_eq_true rfl) (y_takes2 (N := N) s 0 6 1 14 25 0 0 0 hm hN hN4 ha (by decide) (by decide) (by decide +kernel) (by decide) (by decide) (by decide) (by decide) (by decide) (by decide)) k9) ?_
    refine qy2n (fun _ _ => z_ifeqB 28 d_X12_seen_21 (by decide)) (fun q2 => ?_) (fun q2 => ?_)
    · refine qy (fun _ _ k9 => z_aload_n d_X12_seen_28 rfl rfl k9) ?_
      refine qy (fun _ _ k9 => z_bipush d_X12_seen_29 (by decide) k9) ?_
      refine qy (fun _ _ k9 => z_bipush d_X12_seen_31 (by decide) k9) ?_
      refine qy (fun _ _ k9 => z_bipush d_X12_seen_33 (by decide) k9) ?_
      refine qy (fun _ _ k9 => z_iconst d_X12_seen_35 (by decide) k9) ?_
      refine qy (fun _ _ k9 => z_iconst d_X12_seen_36 (by decide) k9) ?_
      refine qy (fun _ _ k9 => z_iconst d_X12_seen_37 (by decide) k9) ?_
      refine qy (fun _ _ k9 => z_cv (M1 := M_X12_takes) d_X12_seen_38 lv_X12_203 k_X12_takes [qI 14, qI 15, qI 20, qI 0, qI 0, qI 0] rfl rfl rput_o ⟨_, _, rfl⟩ (Nat.le_of_ble_eq_true rfl) (by decide) (by decide) (Nat.le_of_ble_eq_true rfl) (y_takes2 (N := N) (tkS (g 1) N 6 s) 1 7 14 15 20 0 0 0 hm hN hN4 (tkS_le (by decide) ha) (by decide) (by decide) (by decide +kernel) (by decide) (by decide) (by decide) (by decide) (by decide) (by decide)) k9) ?_
      refine qy (fun _ _ k9 => z_istore_n (ls' := [qR m, qI (qb (tkQ (g 1) N 7 (tkS (g 1) N 6 s))), qU]) d_X12_seen_41 rfl (by decide) rfl k9) ?_
      refine qy (fun _ _ k9 => z_aload_n d_X12_seen_42 rfl rfl k9) ?_
      refine qy (fun _ _ k9 => z_cv (M1 := M_X12_oneSeen) d_X12_seen_43 lv_X12_210 k_X12_oneSeen [] rfl rfl rput_o ⟨_, _, rfl⟩ (Nat.le_of_ble_eq_true rfl) (by decide) (by decide) (Nat.le_of_ble_eq_true rfl) (c_oneSeen (N := N) (tkS (g 1) N 7 (tkS (g 1) N 6 s)) hm hN hN4 (tkS_le (by decide) (tkS_le (by decide) ha))) k9) ?_
      refine qy (fun _ _ k9 => z_istore_n (ls' := [qR m, qI (qb (tkQ (g 1) N 7 (tkS (g 1) N 6 s))), qI (oneV (g 1) N (tkS (g 1) N 7 (tkS (g 1) N 6 s)))]) d_X12_seen_46 rfl (by decide) rfl k9) ?_
      refine qy (fun _ _ k9 => z_aload_n d_X12_seen_47 rfl rfl k9) ?_
      refine qy (fun _ _ k9 => z_cv0 (M1 := M_X12_blanks) d_X12_seen_48 lv_X12_164 k_X12_blanks [] rfl rfl rput_o ⟨_, _, rfl⟩ (Nat.le_of_ble_eq_true rfl) (by decide) (by decide) (Nat.le_of_ble_eq_true rfl) (y_blanks (N := N) (oneS (g 1) N (tkS (g 1) N 7 (tkS (g 1) N 6 s))) hm hN hN4 (oneS_le (tkS_le (by decide) (tkS_le (by decide) ha)))) k9) ?_
      refine qy (fun _ _ k9 => z_eq (qc rfl (qc rfl (qc (qi (rfl)) rfl))) rfl rfl k9) (y_wh2 (fun (n : Nat) (x : pS × Int) => n) (fun (n : Nat) (x : pS × Int) => [qR m, qI (qb (tkQ (g 1) N 7 (tkS (g 1) N 6 s))), qI x.2]) (fun (n : Nat) (x : pS × Int) => (rput h m (qup (qup (qup f 3 ((x.1.1 : Nat) : Int)) 4 x.1.2.1) 5 x.1.2.2) g)) (fun (n : Nat) (x : pS × Int) => seL (g 1) N n x = seX (g 1) N s ∧ N - x.1.1 ≤ n ∧ x.1.1 ≤ N) N (skS (g 1) N (oneS (g 1) N (tkS (g 1) N 7 (tkS (g 1) N 6 s))), oneV (g 1) N (tkS (g 1) N 7 (tkS (g 1) N 6 s))) (⟨rfl, Nat.sub_le _ _, (skS_le (oneS_le (tkS_le (by decide) (tkS_le (by decide) ha))))⟩) (fun n x hp kk => ?_))
      obtain ⟨hX, hn, hx⟩ := hp
      show qEy M_X12_seen 51 [qR m, qI (qb (tkQ (g 1) N 7 (tkS (g 1) N 6 s))), qI x.2] [] (rput h m (qup (qup (qup f 3 ((x.1.1 : Nat) : Int)) 4 x.1.2.1) 5 x.1.2.2) g) Q
      refine qy (fun _ _ k9 => z_aload_n d_X12_seen_51 rfl rfl k9) ?_
      refine qy (fun _ _ k9 => z_getf (v := qI x.1.2.1) d_X12_seen_52 fl_X12_141 rput_o rfl k9) ?_
      refine qy2 (fun _ _ => z_if_ne 95 d_X12_seen_55 (by decide)) (fun hc1 => ?_) (fun hc1 => ?_)
      · have hX2 : x = seX (g 1) N s := by rw [← hX]; exact (seL_e (by omega)).symm
        refine qy (fun _ _ k9 => z_iload_n d_X12_seen_95 rfl rfl k9) ?_
        refine qy2n (fun _ _ => z_ifeqB 109 d_X12_seen_96 (by decide)) (fun q3 => ?_) (fun q3 => ?_)
        · refine qy (fun _ _ k9 => z_iload_n d_X12_seen_109 rfl rfl k9) ?_
          exact y_ret (hQ g rfl) (z_iret d_X12_seen_110 rfl (qsi (by unfold seV; rw [qif_f (fun z => z q1), qif_f q2, qif_f q3, hX2])) (by unfold seS; rw [qif_f (fun z => z q1), qif_f q2, hX2]))
        · refine qy (fun _ _ k9 => z_sipush d_X12_seen_99 (by decide) k9) ?_
          refine qy (fun _ _ k9 => z_iload_n d_X12_seen_102 rfl rfl k9) ?_
          refine qy (fun _ _ k9 => z_iconst d_X12_seen_103 (by decide) k9) ?_
          refine qy (fun _ _ k9 => z_ixor d_X12_seen_104 k9) ?_
          refine qy (fun _ _ k9 => z_iand d_X12_seen_105 k9) ?_
          refine qy (fun _ _ k9 => z_goto 110 d_X12_seen_106 (by decide) k9) ?_
          exact y_ret (hQ g rfl) (z_iret d_X12_seen_110 rfl (qsi (by unfold seV; rw [qif_f (fun z => z q1), qif_f q2, qif_t q3, hX2])) (by unfold seS; rw [qif_f (fun z => z q1), qif_f q2, hX2]))
      · refine qy (fun _ _ k9 => z_aload_n d_X12_seen_58 rfl rfl k9) ?_
        refine qy (fun _ _ k9 => z_aload_n d_X12_seen_59 rfl rfl k9) ?_
        refine qy (fun _ _ k9 => z_getf (v := qI ((x.1.1 : Nat) : Int)) d_X12_seen_60 fl_X12_150 rput_o rfl k9) ?_
        refine qy (fun _ _ k9 => z_cv (M1 := M_X12_byteAt) d_X12_seen_63 lv_X12_153 k_X12_byteAt [qI ((x.1.1 : Nat) : Int)] rfl rfl rput_o ⟨_, _, rfl⟩ (Nat.le_of_ble_eq_true rfl) (by decide) (by decide) (Nat.le_of_ble_eq_true rfl) (y_byteAt (N := N) x.1.1 hm hN hN4) k9) ?_
        refine qy (fun _ _ k9 => z_bipush d_X12_seen_66 (by decide) k9) ?_
        refine qy2 (fun _ _ => z_icmp_ne 95 d_X12_seen_68 (by decide)) (fun hc2 => ?_) (fun hc2 => ?_)
        · have hX2 : x = seX (g 1) N s := by rw [← hX]; exact (seL_e (by omega)).symm
          refine qy (fun _ _ k9 => z_iload_n d_X12_seen_95 rfl rfl k9) ?_
          refine qy2n (fun _ _ => z_ifeqB 109 d_X12_seen_96 (by decide)) (fun q3 => ?_) (fun q3 => ?_)
          · refine qy (fun _ _ k9 => z_iload_n d_X12_seen_109 rfl rfl k9) ?_
            exact y_ret (hQ g rfl) (z_iret d_X12_seen_110 rfl (qsi (by unfold seV; rw [qif_f (fun z => z q1), qif_f q2, qif_f q3, hX2])) (by unfold seS; rw [qif_f (fun z => z q1), qif_f q2, hX2]))
          · refine qy (fun _ _ k9 => z_sipush d_X12_seen_99 (by decide) k9) ?_
            refine qy (fun _ _ k9 => z_iload_n d_X12_seen_102 rfl rfl k9) ?_
            refine qy (fun _ _ k9 => z_iconst d_X12_seen_103 (by decide) k9) ?_
            refine qy (fun _ _ k9 => z_ixor d_X12_seen_104 k9) ?_
            refine qy (fun _ _ k9 => z_iand d_X12_seen_105 k9) ?_
            refine qy (fun _ _ k9 => z_goto 110 d_X12_seen_106 (by decide) k9) ?_
            exact y_ret (hQ g rfl) (z_iret d_X12_seen_110 rfl (qsi (by unfold seV; rw [qif_f (fun z => z q1), qif_f q2, qif_t q3, hX2])) (by unfold seS; rw [qif_f (fun z => z q1), qif_f q2, hX2]))
        · refine qy (fun _ _ k9 => z_aload_n d_X12_seen_71 rfl rfl k9) ?_
          refine qy (fun _ _ k9 => z_dup d_X12_seen_72 rfl k9) ?_
          refine qy (fun _ _ k9 => z_getf (v := qI ((x.1.1 : Nat) : Int)) d_X12_seen_73 fl_X12_150 rput_o rfl k9) ?_
          refine qy (fun _ _ k9 => z_iconst d_X12_seen_76 (by decide) k9) ?_
          refine qy (fun _ _ k9 => z_iadd d_X12_seen_77 (by omega) k9) ?_
          refine qy (fun _ _ k9 => z_putf (fs' := [qI (f 0), qI (f 1), qI (f 2), qI (((x.1.1 : Nat) : Int) + 1), qI x.1.2.1, qI x.1.2.2, qI (f 6), qI (f 7), qR (m + 1), qR (m + 2), qR (m + 3), qR (m + 4), qR (m + 5), qR (m + 6), qR (m + 7), qR (m + 8), qR (m + 9), qR (m + 10), qI (f 18), qI (f 19), qI (f 20), qR (m + 11), qR (m + 12), qR (m + 13), qR (m + 14), qI (f 25), qR (m + 15), qI (f 27), qR (m + 16), qR (m + 17), qR (m + 18), qR (m + 19), qR (m + 20), qR (m + 21), qR (m + 22), qR (m + 23), qR (m + 24), qI (f 37), qI (f 38), qI (f 39), qI (f 40), qR (m + 25), qR (m + 26), qR (m + 27), qR (m + 28), qR (m + 29), qR (m + 30), qR (m + 31), qI (f 48), qR (m + 32), qR (m + 33), qR (m + 34), qR (m + 35), qR (m + 36), qR (m + 37)]) d_X12_seen_78 fp_X12_150 rput_o (fun _ => rfl) (fun _ => rfl) (Nat.le_of_ble_eq_true rfl) rfl k9) ?_
          refine qy (fun _ _ k9 => z_eq rfl rfl ((rput_sf (f' := qup (qup (qup (qup f 3 ((x.1.1 : Nat) : Int)) 4 x.1.2.1) 5 x.1.2.2) 3 (((x.1.1 : Nat) : Int) + 1)) rfl).trans (rput_cg ((qup_comm (by decide)).trans (congrArg (fun z => qup z 5 x.1.2.2) ((qup_comm (by decide)).trans (congrArg (fun z => qup z 4 x.1.2.1) (qup_qup _ _ _ _))))) rfl)) k9) ?_
          have hc9 : x.1.2.1 = 0 ∧ bAt (g 1) N x.1.1 = 44 := ⟨by omega, by omega⟩
          have hx1 : (x.1.1 + 1, x.1.2).1 ≤ N := (kd_en3 (Or.inr (Or.inl rfl)) hc9.2).1
          have hx2 : x.1.1 + 1 ≤ N := hx1
          have hn0 : 0 < n := by omega
          have hg1 := oneS_ge (B := (g 1)) hx1
          have hg2 := (sk_sp (g 1) (oneS_le (B := (g 1)) hx1)).1
          have hg3 : x.1.1 + 1 ≤ (skS (g 1) N (oneS (g 1) N (x.1.1 + 1, x.1.2))).1 := Nat.le_trans hg1 hg2
          refine qy (fun _ _ k9 => z_eq rfl rfl (show (rput h m (qup (qup (qup f 3 (((x.1.1 : Nat) : Int) + 1)) 4 x.1.2.1) 5 x.1.2.2) g) = (rput h m (qup (qup (qup f 3 (((x.1.1 + 1, x.1.2).1 : Nat) : Int)) 4 ((x.1.1 + 1, x.1.2).2.1)) 5 ((x.1.1 + 1, x.1.2).2.2)) g) from rput_cg (qup_cg (qup_cg (qup_cg rfl (show _ = ((x.1.1 + 1 : Nat) : Int) by omega)) rfl) rfl) rfl) k9) ?_
          refine qy (fun _ _ k9 => z_iload_n d_X12_seen_81 rfl rfl k9) ?_
          refine qy (fun _ _ k9 => z_aload_n d_X12_seen_82 rfl rfl k9) ?_
          refine qy (fun _ _ k9 => z_cv (M1 := M_X12_oneSeen) d_X12_seen_83 lv_X12_210 k_X12_oneSeen [] rfl rfl rput_o ⟨_, _, rfl⟩ (Nat.le_of_ble_eq_true rfl) (by decide) (by decide) (Nat.le_of_ble_eq_true rfl) (c_oneSeen (N := N) (x.1.1 + 1, x.1.2) hm hN hN4 hx1) k9) ?_
          refine qy (fun _ _ k9 => z_ior d_X12_seen_86 k9) ?_
          refine qy (fun _ _ k9 => z_istore_n (ls' := [qR m, qI (qb (tkQ (g 1) N 7 (tkS (g 1) N 6 s))), qI (qOr x.2 (oneV (g 1) N (x.1.1 + 1, x.1.2)))]) d_X12_seen_87 rfl (by decide) rfl k9) ?_
          refine qy (fun _ _ k9 => z_aload_n d_X12_seen_88 rfl rfl k9) ?_
          refine qy (fun _ _ k9 => z_cv0 (M1 := M_X12_blanks) d_X12_seen_89 lv_X12_164 k_X12_blanks [] rfl rfl rput_o ⟨_, _, rfl⟩ (Nat.le_of_ble_eq_true rfl) (by decide) (by decide) (Nat.le_of_ble_eq_true rfl) (y_blanks (N := N) (oneS (g 1) N (x.1.1 + 1, x.1.2)) hm hN hN4 (oneS_le hx1)) k9) ?_
          refine qy (fun _ _ k9 => z_goto 51 d_X12_seen_92 (by decide) k9) ?_
          exact qy (fun _ _ k9 => z_eq (qc rfl (qc rfl (qc (qi (rfl)) rfl))) rfl rfl k9) (kk (n - 1) (skS (g 1) N (oneS (g 1) N (x.1.1 + 1, x.1.2)), qOr x.2 (oneV (g 1) N (x.1.1 + 1, x.1.2))) (⟨(seL_s hn0 hc9).symm.trans hX, by show N - (skS (g 1) N (oneS (g 1) N (x.1.1 + 1, x.1.2))).1 ≤ _; omega, skS_le (oneS_le hx1)⟩) (by omega))
    · refine qy (fun _ _ k9 => z_sipush d_X12_seen_24 (by decide) k9) ?_
      exact y_ret (hQ g rfl) (z_iret d_X12_seen_27 rfl (qsi (by unfold seV; rw [qif_f (fun z => z q1), qif_t q2])) (by unfold seS; rw [qif_f (fun z => z q1), qif_t q2]))
  · refine qy (fun _ _ k9 => z_iconst d_X12_seen_7 (by decide) k9) ?_
    exact y_ret (hQ g rfl) (z_iret d_X12_seen_8 rfl (qsi (by unfold seV; rw [qif_t q1])) (by unfold seS; rw [qif_t q1]))
theorem c_seen {h : qH} {m : Nat} {f : Nat → Int} {g : Nat → Nat → Int} {N : Nat} (s : pS) (hm : 2 ≤ m) (hN : f 2 = (N : Int)) (hN4 : N ≤ 400) (ha : s.1 ≤ N) : qEx M_X12_seen 0 [qR m, qU, qU] [] (rput h m (qup (qup (qup f 3 ((s.1 : Nat) : Int)) 4 s.2.1) 5 s.2.2) g) (some (qI (seV (g 1) N s))) (rput h m (qup (qup (qup f 3 (((seS (g 1) N s).1 : Nat) : Int)) 4 ((seS (g 1) N s).2.1)) 5 ((seS (g 1) N s).2.2)) g) := by
  obtain ⟨g', e, k⟩ := c_seen0 (h := h) (f := f) (g := g) s hm hN hN4 ha
  subst e
  exact k
