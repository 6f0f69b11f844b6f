/-! ===== CONTRACTS: the reference: blanks to sign ===== -/
theorem y_byteAt {h : qH} {m : Nat} {f : Nat → Int} {g : Nat → Nat → Int} {N : Nat} (k : Nat) (hm : 2 ≤ m) (hN : f 2 = (N : Int)) (hN4 : N ≤ 400) : qEx M_X12_byteAt 0 [qR m, qI (k : Int)] [] (rput h m f g) (some (qI (bAt (g 1) N k))) (rput h m f g) := by
  have k9 := c_byteAt (h := h) (f := f) (g := g) k hm (by omega)
  rw [hN] at k9
  exact k9
theorem y_wrong0 {h : qH} {m : Nat} {f : Nat → Int} {g : Nat → Nat → Int} (k p : Int) (hm : 2 ≤ m) (h4 : f 4 = 0) : qEx M_X12_wrong 0 [qR m, qI k, qI p] [] (rput h m f g) none (rput h m (qup (qup f 4 k) 5 p) g) := by
  have k9 := c_wrong (h := h) (f := f) (g := g) k p hm
  rw [qif_t h4] at k9
  exact k9
theorem z_end {M : qM} {pc : Nat} {ls st : List qA} {h hr hr' : qH} {r r' : Option qA} (k : qEx M pc ls st h r hr) (e1 : r = r') (e2 : hr = hr') : qEx M pc ls st h r' hr' := by subst e1; subst e2; exact k
theorem qel {r : Option qA} {x y : Int} (er : r = some (qL x)) (h : x = y) : r = some (qL y) := by rw [er, h]
theorem w27_bd6 {D : Nat → Int} {n : Nat} (hn : n ≤ 6) (h : ∀ i, i < n → 1 ≤ D i ∧ D i ≤ 26) : 0 ≤ w27 D n ∧ w27 D n < 387420489 := by
  have h1 := w27_bd n h
  have h2 : 27 ^ n ≤ 387420489 := Nat.pow_le_pow_right (n := 27) (by decide) hn
  omega
def wof (a b c d e f : Int) : Int :=
  if f ≠ 0 then 27 * (if e ≠ 0 then 27 * (if d ≠ 0 then 27 * (if c ≠ 0 then 27 * (27 * a + b) + c else 27 * a + b) + d else (if c ≠ 0 then 27 * (27 * a + b) + c else 27 * a + b)) + e else (if d ≠ 0 then 27 * (if c ≠ 0 then 27 * (27 * a + b) + c else 27 * a + b) + d else (if c ≠ 0 then 27 * (27 * a + b) + c else 27 * a + b))) + f
  else (if e ≠ 0 then 27 * (if d ≠ 0 then 27 * (if c ≠ 0 then 27 * (27 * a + b) + c else 27 * a + b) + d else (if c ≠ 0 then 27 * (27 * a + b) + c else 27 * a + b)) + e else (if d ≠ 0 then 27 * (if c ≠ 0 then 27 * (27 * a + b) + c else 27 * a + b) + d else (if c ≠ 0 then 27 * (27 * a + b) + c else 27 * a + b)))
set_option maxRecDepth 20000 in
set_option maxHeartbeats 4000000 in
theorem c_blanks {h : qH} {m : Nat} {f : Nat → Int} {g : Nat → Nat → Int} {N a : Nat} {k pl : Int} (hm : 2 ≤ m) (hN : f 2 = (N : Int)) (hN4 : N ≤ 400) (ha : a ≤ N) : qEx M_X12_blanks 0 [qR m] [] (rput h m (qup (qup (qup f 3 (a : Int)) 4 k) 5 pl) g) none (rput h m (qup (qup (qup f 3 (((sk (g 1) N a) : Nat) : Int)) 4 k) 5 pl) g) := by
  refine q_gen (fun r hr er eh => ?_)
  have hsp := rl_sp (Q := isB) (g 1) nB ha
  refine z_eq rfl rfl (rput_cg (qup_cg (v' := pl) (qup_cg (v' := k) (qup_cg (v' := (((a + 0) : Nat) : Int)) rfl (by omega)) rfl) rfl) rfl) (z_for (rl isB (g 1) N a) (fun i => [qR m]) (fun i => (rput h m (qup (qup (qup f 3 (((a + i) : Nat) : Int)) 4 k) 5 pl) g)) (fun i => True) trivial (fun i hii hp kki => ?_) (fun hp => ?_))
  · show qEx M_X12_blanks 0 [qR m] [] (rput h m (qup (qup (qup f 3 (((a + i) : Nat) : Int)) 4 k) 5 pl) g) r hr
    refine z_aload_n d_X12_blanks_0 rfl rfl ?_
    refine z_aload_n d_X12_blanks_1 rfl rfl ?_
    refine z_getf (v := qI (((a + i) : Nat) : Int)) d_X12_blanks_2 fl_X12_150 rput_o rfl ?_
    refine z_cv (M1 := M_X12_byteAt) d_X12_blanks_5 lv_X12_153 k_X12_byteAt [qI (((a + i) : Nat) : Int)] rfl rfl rput_o ⟨_, _, rfl⟩ (Nat.le_of_ble_eq_true rfl) (by decide) (by decide) (Nat.le_of_ble_eq_true rfl) (y_byteAt (N := N) (a + i) hm hN hN4) ?_
    refine z_bipush d_X12_blanks_8 (by decide) ?_
    refine z_icmp_eq 26 d_X12_blanks_10 (by decide) (fun q1 => ?_) (fun q1 => ?_)
    · refine z_aload_n d_X12_blanks_26 rfl rfl ?_
      refine z_dup d_X12_blanks_27 rfl ?_
      refine z_getf (v := qI (((a + i) : Nat) : Int)) d_X12_blanks_28 fl_X12_150 rput_o rfl ?_
      refine z_iconst d_X12_blanks_31 (by decide) ?_
      refine z_iadd d_X12_blanks_32 (by omega) ?_
      refine z_putf (fs' := [qI (f 0), qI (f 1), qI (f 2), qI ((((a + i) : Nat) : Int) + 1), qI k, qI pl, qI (f 6), qI (f 7), qR (m + 1), qR (m + 2), qR (m + 3), qR (m + 4), qR (m + 5), qR (m + 6), qR (m + 7), qR (m + 8), qR (m + 9), qR (m + 10), qI (f 18), qI (f 19), qI (f 20), qR (m + 11), qR (m + 12), qR (m + 13), qR (m + 14), qI (f 25), qR (m + 15), qI (f 27), qR (m + 16), qR (m + 17), qR (m + 18), qR (m + 19), qR (m + 20), qR (m + 21), qR (m + 22), qR (m + 23), qR (m + 24), qI (f 37), qI (f 38), qI (f 39), qI (f 40), qR (m + 25), qR (m + 26), qR (m + 27), qR (m + 28), qR (m + 29), qR (m + 30), qR (m + 31), qI (f 48), qR (m + 32), qR (m + 33), qR (m + 34), qR (m + 35), qR (m + 36), qR (m + 37)]) d_X12_blanks_33 fp_X12_150 rput_o (fun _ => rfl) (fun _ => rfl) (Nat.le_of_ble_eq_true rfl) rfl ?_
      refine z_eq rfl rfl ((rput_sf (f' := qup (qup (qup (qup f 3 (((a + i) : Nat) : Int)) 4 k) 5 pl) 3 ((((a + i) : Nat) : Int) + 1)) rfl).trans (rput_cg ((qup_comm (by decide)).trans (congrArg (fun z => qup z 5 pl) ((qup_comm (by decide)).trans (congrArg (fun z => qup z 4 k) (qup_qup _ _ _ _))))) rfl)) ?_
      refine z_goto 0 d_X12_blanks_36 (by decide) ?_
      exact z_eq rfl rfl (rput_cg (qup_cg (v' := pl) (qup_cg (v' := k) (qup_cg (v' := (((a + (i + 1)) : Nat) : Int)) rfl (by omega)) rfl) rfl) rfl) (kki trivial)
    · refine z_aload_n d_X12_blanks_13 rfl rfl ?_
      refine z_aload_n d_X12_blanks_14 rfl rfl ?_
      refine z_getf (v := qI (((a + i) : Nat) : Int)) d_X12_blanks_15 fl_X12_150 rput_o rfl ?_
      refine z_cv (M1 := M_X12_byteAt) d_X12_blanks_18 lv_X12_153 k_X12_byteAt [qI (((a + i) : Nat) : Int)] rfl rfl rput_o ⟨_, _, rfl⟩ (Nat.le_of_ble_eq_true rfl) (by decide) (by decide) (Nat.le_of_ble_eq_true rfl) (y_byteAt (N := N) (a + i) hm hN hN4) ?_
      refine z_bipush d_X12_blanks_21 (by decide) ?_
      refine z_icmp_ne 39 d_X12_blanks_23 (by decide) (fun hc1 => absurd hc1 (by exact fun z => (hsp.2.1 i hii).elim q1 z)) (fun hc1 => ?_)
      refine z_aload_n d_X12_blanks_26 rfl rfl ?_
      refine z_dup d_X12_blanks_27 rfl ?_
      refine z_getf (v := qI (((a + i) : Nat) : Int)) d_X12_blanks_28 fl_X12_150 rput_o rfl ?_
      refine z_iconst d_X12_blanks_31 (by decide) ?_
      refine z_iadd d_X12_blanks_32 (by omega) ?_
      refine z_putf (fs' := [qI (f 0), qI (f 1), qI (f 2), qI ((((a + i) : Nat) : Int) + 1), qI k, qI pl, qI (f 6), qI (f 7), qR (m + 1), qR (m + 2), qR (m + 3), qR (m + 4), qR (m + 5), qR (m + 6), qR (m + 7), qR (m + 8), qR (m + 9), qR (m + 10), qI (f 18), qI (f 19), qI (f 20), qR (m + 11), qR (m + 12), qR (m + 13), qR (m + 14), qI (f 25), qR (m + 15), qI (f 27), qR (m + 16), qR (m + 17), qR (m + 18), qR (m + 19), qR (m + 20), qR (m + 21), qR (m + 22), qR (m + 23), qR (m + 24), qI (f 37), qI (f 38), qI (f 39), qI (f 40), qR (m + 25), qR (m + 26), qR (m + 27), qR (m + 28), qR (m + 29), qR (m + 30), qR (m + 31), qI (f 48), qR (m + 32), qR (m + 33), qR (m + 34), qR (m + 35), qR (m + 36), qR (m + 37)]) d_X12_blanks_33 fp_X12_150 rput_o (fun _ => rfl) (fun _ => rfl) (Nat.le_of_ble_eq_true rfl) rfl ?_
      refine z_eq rfl rfl ((rput_sf (f' := qup (qup (qup (qup f 3 (((a + i) : Nat) : Int)) 4 k) 5 pl) 3 ((((a + i) : Nat) : Int) + 1)) rfl).trans (rput_cg ((qup_comm (by decide)).trans (congrArg (fun z => qup z 5 pl) ((qup_comm (by decide)).trans (congrArg (fun z => qup z 4 k) (qup_qup _ _ _ _))))) rfl)) ?_
      refine z_goto 0 d_X12_blanks_36 (by decide) ?_
      exact z_eq rfl rfl (rput_cg (qup_cg (v' := pl) (qup_cg (v' := k) (qup_cg (v' := (((a + (i + 1)) : Nat) : Int)) rfl (by omega)) rfl) rfl) rfl) (kki trivial)
  · show qEx M_X12_blanks 0 [qR m] [] (rput h m (qup (qup (qup f 3 (((a + (rl isB (g 1) N a)) : Nat) : Int)) 4 k) 5 pl) g) r hr
    refine z_aload_n d_X12_blanks_0 rfl rfl ?_
    refine z_aload_n d_X12_blanks_1 rfl rfl ?_
    refine z_getf (v := qI (((a + (rl isB (g 1) N a)) : Nat) : Int)) d_X12_blanks_2 fl_X12_150 rput_o rfl ?_
    refine z_cv (M1 := M_X12_byteAt) d_X12_blanks_5 lv_X12_153 k_X12_byteAt [qI (((a + (rl isB (g 1) N a)) : Nat) : Int)] rfl rfl rput_o ⟨_, _, rfl⟩ (Nat.le_of_ble_eq_true rfl) (by decide) (by decide) (Nat.le_of_ble_eq_true rfl) (y_byteAt (N := N) (a + (rl isB (g 1) N a)) hm hN hN4) ?_
    refine z_bipush d_X12_blanks_8 (by decide) ?_
    refine z_icmp_eq 26 d_X12_blanks_10 (by decide) (fun q1 => absurd q1 (by exact fun z => hsp.2.2 (Or.inl z))) (fun q1 => ?_)
    refine z_aload_n d_X12_blanks_13 rfl rfl ?_
    refine z_aload_n d_X12_blanks_14 rfl rfl ?_
    refine z_getf (v := qI (((a + (rl isB (g 1) N a)) : Nat) : Int)) d_X12_blanks_15 fl_X12_150 rput_o rfl ?_
    refine z_cv (M1 := M_X12_byteAt) d_X12_blanks_18 lv_X12_153 k_X12_byteAt [qI (((a + (rl isB (g 1) N a)) : Nat) : Int)] rfl rfl rput_o ⟨_, _, rfl⟩ (Nat.le_of_ble_eq_true rfl) (by decide) (by decide) (Nat.le_of_ble_eq_true rfl) (y_byteAt (N := N) (a + (rl isB (g 1) N a)) hm hN hN4) ?_
    refine z_bipush d_X12_blanks_21 (by decide) ?_
    refine z_icmp_ne 39 d_X12_blanks_23 (by decide) (fun hc2 => ?_) (fun hc2 => absurd hc2 (by exact fun z => z (fun e => hsp.2.2 (Or.inr e))))
    exact z_vret d_X12_blanks_39 rfl er eh
set_option maxRecDepth 20000 in
set_option maxHeartbeats 4000000 in
theorem c_letters {h : qH} {m : Nat} {f : Nat → Int} {g : Nat → Nat → Int} {N a : Nat} {k pl : Int} (hm : 2 ≤ m) (hN : f 2 = (N : Int)) (hN4 : N ≤ 400) (ha : a ≤ N) : qEx M_X12_letters 0 [qR m, qU] [] (rput h m (qup (qup (qup f 3 (a : Int)) 4 k) 5 pl) g) (some (qI (((rl isL (g 1) N a) : Nat) : Int))) (rput h m (qup (qup (qup f 3 (a : Int)) 4 k) 5 pl) g) := by
  refine q_gen (fun r hr er eh => ?_)
  have hsp := rl_sp (Q := isL) (g 1) nL ha
  refine z_iconst d_X12_letters_0 (by decide) ?_
  refine z_istore_n (ls' := [qR m, qI 0]) d_X12_letters_1 rfl (by decide) rfl ?_
  refine z_eq (qc rfl (qc (qi (by omega)) rfl)) rfl rfl (z_for (rl isL (g 1) N a) (fun i => [qR m, qI (i : Int)]) (fun i => (rput h m (qup (qup (qup f 3 (a : Int)) 4 k) 5 pl) g)) (fun i => True) trivial (fun i hii hp kki => ?_) (fun hp => ?_))
  · show qEx M_X12_letters 2 [qR m, qI (i : Int)] [] (rput h m (qup (qup (qup f 3 (a : Int)) 4 k) 5 pl) g) r hr
    refine z_aload_n d_X12_letters_2 rfl rfl ?_
    refine z_aload_n d_X12_letters_3 rfl rfl ?_
    refine z_getf (v := qI (a : Int)) d_X12_letters_4 fl_X12_150 rput_o rfl ?_
    refine z_iload_n d_X12_letters_7 rfl rfl ?_
    refine z_iadd d_X12_letters_8 (by omega) ?_
    refine z_cv (M1 := M_X12_byteAt) d_X12_letters_9 lv_X12_153 k_X12_byteAt [qI ((a : Int) + (i : Int))] rfl rfl rput_o ⟨_, _, rfl⟩ (Nat.le_of_ble_eq_true rfl) (by decide) (by decide) (Nat.le_of_ble_eq_true rfl) (y_byteAt (N := N) (a + i) hm hN hN4) ?_
    refine z_cs (M1 := M_X12_isLetter) d_X12_letters_12 ls_X12_157 k_X12_isLetter [qI (bAt (g 1) N (a + i))] rfl rfl (Nat.le_of_ble_eq_true rfl) (by decide) (by decide) (Nat.le_of_ble_eq_true rfl) (c_isLetter2 (bAt (g 1) N (a + i))) ?_
    refine z_ifeqB 24 d_X12_letters_15 (by decide) (fun hc1 => absurd hc1 (by exact fun z => z (hsp.2.1 i hii))) (fun hc1 => ?_)
    refine z_iinc (ls' := [qR m, qI ((i : Int) + 1)]) d_X12_letters_18 rfl (by decide) (by omega) rfl ?_
    refine z_goto 2 d_X12_letters_21 (by decide) ?_
    exact z_eq (qc rfl (qc (qi (by omega)) rfl)) rfl rfl (kki trivial)
  · show qEx M_X12_letters 2 [qR m, qI (((rl isL (g 1) N a) : Nat) : Int)] [] (rput h m (qup (qup (qup f 3 (a : Int)) 4 k) 5 pl) g) r hr
    refine z_aload_n d_X12_letters_2 rfl rfl ?_
    refine z_aload_n d_X12_letters_3 rfl rfl ?_
    refine z_getf (v := qI (a : Int)) d_X12_letters_4 fl_X12_150 rput_o rfl ?_
    refine z_iload_n d_X12_letters_7 rfl rfl ?_
    refine z_iadd d_X12_letters_8 (by omega) ?_
    refine z_cv (M1 := M_X12_byteAt) d_X12_letters_9 lv_X12_153 k_X12_byteAt [qI ((a : Int) + (((rl isL (g 1) N a) : Nat) : Int))] rfl rfl rput_o ⟨_, _, rfl⟩ (Nat.le_of_ble_eq_true rfl) (by decide) (by decide) (Nat.le_of_ble_eq_true rfl) (y_byteAt (N := N) (a + (rl isL (g 1) N a)) hm hN hN4) ?_
    refine z_cs (M1 := M_X12_isLetter) d_X12_letters_12 ls_X12_157 k_X12_isLetter [qI (bAt (g 1) N (a + (rl isL (g 1) N a)))] rfl rfl (Nat.le_of_ble_eq_true rfl) (by decide) (by decide) (Nat.le_of_ble_eq_true rfl) (c_isLetter2 (bAt (g 1) N (a + (rl isL (g 1) N a)))) ?_
    refine z_ifeqB 24 d_X12_letters_15 (by decide) (fun hc2 => ?_) (fun hc2 => absurd hc2 (by exact hsp.2.2))
    refine z_iload_n d_X12_letters_24 rfl rfl ?_
    exact z_iret d_X12_letters_25 rfl er eh
set_option maxRecDepth 20000 in
set_option maxHeartbeats 4000000 in
theorem c_digits {h : qH} {m : Nat} {f : Nat → Int} {g : Nat → Nat → Int} {N a : Nat} {k pl : Int} (hm : 2 ≤ m) (hN : f 2 = (N : Int)) (hN4 : N ≤ 400) (ha : a ≤ N) : qEx M_X12_digits 0 [qR m, qU] [] (rput h m (qup (qup (qup f 3 (a : Int)) 4 k) 5 pl) g) (some (qI (((rl isD (g 1) N a) : Nat) : Int))) (rput h m (qup (qup (qup f 3 (a : Int)) 4 k) 5 pl) g) := by
  refine q_gen (fun r hr er eh => ?_)
  have hsp := rl_sp (Q := isD) (g 1) nD ha
  refine z_iconst d_X12_digits_0 (by decide) ?_
  refine z_istore_n (ls' := [qR m, qI 0]) d_X12_digits_1 rfl (by decide) rfl ?_
  refine z_eq (qc rfl (qc (qi (by omega)) rfl)) rfl rfl (z_for (rl isD (g 1) N a) (fun i => [qR m, qI (i : Int)]) (fun i => (rput h m (qup (qup (qup f 3 (a : Int)) 4 k) 5 pl) g)) (fun i => True) trivial (fun i hii hp kki => ?_) (fun hp => ?_))
  · show qEx M_X12_digits 2 [qR m, qI (i : Int)] [] (rput h m (qup (qup (qup f 3 (a : Int)) 4 k) 5 pl) g) r hr
    refine z_aload_n d_X12_digits_2 rfl rfl ?_
    refine z_aload_n d_X12_digits_3 rfl rfl ?_
    refine z_getf (v := qI (a : Int)) d_X12_digits_4 fl_X12_150 rput_o rfl ?_
    refine z_iload_n d_X12_digits_7 rfl rfl ?_
    refine z_iadd d_X12_digits_8 (by omega) ?_
    refine z_cv (M1 := M_X12_byteAt) d_X12_digits_9 lv_X12_153 k_X12_byteAt [qI ((a : Int) + (i : Int))] rfl rfl rput_o ⟨_, _, rfl⟩ (Nat.le_of_ble_eq_true rfl) (by decide) (by decide) (Nat.le_of_ble_eq_true rfl) (y_byteAt (N := N) (a + i) hm hN hN4) ?_
    refine z_cs (M1 := M_X12_isDigit) d_X12_digits_12 ls_X12_161 k_X12_isDigit [qI (bAt (g 1) N (a + i))] rfl rfl (Nat.le_of_ble_eq_true rfl) (by decide) (by decide) (Nat.le_of_ble_eq_true rfl) (c_isDigit2 (bAt (g 1) N (a + i))) ?_
    refine z_ifeqB 24 d_X12_digits_15 (by decide) (fun hc1 => absurd hc1 (by exact fun z => z (hsp.2.1 i hii))) (fun hc1 => ?_)
    refine z_iinc (ls' := [qR m, qI ((i : Int) + 1)]) d_X12_digits_18 rfl (by decide) (by omega) rfl ?_
    refine z_goto 2 d_X12_digits_21 (by decide) ?_
    exact z_eq (qc rfl (qc (qi (by omega)) rfl)) rfl rfl (kki trivial)
  · show qEx M_X12_digits 2 [qR m, qI (((rl isD (g 1) N a) : Nat) : Int)] [] (rput h m (qup (qup (qup f 3 (a : Int)) 4 k) 5 pl) g) r hr
    refine z_aload_n d_X12_digits_2 rfl rfl ?_
    refine z_aload_n d_X12_digits_3 rfl rfl ?_
    refine z_getf (v := qI (a : Int)) d_X12_digits_4 fl_X12_150 rput_o rfl ?_
    refine z_iload_n d_X12_digits_7 rfl rfl ?_
    refine z_iadd d_X12_digits_8 (by omega) ?_
    refine z_cv (M1 := M_X12_byteAt) d_X12_digits_9 lv_X12_153 k_X12_byteAt [qI ((a : Int) + (((rl isD (g 1) N a) : Nat) : Int))] rfl rfl rput_o ⟨_, _, rfl⟩ (Nat.le_of_ble_eq_true rfl) (by decide) (by decide) (Nat.le_of_ble_eq_true rfl) (y_byteAt (N := N) (a + (rl isD (g 1) N a)) hm hN hN4) ?_
    refine z_cs (M1 := M_X12_isDigit) d_X12_digits_12 ls_X12_161 k_X12_isDigit [qI (bAt (g 1) N (a + (rl isD (g 1) N a)))] rfl rfl (Nat.le_of_ble_eq_true rfl) (by decide) (by decide) (Nat.le_of_ble_eq_true rfl) (c_isDigit2 (bAt (g 1) N (a + (rl isD (g 1) N a)))) ?_
    refine z_ifeqB 24 d_X12_digits_15 (by decide) (fun hc2 => ?_) (fun hc2 => absurd hc2 (by exact hsp.2.2))
    refine z_iload_n d_X12_digits_24 rfl rfl ?_
    exact z_iret d_X12_digits_25 rfl er eh
set_option maxRecDepth 20000 in
set_option maxHeartbeats 4000000 in
theorem c_wordHere {h : qH} {m : Nat} {f : Nat → Int} {g : Nat → Nat → Int} {N a : Nat} {k pl : Int} (hm : 2 ≤ m) (hN : f 2 = (N : Int)) (hN4 : N ≤ 400) (ha : a ≤ N) : qEx M_X12_wordHere 0 [qR m, qU, qU, qU, qU, qU] [] (rput h m (qup (qup (qup f 3 (a : Int)) 4 k) 5 pl) g) (some (qL (wv (g 1) N (sk (g 1) N a)))) (rput h m (qup (qup (qup f 3 (((sk (g 1) N a) : Nat) : Int)) 4 k) 5 pl) g) := by
  refine q_gen (fun r hr er eh => ?_)
  have hp9 : (sk (g 1) N a) ≤ N := (sk_sp (g 1) ha).2.1
  have hsp := rl_sp (Q := isL) (g 1) nL hp9
  refine z_aload_n d_X12_wordHere_0 rfl rfl ?_
  refine z_cv0 (M1 := M_X12_blanks) d_X12_wordHere_1 lv_X12_164 k_X12_blanks [] rfl rfl rput_o ⟨_, _, rfl⟩ (Nat.le_of_ble_eq_true rfl) (by decide) (by decide) (Nat.le_of_ble_eq_true rfl) (c_blanks (N := N) (a := a) hm hN hN4 ha) ?_
  refine z_aload_n d_X12_wordHere_4 rfl rfl ?_
  refine z_cv (M1 := M_X12_letters) d_X12_wordHere_5 lv_X12_167 k_X12_letters [] rfl rfl rput_o ⟨_, _, rfl⟩ (Nat.le_of_ble_eq_true rfl) (by decide) (by decide) (Nat.le_of_ble_eq_true rfl) (c_letters (N := N) (a := (sk (g 1) N a)) hm hN hN4 hp9) ?_
  refine z_istore_n (ls' := [qR m, qI (((rl isL (g 1) N (sk (g 1) N a)) : Nat) : Int), qU, qU, qU, qU]) d_X12_wordHere_8 rfl (by decide) rfl ?_
  refine z_iload_n d_X12_wordHere_9 rfl rfl ?_
  refine z_bipush d_X12_wordHere_10 (by decide) ?_
  refine z_icmp_le 19 d_X12_wordHere_12 (by decide) (fun q1 => ?_) (fun q1 => ?_)
  · refine z_lconst d_X12_wordHere_19 (z := 0) (by decide) ?_
    refine z_lstore_n (ls' := [qR m, qI (((rl isL (g 1) N (sk (g 1) N a)) : Nat) : Int), qL 0, qU, qU, qU]) d_X12_wordHere_20 rfl (by decide) rfl ?_
    refine z_iconst d_X12_wordHere_21 (by decide) ?_
    refine z_istore (ls' := [qR m, qI (((rl isL (g 1) N (sk (g 1) N a)) : Nat) : Int), qL 0, qU, qI 0, qU]) d_X12_wordHere_22 (by decide) rfl ?_
    refine z_eq (qc rfl (qc rfl (qc (ql (rfl)) (qc rfl (qc (qi (by omega)) (qc rfl rfl)))))) rfl rfl (z_for (rl isL (g 1) N (sk (g 1) N a)) (fun i => [qR m, qI (((rl isL (g 1) N (sk (g 1) N a)) : Nat) : Int), qL (w27 (fun j9 => (g 1) ((sk (g 1) N a) + j9) - 96) i), qU, qI (i : Int), qU]) (fun i => (rput h m (qup (qup (qup f 3 (((sk (g 1) N a) : Nat) : Int)) 4 k) 5 pl) g)) (fun i => lowQ (g 1) (sk (g 1) N a) i) (fun j hj => absurd hj (by omega)) (fun i hii hp kki => ?_) (fun hp => ?_))
    · show qEx M_X12_wordHere 24 [qR m, qI (((rl isL (g 1) N (sk (g 1) N a)) : Nat) : Int), qL (w27 (fun j9 => (g 1) ((sk (g 1) N a) + j9) - 96) i), qU, qI (i : Int), qU] [] (rput h m (qup (qup (qup f 3 (((sk (g 1) N a) : Nat) : Int)) 4 k) 5 pl) g) r hr
      refine z_iload d_X12_wordHere_24 rfl ?_
      refine z_iload_n d_X12_wordHere_26 rfl rfl ?_
      refine z_icmp_ge 81 d_X12_wordHere_27 (by decide) (fun hc1 => absurd hc1 (by omega)) (fun hc1 => ?_)
      refine z_aload_n d_X12_wordHere_30 rfl rfl ?_
      refine z_aload_n d_X12_wordHere_31 rfl rfl ?_
      refine z_getf (v := qI (((sk (g 1) N a) : Nat) : Int)) d_X12_wordHere_32 fl_X12_150 rput_o rfl ?_
      refine z_iload d_X12_wordHere_35 rfl ?_
      refine z_iadd d_X12_wordHere_37 (by omega) ?_
      refine z_cv (M1 := M_X12_byteAt) d_X12_wordHere_38 lv_X12_153 k_X12_byteAt [qI ((((sk (g 1) N a) : Nat) : Int) + (i : Int))] rfl rfl rput_o ⟨_, _, rfl⟩ (Nat.le_of_ble_eq_true rfl) (by decide) (by decide) (Nat.le_of_ble_eq_true rfl) (y_byteAt (N := N) ((sk (g 1) N a) + i) hm hN hN4) ?_
      refine z_eq rfl (qc (qi (show (bAt (g 1) N ((sk (g 1) N a) + i)) = ((g 1) ((sk (g 1) N a) + i)) from bAt_lt (by omega))) rfl) rfl ?_
      refine z_istore (ls' := [qR m, qI (((rl isL (g 1) N (sk (g 1) N a)) : Nat) : Int), qL (w27 (fun j9 => (g 1) ((sk (g 1) N a) + j9) - 96) i), qU, qI (i : Int), qI ((g 1) ((sk (g 1) N a) + i))]) d_X12_wordHere_41 (by decide) rfl ?_
      refine z_iload d_X12_wordHere_43 rfl ?_
      refine z_bipush d_X12_wordHere_45 (by decide) ?_
      refine z_bipush d_X12_wordHere_47 (by decide) ?_
      refine z_cs (M1 := M_X12_in) d_X12_wordHere_49 ls_X12_137 k_X12_in [qI ((g 1) ((sk (g 1) N a) + i)), qI 97, qI 122] rfl rfl (Nat.le_of_ble_eq_true rfl) (by decide) (by decide) (Nat.le_of_ble_eq_true rfl) (c_in ((g 1) ((sk (g 1) N a) + i)) 97 122) ?_
      refine z_ifneB 59 d_X12_wordHere_52 (by decide) (fun q2 => ?_) (fun q2 => ?_)
      · have hwb := w27_bd6 (D := (fun j9 => (g 1) ((sk (g 1) N a) + j9) - 96)) (n := i) (by omega) (fun j hj => by have := hp j hj; exact ⟨by omega, by omega⟩)
        refine z_ldc2 (n := 27) d_X12_wordHere_59 cq_X12_173 (by decide) (by decide) ?_
        refine z_lload_n d_X12_wordHere_62 rfl rfl ?_
        refine z_lmul d_X12_wordHere_63 (by omega) ?_
        refine z_iload d_X12_wordHere_64 rfl ?_
        refine z_i2l d_X12_wordHere_66 ?_
        refine z_ladd d_X12_wordHere_67 (by omega) ?_
        refine z_ldc2 (n := 97) d_X12_wordHere_68 cq_X12_175 (by decide) (by decide) ?_
        refine z_lsub d_X12_wordHere_71 (by omega) ?_
        refine z_lconst d_X12_wordHere_72 (z := 1) (by decide) ?_
        refine z_ladd d_X12_wordHere_73 (by omega) ?_
        refine z_lstore_n (ls' := [qR m, qI (((rl isL (g 1) N (sk (g 1) N a)) : Nat) : Int), qL ((((27 * (w27 (fun j9 => (g 1) ((sk (g 1) N a) + j9) - 96) i)) + ((g 1) ((sk (g 1) N a) + i))) - 97) + 1), qU, qI (i : Int), qI ((g 1) ((sk (g 1) N a) + i))]) d_X12_wordHere_74 rfl (by decide) rfl ?_
        refine z_iinc (ls' := [qR m, qI (((rl isL (g 1) N (sk (g 1) N a)) : Nat) : Int), qL ((((27 * (w27 (fun j9 => (g 1) ((sk (g 1) N a) + j9) - 96) i)) + ((g 1) ((sk (g 1) N a) + i))) - 97) + 1), qU, qI ((i : Int) + 1), qI ((g 1) ((sk (g 1) N a) + i))]) d_X12_wordHere_75 rfl (by decide) (by omega) rfl ?_
        refine z_goto 24 d_X12_wordHere_78 (by decide) ?_
        exact z_dr (qle_k rfl (qle_k rfl (qle_k (ql (by show _ = 27 * w27 (fun j9 => (g 1) ((sk (g 1) N a) + j9) - 96) i + ((g 1) ((sk (g 1) N a) + i) - 96); omega)) (qle_k rfl (qle_k (qi (by omega)) (qle_d qle_n)))))) rfl rfl (kki (q_lts hp q2))
      · refine z_ldc2 (n := -1) d_X12_wordHere_55 cq_X12_171 (by decide) (by decide) ?_
        exact z_lret d_X12_wordHere_58 rfl (qel er (qif_f (fun z => q2 (z.2 i hii)))) eh
    · show qEx M_X12_wordHere 24 [qR m, qI (((rl isL (g 1) N (sk (g 1) N a)) : Nat) : Int), qL (w27 (fun j9 => (g 1) ((sk (g 1) N a) + j9) - 96) (rl isL (g 1) N (sk (g 1) N a))), qU, qI (((rl isL (g 1) N (sk (g 1) N a)) : Nat) : Int), qU] [] (rput h m (qup (qup (qup f 3 (((sk (g 1) N a) : Nat) : Int)) 4 k) 5 pl) g) r hr
      refine z_iload d_X12_wordHere_24 rfl ?_
      refine z_iload_n d_X12_wordHere_26 rfl rfl ?_
      refine z_icmp_ge 81 d_X12_wordHere_27 (by decide) (fun hc2 => ?_) (fun hc2 => absurd hc2 (by omega))
      refine z_lload_n d_X12_wordHere_81 rfl rfl ?_
      exact z_lret d_X12_wordHere_82 rfl (qel er (qif_t ⟨by omega, hp⟩)) eh
  · refine z_ldc2 (n := -1) d_X12_wordHere_15 cq_X12_171 (by decide) (by decide) ?_
    exact z_lret d_X12_wordHere_18 rfl (qel er (qif_f (fun z => by omega))) eh
set_option maxRecDepth 20000 in
set_option maxHeartbeats 4000000 in
theorem c_wordOf {h : qH} (x1 x2 x3 x4 x5 x6 : Int) (hx1 : 0 ≤ x1 ∧ x1 ≤ 26) (hx2 : 0 ≤ x2 ∧ x2 ≤ 26) (hx3 : 0 ≤ x3 ∧ x3 ≤ 26) (hx4 : 0 ≤ x4 ∧ x4 ≤ 26) (hx5 : 0 ≤ x5 ∧ x5 ≤ 26) (hx6 : 0 ≤ x6 ∧ x6 ≤ 26) : qEx M_X12_wordOf 0 [qI x1, qI x2, qI x3, qI x4, qI x5, qI x6, qU, qU] [] h (some (qL (wof x1 x2 x3 x4 x5 x6))) h := by
  refine q_gen (fun r hr er eh => ?_)
  refine z_ldc2 (n := 27) d_X12_wordOf_0 cq_X12_173 (by decide) (by decide) ?_
  refine z_iload_n d_X12_wordOf_3 rfl rfl ?_
  refine z_i2l d_X12_wordOf_4 ?_
  refine z_lmul d_X12_wordOf_5 (by omega) ?_
  refine z_iload_n d_X12_wordOf_6 rfl rfl ?_
  refine z_i2l d_X12_wordOf_7 ?_
  refine z_ladd d_X12_wordOf_8 (by omega) ?_
  refine z_lstore (ls' := [qI x1, qI x2, qI x3, qI x4, qI x5, qI x6, qL ((27 * x1) + x2), qU]) d_X12_wordOf_9 (by decide) rfl ?_
  refine z_iload_n d_X12_wordOf_11 rfl rfl ?_
  refine z_if_ne 20 d_X12_wordOf_12 (by decide) (fun hc1 => ?_) (fun hc1 => ?_)
  · refine z_ldc2 (n := 27) d_X12_wordOf_20 cq_X12_173 (by decide) (by decide) ?_
    refine z_lload d_X12_wordOf_23 rfl ?_
    refine z_lmul d_X12_wordOf_25 (by omega) ?_
    refine z_iload_n d_X12_wordOf_26 rfl rfl ?_
    refine z_i2l d_X12_wordOf_27 ?_
    refine z_ladd d_X12_wordOf_28 (by omega) ?_
    refine z_lstore (ls' := [qI x1, qI x2, qI x3, qI x4, qI x5, qI x6, qL ((27 * ((27 * x1) + x2)) + x3), qU]) d_X12_wordOf_29 (by decide) rfl ?_
    refine z_iload_n d_X12_wordOf_31 rfl rfl ?_
    refine z_if_ne 40 d_X12_wordOf_32 (by decide) (fun hc2 => ?_) (fun hc2 => ?_)
    · refine z_ldc2 (n := 27) d_X12_wordOf_40 cq_X12_173 (by decide) (by decide) ?_
      refine z_lload d_X12_wordOf_43 rfl ?_
      refine z_lmul d_X12_wordOf_45 (by omega) ?_
      refine z_iload_n d_X12_wordOf_46 rfl rfl ?_
      refine z_i2l d_X12_wordOf_47 ?_
      refine z_ladd d_X12_wordOf_48 (by omega) ?_
      refine z_lstore (ls' := [qI x1, qI x2, qI x3, qI x4, qI x5, qI x6, qL ((27 * ((27 * ((27 * x1) + x2)) + x3)) + x4), qU]) d_X12_wordOf_49 (by decide) rfl ?_
      refine z_iload d_X12_wordOf_51 rfl ?_
      refine z_if_ne 61 d_X12_wordOf_53 (by decide) (fun hc3 => ?_) (fun hc3 => ?_)
      · refine z_ldc2 (n := 27) d_X12_wordOf_61 cq_X12_173 (by decide) (by decide) ?_
        refine z_lload d_X12_wordOf_64 rfl ?_
        refine z_lmul d_X12_wordOf_66 (by omega) ?_
        refine z_iload d_X12_wordOf_67 rfl ?_
        refine z_i2l d_X12_wordOf_69 ?_
        refine z_ladd d_X12_wordOf_70 (by omega) ?_
        refine z_lstore (ls' := [qI x1, qI x2, qI x3, qI x4, qI x5, qI x6, qL ((27 * ((27 * ((27 * ((27 * x1) + x2)) + x3)) + x4)) + x5), qU]) d_X12_wordOf_71 (by decide) rfl ?_
        refine z_iload d_X12_wordOf_73 rfl ?_
        refine z_if_ne 83 d_X12_wordOf_75 (by decide) (fun hc4 => ?_) (fun hc4 => ?_)
        · refine z_ldc2 (n := 27) d_X12_wordOf_83 cq_X12_173 (by decide) (by decide) ?_
          refine z_lload d_X12_wordOf_86 rfl ?_
          refine z_lmul d_X12_wordOf_88 (by omega) ?_
          refine z_iload d_X12_wordOf_89 rfl ?_
          refine z_i2l d_X12_wordOf_91 ?_
          refine z_ladd d_X12_wordOf_92 (by omega) ?_
          exact z_lret d_X12_wordOf_93 rfl (qel er (by unfold wof; repeat first | rw [if_pos (by assumption)] | rw [if_neg (by assumption)])) eh
        · refine z_lload d_X12_wordOf_78 rfl ?_
          refine z_goto 93 d_X12_wordOf_80 (by decide) ?_
          exact z_lret d_X12_wordOf_93 rfl (qel er (by unfold wof; repeat first | rw [if_pos (by assumption)] | rw [if_neg (by assumption)])) eh
      · refine z_lload d_X12_wordOf_56 rfl ?_
        refine z_goto 71 d_X12_wordOf_58 (by decide) ?_
        refine z_lstore (ls' := [qI x1, qI x2, qI x3, qI x4, qI x5, qI x6, qL ((27 * ((27 * ((27 * x1) + x2)) + x3)) + x4), qU]) d_X12_wordOf_71 (by decide) rfl ?_
        refine z_iload d_X12_wordOf_73 rfl ?_
        refine z_if_ne 83 d_X12_wordOf_75 (by decide) (fun hc5 => ?_) (fun hc5 => ?_)
        · refine z_ldc2 (n := 27) d_X12_wordOf_83 cq_X12_173 (by decide) (by decide) ?_
          refine z_lload d_X12_wordOf_86 rfl ?_
          refine z_lmul d_X12_wordOf_88 (by omega) ?_
          refine z_iload d_X12_wordOf_89 rfl ?_
          refine z_i2l d_X12_wordOf_91 ?_
          refine z_ladd d_X12_wordOf_92 (by omega) ?_
          exact z_lret d_X12_wordOf_93 rfl (qel er (by unfold wof; repeat first | rw [if_pos (by assumption)] | rw [if_neg (by assumption)])) eh
        · refine z_lload d_X12_wordOf_78 rfl ?_
          refine z_goto 93 d_X12_wordOf_80 (by decide) ?_
          exact z_lret d_X12_wordOf_93 rfl (qel er (by unfold wof; repeat first | rw [if_pos (by assumption)] | rw [if_neg (by assumption)])) eh
    · refine z_lload d_X12_wordOf_35 rfl ?_
      refine z_goto 49 d_X12_wordOf_37 (by decide) ?_
      refine z_lstore (ls' := [qI x1, qI x2, qI x3, qI x4, qI x5, qI x6, qL ((27 * ((27 * x1) + x2)) + x3), qU]) d_X12_wordOf_49 (by decide) rfl ?_
      refine z_iload d_X12_wordOf_51 rfl ?_
      refine z_if_ne 61 d_X12_wordOf_53 (by decide) (fun hc6 => ?_) (fun hc6 => ?_)
      · refine z_ldc2 (n := 27) d_X12_wordOf_61 cq_X12_173 (by decide) (by decide) ?_
        refine z_lload d_X12_wordOf_64 rfl ?_
        refine z_lmul d_X12_wordOf_66 (by omega) ?_
        refine z_iload d_X12_wordOf_67 rfl ?_
        refine z_i2l d_X12_wordOf_69 ?_
        refine z_ladd d_X12_wordOf_70 (by omega) ?_
        refine z_lstore (ls' := [qI x1, qI x2, qI x3, qI x4, qI x5, qI x6, qL ((27 * ((27 * ((27 * x1) + x2)) + x3)) + x5), qU]) d_X12_wordOf_71 (by decide) rfl ?_
        refine z_iload d_X12_wordOf_73 rfl ?_
        refine z_if_ne 83 d_X12_wordOf_75 (by decide) (fun hc7 => ?_) (fun hc7 => ?_)
        · refine z_ldc2 (n := 27) d_X12_wordOf_83 cq_X12_173 (by decide) (by decide) ?_
          refine z_lload d_X12_wordOf_86 rfl ?_
          refine z_lmul d_X12_wordOf_88 (by omega) ?_
          refine z_iload d_X12_wordOf_89 rfl ?_
          refine z_i2l d_X12_wordOf_91 ?_
          refine z_ladd d_X12_wordOf_92 (by omega) ?_
          exact z_lret d_X12_wordOf_93 rfl (qel er (by unfold wof; repeat first | rw [if_pos (by assumption)] | rw [if_neg (by assumption)])) eh
        · refine z_lload d_X12_wordOf_78 rfl ?_
          refine z_goto 93 d_X12_wordOf_80 (by decide) ?_
          exact z_lret d_X12_wordOf_93 rfl (qel er (by unfold wof; repeat first | rw [if_pos (by assumption)] | rw [if_neg (by assumption)])) eh
      · refine z_lload d_X12_wordOf_56 rfl ?_
        refine z_goto 71 d_X12_wordOf_58 (by decide) ?_
        refine z_lstore (ls' := [qI x1, qI x2, qI x3, qI x4, qI x5, qI x6, qL ((27 * ((27 * x1) + x2)) + x3), qU]) d_X12_wordOf_71 (by decide) rfl ?_
        refine z_iload d_X12_wordOf_73 rfl ?_
        refine z_if_ne 83 d_X12_wordOf_75 (by decide) (fun hc8 => ?_) (fun hc8 => ?_)
        · refine z_ldc2 (n := 27) d_X12_wordOf_83 cq_X12_173 (by decide) (by decide) ?_
          refine z_lload d_X12_wordOf_86 rfl ?_
          refine z_lmul d_X12_wordOf_88 (by omega) ?_
          refine z_iload d_X12_wordOf_89 rfl ?_
          refine z_i2l d_X12_wordOf_91 ?_
          refine z_ladd d_X12_wordOf_92 (by omega) ?_
          exact z_lret d_X12_wordOf_93 rfl (qel er (by unfold wof; repeat first | rw [if_pos (by assumption)] | rw [if_neg (by assumption)])) eh
        · refine z_lload d_X12_wordOf_78 rfl ?_
          refine z_goto 93 d_X12_wordOf_80 (by decide) ?_
          exact z_lret d_X12_wordOf_93 rfl (qel er (by unfold wof; repeat first | rw [if_pos (by assumption)] | rw [if_neg (by assumption)])) eh
  · refine z_lload d_X12_wordOf_15 rfl ?_
    refine z_goto 29 d_X12_wordOf_17 (by decide) ?_
    refine z_lstore (ls' := [qI x1, qI x2, qI x3, qI x4, qI x5, qI x6, qL ((27 * x1) + x2), qU]) d_X12_wordOf_29 (by decide) rfl ?_
    refine z_iload_n d_X12_wordOf_31 rfl rfl ?_
    refine z_if_ne 40 d_X12_wordOf_32 (by decide) (fun hc9 => ?_) (fun hc9 => ?_)
    · refine z_ldc2 (n := 27) d_X12_wordOf_40 cq_X12_173 (by decide) (by decide) ?_
      refine z_lload d_X12_wordOf_43 rfl ?_
      refine z_lmul d_X12_wordOf_45 (by omega) ?_
      refine z_iload_n d_X12_wordOf_46 rfl rfl ?_
      refine z_i2l d_X12_wordOf_47 ?_
      refine z_ladd d_X12_wordOf_48 (by omega) ?_
      refine z_lstore (ls' := [qI x1, qI x2, qI x3, qI x4, qI x5, qI x6, qL ((27 * ((27 * x1) + x2)) + x4), qU]) d_X12_wordOf_49 (by decide) rfl ?_
      refine z_iload d_X12_wordOf_51 rfl ?_
      refine z_if_ne 61 d_X12_wordOf_53 (by decide) (fun hc10 => ?_) (fun hc10 => ?_)
      · refine z_ldc2 (n := 27) d_X12_wordOf_61 cq_X12_173 (by decide) (by decide) ?_
        refine z_lload d_X12_wordOf_64 rfl ?_
        refine z_lmul d_X12_wordOf_66 (by omega) ?_
        refine z_iload d_X12_wordOf_67 rfl ?_
        refine z_i2l d_X12_wordOf_69 ?_
        refine z_ladd d_X12_wordOf_70 (by omega) ?_
        refine z_lstore (ls' := [qI x1, qI x2, qI x3, qI x4, qI x5, qI x6, qL ((27 * ((27 * ((27 * x1) + x2)) + x4)) + x5), qU]) d_X12_wordOf_71 (by decide) rfl ?_
        refine z_iload d_X12_wordOf_73 rfl ?_
        refine z_if_ne 83 d_X12_wordOf_75 (by decide) (fun hc11 => ?_) (fun hc11 => ?_)
        · refine z_ldc2 (n := 27) d_X12_wordOf_83 cq_X12_173 (by decide) (by decide) ?_
          refine z_lload d_X12_wordOf_86 rfl ?_
          refine z_lmul d_X12_wordOf_88 (by omega) ?_
          refine z_iload d_X12_wordOf_89 rfl ?_
          refine z_i2l d_X12_wordOf_91 ?_
          refine z_ladd d_X12_wordOf_92 (by omega) ?_
          exact z_lret d_X12_wordOf_93 rfl (qel er (by unfold wof; repeat first | rw [if_pos (by assumption)] | rw [if_neg (by assumption)])) eh
        · refine z_lload d_X12_wordOf_78 rfl ?_
          refine z_goto 93 d_X12_wordOf_80 (by decide) ?_
          exact z_lret d_X12_wordOf_93 rfl (qel er (by unfold wof; repeat first | rw [if_pos (by assumption)] | rw [if_neg (by assumption)])) eh
      · refine z_lload d_X12_wordOf_56 rfl ?_
        refine z_goto 71 d_X12_wordOf_58 (by decide) ?_
        refine z_lstore (ls' := [qI x1, qI x2, qI x3, qI x4, qI x5, qI x6, qL ((27 * ((27 * x1) + x2)) + x4), qU]) d_X12_wordOf_71 (by decide) rfl ?_
        refine z_iload d_X12_wordOf_73 rfl ?_
        refine z_if_ne 83 d_X12_wordOf_75 (by decide) (fun hc12 => ?_) (fun hc12 => ?_)
        · refine z_ldc2 (n := 27) d_X12_wordOf_83 cq_X12_173 (by decide) (by decide) ?_
          refine z_lload d_X12_wordOf_86 rfl ?_
          refine z_lmul d_X12_wordOf_88 (by omega) ?_
          refine z_iload d_X12_wordOf_89 rfl ?_
          refine z_i2l d_X12_wordOf_91 ?_
          refine z_ladd d_X12_wordOf_92 (by omega) ?_
          exact z_lret d_X12_wordOf_93 rfl (qel er (by unfold wof; repeat first | rw [if_pos (by assumption)] | rw [if_neg (by assumption)])) eh
        · refine z_lload d_X12_wordOf_78 rfl ?_
          refine z_goto 93 d_X12_wordOf_80 (by decide) ?_
          exact z_lret d_X12_wordOf_93 rfl (qel er (by unfold wof; repeat first | rw [if_pos (by assumption)] | rw [if_neg (by assumption)])) eh
    · refine z_lload d_X12_wordOf_35 rfl ?_
      refine z_goto 49 d_X12_wordOf_37 (by decide) ?_
      refine z_lstore (ls' := [qI x1, qI x2, qI x3, qI x4, qI x5, qI x6, qL ((27 * x1) + x2), qU]) d_X12_wordOf_49 (by decide) rfl ?_
      refine z_iload d_X12_wordOf_51 rfl ?_
      refine z_if_ne 61 d_X12_wordOf_53 (by decide) (fun hc13 => ?_) (fun hc13 => ?_)
      · refine z_ldc2 (n := 27) d_X12_wordOf_61 cq_X12_173 (by decide) (by decide) ?_
        refine z_lload d_X12_wordOf_64 rfl ?_
        refine z_lmul d_X12_wordOf_66 (by omega) ?_
        refine z_iload d_X12_wordOf_67 rfl ?_
        refine z_i2l d_X12_wordOf_69 ?_
        refine z_ladd d_X12_wordOf_70 (by omega) ?_
        refine z_lstore (ls' := [qI x1, qI x2, qI x3, qI x4, qI x5, qI x6, qL ((27 * ((27 * x1) + x2)) + x5), qU]) d_X12_wordOf_71 (by decide) rfl ?_
        refine z_iload d_X12_wordOf_73 rfl ?_
        refine z_if_ne 83 d_X12_wordOf_75 (by decide) (fun hc14 => ?_) (fun hc14 => ?_)
        · refine z_ldc2 (n := 27) d_X12_wordOf_83 cq_X12_173 (by decide) (by decide) ?_
          refine z_lload d_X12_wordOf_86 rfl ?_
          refine z_lmul d_X12_wordOf_88 (by omega) ?_
          refine z_iload d_X12_wordOf_89 rfl ?_
          refine z_i2l d_X12_wordOf_91 ?_
          refine z_ladd d_X12_wordOf_92 (by omega) ?_
          exact z_lret d_X12_wordOf_93 rfl (qel er (by unfold wof; repeat first | rw [if_pos (by assumption)] | rw [if_neg (by assumption)])) eh
        · refine z_lload d_X12_wordOf_78 rfl ?_
          refine z_goto 93 d_X12_wordOf_80 (by decide) ?_
          exact z_lret d_X12_wordOf_93 rfl (qel er (by unfold wof; repeat first | rw [if_pos (by assumption)] | rw [if_neg (by assumption)])) eh
      · refine z_lload d_X12_wordOf_56 rfl ?_
        refine z_goto 71 d_X12_wordOf_58 (by decide) ?_
        refine z_lstore (ls' := [qI x1, qI x2, qI x3, qI x4, qI x5, qI x6, qL ((27 * x1) + x2), qU]) d_X12_wordOf_71 (by decide) rfl ?_
        refine z_iload d_X12_wordOf_73 rfl ?_
        refine z_if_ne 83 d_X12_wordOf_75 (by decide) (fun hc15 => ?_) (fun hc15 => ?_)
        · refine z_ldc2 (n := 27) d_X12_wordOf_83 cq_X12_173 (by decide) (by decide) ?_
          refine z_lload d_X12_wordOf_86 rfl ?_
          refine z_lmul d_X12_wordOf_88 (by omega) ?_
          refine z_iload d_X12_wordOf_89 rfl ?_
          refine z_i2l d_X12_wordOf_91 ?_
          refine z_ladd d_X12_wordOf_92 (by omega) ?_
          exact z_lret d_X12_wordOf_93 rfl (qel er (by unfold wof; repeat first | rw [if_pos (by assumption)] | rw [if_neg (by assumption)])) eh
        · refine z_lload d_X12_wordOf_78 rfl ?_
          refine z_goto 93 d_X12_wordOf_80 (by decide) ?_
          exact z_lret d_X12_wordOf_93 rfl (qel er (by unfold wof; repeat first | rw [if_pos (by assumption)] | rw [if_neg (by assumption)])) eh
set_option maxRecDepth 20000 in
set_option maxHeartbeats 4000000 in
theorem c_isWord {h : qH} {m : Nat} {f : Nat → Int} {g : Nat → Nat → Int} {N a : Nat} {k pl : Int} (w : Nat) (x1 x2 x3 x4 x5 x6 : Int) (hm : 2 ≤ m) (hN : f 2 = (N : Int)) (hN4 : N ≤ 400) (ha : a ≤ N) (hw : w < 13) (hx : wof x1 x2 x3 x4 x5 x6 = wK w) (hx1 : 0 ≤ x1 ∧ x1 ≤ 26) (hx2 : 0 ≤ x2 ∧ x2 ≤ 26) (hx3 : 0 ≤ x3 ∧ x3 ≤ 26) (hx4 : 0 ≤ x4 ∧ x4 ≤ 26) (hx5 : 0 ≤ x5 ∧ x5 ≤ 26) (hx6 : 0 ≤ x6 ∧ x6 ≤ 26) : qEx M_X12_isWord 0 [qR m, qI x1, qI x2, qI x3, qI x4, qI x5, qI x6] [] (rput h m (qup (qup (qup f 3 (a : Int)) 4 k) 5 pl) g) (some (qI (qb (kd (g 1) N (sk (g 1) N a) = 6 + (w : Int))))) (rput h m (qup (qup (qup f 3 (((sk (g 1) N a) : Nat) : Int)) 4 k) 5 pl) g) := by
  refine q_gen (fun r hr er eh => ?_)
  have hp9 : (sk (g 1) N a) ≤ N := (sk_sp (g 1) ha).2.1
  refine z_aload_n d_X12_isWord_0 rfl rfl ?_
  refine z_cv (M1 := M_X12_wordHere) d_X12_isWord_1 lv_X12_177 k_X12_wordHere [] rfl rfl rput_o ⟨_, _, rfl⟩ (Nat.le_of_ble_eq_true rfl) (by decide) (by decide) (Nat.le_of_ble_eq_true rfl) (c_wordHere (N := N) (a := a) hm hN hN4 ha) ?_
  refine z_iload_n d_X12_isWord_4 rfl rfl ?_
  refine z_iload_n d_X12_isWord_5 rfl rfl ?_
  refine z_iload_n d_X12_isWord_6 rfl rfl ?_
  refine z_iload d_X12_isWord_7 rfl ?_
  refine z_iload d_X12_isWord_9 rfl ?_
  refine z_iload d_X12_isWord_11 rfl ?_
  refine z_cs (M1 := M_X12_wordOf) d_X12_isWord_13 ls_X12_181 k_X12_wordOf [qI x1, qI x2, qI x3, qI x4, qI x5, qI x6] rfl rfl (Nat.le_of_ble_eq_true rfl) (by decide) (by decide) (Nat.le_of_ble_eq_true rfl) (c_wordOf x1 x2 x3 x4 x5 x6 hx1 hx2 hx3 hx4 hx5 hx6) ?_
  refine z_lcmp d_X12_isWord_16 ?_
  suffices kJ17 : qEx M_X12_isWord 25 [qR m, qI x1, qI x2, qI x3, qI x4, qI x5, qI x6] [qI (qb ((if (wv (g 1) N (sk (g 1) N a)) > (wof x1 x2 x3 x4 x5 x6) then 1 else if (wv (g 1) N (sk (g 1) N a)) = (wof x1 x2 x3 x4 x5 x6) then 0 else -1) = 0))] (rput h m (qup (qup (qup f 3 (((sk (g 1) N a) : Nat) : Int)) 4 k) 5 pl) g) r hr by
    refine z_if_ne 24 d_X12_isWord_17 (by decide) (fun hc1 => ?_) (fun hc1 => ?_)
    · refine z_iconst d_X12_isWord_24 (by decide) ?_
      exact z_eq rfl (qc (qi (qb_f (by omega)).symm) rfl) rfl kJ17
    · refine z_iconst d_X12_isWord_20 (by decide) ?_
      refine z_goto 25 d_X12_isWord_21 (by decide) ?_
      exact z_eq rfl (qc (qi (qb_t (by omega)).symm) rfl) rfl kJ17
  exact z_zret d_X12_isWord_25 rfl (by first | exact qb_01 _ | decide | omega) (qer er (qb_congr (by rw [← wv_iff hp9 hw, ← hx]; exact ⟨fun e => lc_rf e, fun e => lc_eq e⟩))) eh
abbrev pS : Type := Nat × Int × Int
section ReadWords
variable (B : Nat → Int) (N : Nat)
noncomputable def skS (s : pS) : pS := (sk B N s.1, s.2)
def wrS (k p : Int) (s : pS) : pS := if s.2.1 = 0 then (s.1, k, p) else s
def tkQ (W : Int) (s : pS) : Prop := s.2.1 = 0 ∧ kd B N (sk B N s.1) = W
noncomputable def tkS (W : Int) (s : pS) : pS := qif (s.2.1 ≠ 0) s (qif (kd B N (sk B N s.1) = W) (en B N (sk B N s.1), s.2) (sk B N s.1, s.2))
noncomputable def nuS (lo hi : Int) (s : pS) : pS := qif (s.2.1 ≠ 0) s (qif (kd B N (sk B N s.1) = 2) (qif (lo ≤ vl B N (sk B N s.1) ∧ vl B N (sk B N s.1) ≤ hi) (en B N (sk B N s.1), s.2) (sk B N s.1, 2, ((sk B N s.1 : Nat) : Int))) (sk B N s.1, 1, ((sk B N s.1 : Nat) : Int)))
noncomputable def nuV (s : pS) : Int := qif (s.2.1 ≠ 0) 0 (qif (kd B N (sk B N s.1) = 2) (vl B N (sk B N s.1)) 0)
noncomputable def gnS (c : Int) (s : pS) : pS := qif (s.2.1 ≠ 0) s (qif (bAt B N (sk B N s.1) = c) (sk B N s.1 + 1, s.2) (sk B N s.1, 1, ((sk B N s.1 : Nat) : Int)))
end ReadWords
theorem vl_bd {B : Nat → Int} {N p : Nat} (hp : p ≤ N) (h : kd B N p = 2) : 0 ≤ vl B N p ∧ vl B N p ≤ 9999 := by
  have h2 := (kd_2 hp).mp h
  have h3 := rl_sp (Q := isD) B nD hp
  exact vlF_bd4 h2.2 (fun j hj => by have := h3.2.1 j hj; rwa [bAt_lt (by omega)] at this)
theorem tkS_le {B : Nat → Int} {N : Nat} {W : Int} {s : pS} (hW : 6 ≤ W) (h : s.1 ≤ N) : (tkS B N W s).1 ≤ N := by
  have h1 := sk_sp B h
  unfold tkS
  by_cases c : s.2.1 ≠ 0
  · rw [qif_t c]; exact h
  · rw [qif_f c]
    by_cases d : kd B N (sk B N s.1) = W
    · rw [qif_t d]
      have : sk B N s.1 < N := by
        rcases Nat.lt_or_ge (sk B N s.1) N with q | q
        · exact q
        · have := (kd_0 (B := B)).mpr q; omega
      exact (en_sp this).2
    · rw [qif_f d]; exact h1.2.1
theorem nuS_le {B : Nat → Int} {N : Nat} {lo hi : Int} {s : pS} (h : s.1 ≤ N) : (nuS B N lo hi s).1 ≤ N := by
  have h1 := sk_sp B h
  unfold nuS
  by_cases c : s.2.1 ≠ 0
  · rw [qif_t c]; exact h
  · rw [qif_f c]
    by_cases d : kd B N (sk B N s.1) = 2
    · rw [qif_t d]
      by_cases e : lo ≤ vl B N (sk B N s.1) ∧ vl B N (sk B N s.1) ≤ hi
      · rw [qif_t e]
        exact (en_sp (kd_en2 h1.2.1 d).1).2
      · rw [qif_f e]; exact h1.2.1
    · rw [qif_f d]; exact h1.2.1
theorem gnS_le {B : Nat → Int} {N : Nat} {c : Int} {s : pS} (hc : 0 ≤ c) (h : s.1 ≤ N) : (gnS B N c s).1 ≤ N := by
  have h1 := sk_sp B h
  unfold gnS
  by_cases c1 : s.2.1 ≠ 0
  · rw [qif_t c1]; exact h
  · rw [qif_f c1]
    by_cases d : bAt B N (sk B N s.1) = c
    · rw [qif_t d]
      show sk B N s.1 + 1 ≤ N
      rcases Nat.lt_or_ge (sk B N s.1) N with q | q
      · omega
      · rw [bAt_ge q] at d; omega
    · rw [qif_f d]; exact h1.2.1
theorem skS_le {B : Nat → Int} {N : Nat} {s : pS} (h : s.1 ≤ N) : (skS B N s).1 ≤ N := (sk_sp B h).2.1
theorem wrS_le {N : Nat} {k p : Int} {s : pS} (h : s.1 ≤ N) : (wrS k p s).1 ≤ N := by
  unfold wrS
  split
  · exact h
  · exact h
set_option maxRecDepth 20000 in
set_option maxHeartbeats 4000000 in
theorem c_takesT {h : qH} {m : Nat} {f : Nat → Int} {g : Nat → Nat → Int} {N a : Nat} {pl : Int} (w : Nat) (x1 x2 x3 x4 x5 x6 : Int) (hm : 2 ≤ m) (hN : f 2 = (N : Int)) (hN4 : N ≤ 400) (ha : a ≤ N) (hw : w < 13) (hx : wof x1 x2 x3 x4 x5 x6 = wK w) (hx1 : 0 ≤ x1 ∧ x1 ≤ 26) (hx2 : 0 ≤ x2 ∧ x2 ≤ 26) (hx3 : 0 ≤ x3 ∧ x3 ≤ 26) (hx4 : 0 ≤ x4 ∧ x4 ≤ 26) (hx5 : 0 ≤ x5 ∧ x5 ≤ 26) (hx6 : 0 ≤ x6 ∧ x6 ≤ 26) (hT : kd (g 1) N (sk (g 1) N a) = (6 + (w : Int))) : qEx M_X12_takes 0 [qR m, qI x1, qI x2, qI x3, qI x4, qI x5, qI x6] [] (rput h m (qup (qup (qup f 3 (a : Int)) 4 0) 5 pl) g) (some (qI 1)) (rput h m (qup (qup (qup f 3 (((en (g 1) N (sk (g 1) N a)) : Nat) : Int)) 4 0) 5 pl) g) := by
  refine q_gen (fun r hr er eh => ?_)
  have hp9 : (sk (g 1) N a) ≤ N := (sk_sp (g 1) ha).2.1
  obtain ⟨hen1, hen2⟩ := kd_en hp9 hw hT
  have hen3 := en_sp (B := g 1) hen1
  refine z_aload_n d_X12_takes_0 rfl rfl ?_
  refine z_getf (v := qI 0) d_X12_takes_1 fl_X12_141 rput_o rfl ?_
  refine z_if_ne 23 d_X12_takes_4 (by decide) (fun hc1 => absurd hc1 (by decide)) (fun hc1 => ?_)
  refine z_aload_n d_X12_takes_7 rfl rfl ?_
  refine z_iload_n d_X12_takes_8 rfl rfl ?_
  refine z_iload_n d_X12_takes_9 rfl rfl ?_
  refine z_iload_n d_X12_takes_10 rfl rfl ?_
  refine z_iload d_X12_takes_11 rfl ?_
  refine z_iload d_X12_takes_13 rfl ?_
  refine z_iload d_X12_takes_15 rfl ?_
  refine z_cv (M1 := M_X12_isWord) d_X12_takes_17 lv_X12_185 k_X12_isWord [qI x1, qI x2, qI x3, qI x4, qI x5, qI x6] rfl rfl rput_o ⟨_, _, rfl⟩ (Nat.le_of_ble_eq_true rfl) (by decide) (by decide) (Nat.le_of_ble_eq_true rfl) (c_isWord (N := N) (a := a) w x1 x2 x3 x4 x5 x6 hm hN hN4 ha hw hx hx1 hx2 hx3 hx4 hx5 hx6) ?_
  refine z_ifneB 25 d_X12_takes_20 (by decide) (fun hc2 => ?_) (fun hc2 => absurd hc2 (by exact fun z => z hT))
  refine z_aload_n d_X12_takes_25 rfl rfl ?_
  refine z_dup d_X12_takes_26 rfl ?_
  refine z_getf (v := qI (((sk (g 1) N a) : Nat) : Int)) d_X12_takes_27 fl_X12_150 rput_o rfl ?_
  refine z_aload_n d_X12_takes_30 rfl rfl ?_
  refine z_cv (M1 := M_X12_letters) d_X12_takes_31 lv_X12_167 k_X12_letters [] rfl rfl rput_o ⟨_, _, rfl⟩ (Nat.le_of_ble_eq_true rfl) (by decide) (by decide) (Nat.le_of_ble_eq_true rfl) (c_letters (N := N) (a := (sk (g 1) N a)) hm hN hN4 hp9) ?_
  refine z_iadd d_X12_takes_34 (by omega) ?_
  refine z_putf (fs' := [qI (f 0), qI (f 1), qI (f 2), qI ((((sk (g 1) N a) : Nat) : Int) + (((rl isL (g 1) N (sk (g 1) N a)) : Nat) : Int)), qI 0, qI pl, qI (f 6), qI (f 7), qR (m + 1), qR (m + 2), qR (m + 3), qR (m + 4), qR (m + 5), qR (m + 6), qR (m + 7), qR (m + 8), qR (m + 9), qR (m + 10), qI (f 18), qI (f 19), qI (f 20), qR (m + 11), qR (m + 12), qR (m + 13), qR (m + 14), qI (f 25), qR (m + 15), qI (f 27), qR (m + 16), qR (m + 17), qR (m + 18), qR (m + 19), qR (m + 20), qR (m + 21), qR (m + 22), qR (m + 23), qR (m + 24), qI (f 37), qI (f 38), qI (f 39), qI (f 40), qR (m + 25), qR (m + 26), qR (m + 27), qR (m + 28), qR (m + 29), qR (m + 30), qR (m + 31), qI (f 48), qR (m + 32), qR (m + 33), qR (m + 34), qR (m + 35), qR (m + 36), qR (m + 37)]) d_X12_takes_35 fp_X12_150 rput_o (fun _ => rfl) (fun _ => rfl) (Nat.le_of_ble_eq_true rfl) rfl ?_
  refine z_eq rfl rfl ((rput_sf (f' := qup (qup (qup (qup f 3 (((sk (g 1) N a) : Nat) : Int)) 4 0) 5 pl) 3 ((((sk (g 1) N a) : Nat) : Int) + (((rl isL (g 1) N (sk (g 1) N a)) : Nat) : Int))) rfl).trans (rput_cg ((qup_comm (by decide)).trans (congrArg (fun z => qup z 5 pl) ((qup_comm (by decide)).trans (congrArg (fun z => qup z 4 0) (qup_qup _ _ _ _))))) rfl)) ?_
  refine z_iconst d_X12_takes_38 (by decide) ?_
  exact z_zret d_X12_takes_39 rfl (by first | exact qb_01 _ | decide | omega) er (eh.trans (rput_cg (qup_cg (qup_cg (qup_cg rfl (by rw [hen2]; omega)) rfl) rfl) rfl))
set_option maxRecDepth 20000 in
set_option maxHeartbeats 4000000 in
theorem c_takesN {h : qH} {m : Nat} {f : Nat → Int} {g : Nat → Nat → Int} {N a : Nat} {pl : Int} (w : Nat) (x1 x2 x3 x4 x5 x6 : Int) (hm : 2 ≤ m) (hN : f 2 = (N : Int)) (hN4 : N ≤ 400) (ha : a ≤ N) (hw : w < 13) (hx : wof x1 x2 x3 x4 x5 x6 = wK w) (hx1 : 0 ≤ x1 ∧ x1 ≤ 26) (hx2 : 0 ≤ x2 ∧ x2 ≤ 26) (hx3 : 0 ≤ x3 ∧ x3 ≤ 26) (hx4 : 0 ≤ x4 ∧ x4 ≤ 26) (hx5 : 0 ≤ x5 ∧ x5 ≤ 26) (hx6 : 0 ≤ x6 ∧ x6 ≤ 26) (hT : ¬ kd (g 1) N (sk (g 1) N a) = (6 + (w : Int))) : qEx M_X12_takes 0 [qR m, qI x1, qI x2, qI x3, qI x4, qI x5, qI x6] [] (rput h m (qup (qup (qup f 3 (a : Int)) 4 0) 5 pl) g) (some (qI 0)) (rput h m (qup (qup (qup f 3 (((sk (g 1) N a) : Nat) : Int)) 4 0) 5 pl) g) := by
  refine q_gen (fun r hr er eh => ?_)
  have hp9 : (sk (g 1) N a) ≤ N := (sk_sp (g 1) ha).2.1
  refine z_aload_n d_X12_takes_0 rfl rfl ?_
  refine z_getf (v := qI 0) d_X12_takes_1 fl_X12_141 rput_o rfl ?_
  refine z_if_ne 23 d_X12_takes_4 (by decide) (fun hc1 => absurd hc1 (by decide)) (fun hc1 => ?_)
  refine z_aload_n d_X12_takes_7 rfl rfl ?_
  refine z_iload_n d_X12_takes_8 rfl rfl ?_
  refine z_iload_n d_X12_takes_9 rfl rfl ?_
  refine z_iload_n d_X12_takes_10 rfl rfl ?_
  refine z_iload d_X12_takes_11 rfl ?_
  refine z_iload d_X12_takes_13 rfl ?_
  refine z_iload d_X12_takes_15 rfl ?_
  refine z_cv (M1 := M_X12_isWord) d_X12_takes_17 lv_X12_185 k_X12_isWord [qI x1, qI x2, qI x3, qI x4, qI x5, qI x6] rfl rfl rput_o ⟨_, _, rfl⟩ (Nat.le_of_ble_eq_true rfl) (by decide) (by decide) (Nat.le_of_ble_eq_true rfl) (c_isWord (N := N) (a := a) w x1 x2 x3 x4 x5 x6 hm hN hN4 ha hw hx hx1 hx2 hx3 hx4 hx5 hx6) ?_
  refine z_ifneB 25 d_X12_takes_20 (by decide) (fun hc2 => absurd hc2 (by exact hT)) (fun hc2 => ?_)
  refine z_iconst d_X12_takes_23 (by decide) ?_
  exact z_zret d_X12_takes_24 rfl (by first | exact qb_01 _ | decide | omega) er eh
set_option maxRecDepth 20000 in
set_option maxHeartbeats 4000000 in
theorem c_takesF {h : qH} {m : Nat} {f : Nat → Int} {g : Nat → Nat → Int} {a : Nat} {k pl : Int} (x1 x2 x3 x4 x5 x6 : Int) (hm : 2 ≤ m) (hk : k ≠ 0) : qEx M_X12_takes 0 [qR m, qI x1, qI x2, qI x3, qI x4, qI x5, qI x6] [] (rput h m (qup (qup (qup f 3 (a : Int)) 4 k) 5 pl) g) (some (qI 0)) (rput h m (qup (qup (qup f 3 (a : Int)) 4 k) 5 pl) g) := by
  refine q_gen (fun r hr er eh => ?_)
  refine z_aload_n d_X12_takes_0 rfl rfl ?_
  refine z_getf (v := qI k) d_X12_takes_1 fl_X12_141 rput_o rfl ?_
  refine z_if_ne 23 d_X12_takes_4 (by decide) (fun hc1 => ?_) (fun hc1 => absurd hc1 (by omega))
  refine z_iconst d_X12_takes_23 (by decide) ?_
  exact z_zret d_X12_takes_24 rfl (by first | exact qb_01 _ | decide | omega) er eh
theorem y_takes {h : qH} {m : Nat} {f : Nat → Int} {g : Nat → Nat → Int} {N : Nat} (s : pS) (w : Nat) (x1 x2 x3 x4 x5 x6 : Int) (hm : 2 ≤ m) (hN : f 2 = (N : Int)) (hN4 : N ≤ 400) (ha : s.1 ≤ N) (hw : w < 13) (hx : wof x1 x2 x3 x4 x5 x6 = wK w) (hx1 : 0 ≤ x1 ∧ x1 ≤ 26) (hx2 : 0 ≤ x2 ∧ x2 ≤ 26) (hx3 : 0 ≤ x3 ∧ x3 ≤ 26) (hx4 : 0 ≤ x4 ∧ x4 ≤ 26) (hx5 : 0 ≤ x5 ∧ x5 ≤ 26) (hx6 : 0 ≤ x6 ∧ x6 ≤ 26) : qEx M_X12_takes 0 [qR m, qI x1, qI x2, qI x3, qI x4, qI x5, qI x6] [] (rput h m (qup (qup (qup f 3 ((s.1 : Nat) : Int)) 4 s.2.1) 5 s.2.2) g) (some (qI (qb (tkQ (g 1) N (6 + (w : Int)) s)))) (rput h m (qup (qup (qup f 3 (((tkS (g 1) N (6 + (w : Int)) s).1 : Nat) : Int)) 4 ((tkS (g 1) N (6 + (w : Int)) s).2.1)) 5 ((tkS (g 1) N (6 + (w : Int)) s).2.2)) g) := by
  obtain ⟨a, k, pl⟩ := s
  unfold tkS tkQ
  by_cases c : k ≠ 0
  · rw [qif_t c, qb_f (fun z => c z.1)]
    exact c_takesF x1 x2 x3 x4 x5 x6 hm c
  · have c2 : k = 0 := Classical.not_not.mp c
    subst c2
    by_cases d : kd (g 1) N (sk (g 1) N a) = (6 + (w : Int))
    · rw [qif_f c, qif_t d, qb_t ⟨rfl, d⟩]
      exact c_takesT w x1 x2 x3 x4 x5 x6 hm hN hN4 ha hw hx hx1 hx2 hx3 hx4 hx5 hx6 d
    · rw [qif_f c, qif_f d, qb_f (fun z => d z.2)]
      exact c_takesN w x1 x2 x3 x4 x5 x6 hm hN hN4 ha hw hx hx1 hx2 hx3 hx4 hx5 hx6 d
set_option maxRecDepth 20000 in
set_option maxHeartbeats 4000000 in
theorem c_isNumber {h : qH} {m : Nat} {f : Nat → Int} {g : Nat → Nat → Int} {N a : Nat} {k pl : Int} (hm : 2 ≤ m) (hN : f 2 = (N : Int)) (hN4 : N ≤ 400) (ha : a ≤ N) : qEx M_X12_isNumber 0 [qR m] [] (rput h m (qup (qup (qup f 3 (a : Int)) 4 k) 5 pl) g) (some (qI (qb (kd (g 1) N (sk (g 1) N a) = 2)))) (rput h m (qup (qup (qup f 3 (((sk (g 1) N a) : Nat) : Int)) 4 k) 5 pl) g) := by
  refine q_gen (fun r hr er eh => ?_)
  have hp9 : (sk (g 1) N a) ≤ N := (sk_sp (g 1) ha).2.1
  refine z_aload_n d_X12_isNumber_0 rfl rfl ?_
  refine z_cv0 (M1 := M_X12_blanks) d_X12_isNumber_1 lv_X12_164 k_X12_blanks [] rfl rfl rput_o ⟨_, _, rfl⟩ (Nat.le_of_ble_eq_true rfl) (by decide) (by decide) (Nat.le_of_ble_eq_true rfl) (c_blanks (N := N) (a := a) hm hN hN4 ha) ?_
  refine z_aload_n d_X12_isNumber_4 rfl rfl ?_
  refine z_cv (M1 := M_X12_digits) d_X12_isNumber_5 lv_X12_189 k_X12_digits [] rfl rfl rput_o ⟨_, _, rfl⟩ (Nat.le_of_ble_eq_true rfl) (by decide) (by decide) (Nat.le_of_ble_eq_true rfl) (c_digits (N := N) (a := (sk (g 1) N a)) hm hN hN4 hp9) ?_
  refine z_iconst d_X12_isNumber_8 (by decide) ?_
  refine z_iconst d_X12_isNumber_9 (by decide) ?_
  refine z_cs (M1 := M_X12_in) d_X12_isNumber_10 ls_X12_137 k_X12_in [qI (((rl isD (g 1) N (sk (g 1) N a)) : Nat) : Int), qI 1, qI 4] rfl rfl (Nat.le_of_ble_eq_true rfl) (by decide) (by decide) (Nat.le_of_ble_eq_true rfl) (c_in (((rl isD (g 1) N (sk (g 1) N a)) : Nat) : Int) 1 4) ?_
  exact z_zret d_X12_isNumber_13 rfl (by first | exact qb_01 _ | decide | omega) (qer er (qb_congr (by rw [kd_2 hp9]; exact ⟨fun z => ⟨by omega, by omega⟩, fun z => ⟨by omega, by omega⟩⟩))) eh
set_option maxRecDepth 20000 in
set_option maxHeartbeats 4000000 in
theorem c_valueHere {h : qH} {m : Nat} {f : Nat → Int} {g : Nat → Nat → Int} {N a : Nat} {k pl : Int} (hm : 2 ≤ m) (hN : f 2 = (N : Int)) (hN4 : N ≤ 400) (hp9 : a ≤ N) (hk : kd (g 1) N a = 2) : qEx M_X12_valueHere 0 [qR m, qU, qU, qU] [] (rput h m (qup (qup (qup f 3 (a : Int)) 4 k) 5 pl) g) (some (qI (vl (g 1) N a))) (rput h m (qup (qup (qup f 3 (a : Int)) 4 k) 5 pl) g) := by
  refine q_gen (fun r hr er eh => ?_)
  have hsp := rl_sp (Q := isD) (g 1) nD hp9
  have hk2 := (kd_2 hp9).mp hk
  refine z_iconst d_X12_valueHere_0 (by decide) ?_
  refine z_istore_n (ls' := [qR m, qI 0, qU, qU]) d_X12_valueHere_1 rfl (by decide) rfl ?_
  refine z_aload_n d_X12_valueHere_2 rfl rfl ?_
  refine z_cv (M1 := M_X12_digits) d_X12_valueHere_3 lv_X12_189 k_X12_digits [] rfl rfl rput_o ⟨_, _, rfl⟩ (Nat.le_of_ble_eq_true rfl) (by decide) (by decide) (Nat.le_of_ble_eq_true rfl) (c_digits (N := N) (a := a) hm hN hN4 hp9) ?_
  refine z_istore_n (ls' := [qR m, qI 0, qI (((rl isD (g 1) N a) : Nat) : Int), qU]) d_X12_valueHere_6 rfl (by decide) rfl ?_
  refine z_iconst d_X12_valueHere_7 (by decide) ?_
  refine z_istore_n (ls' := [qR m, qI 0, qI (((rl isD (g 1) N a) : Nat) : Int), qI 0]) d_X12_valueHere_8 rfl (by decide) rfl ?_
  refine z_eq (qc rfl (qc (qi (rfl)) (qc rfl (qc (qi (by omega)) rfl)))) rfl rfl (z_for (rl isD (g 1) N a) (fun i => [qR m, qI (vlF (g 1) a i), qI (((rl isD (g 1) N a) : Nat) : Int), qI (i : Int)]) (fun i => (rput h m (qup (qup (qup f 3 (a : Int)) 4 k) 5 pl) g)) (fun i => True) trivial (fun i hii hp kki => ?_) (fun hp => ?_))
  · show qEx M_X12_valueHere 9 [qR m, qI (vlF (g 1) a i), qI (((rl isD (g 1) N a) : Nat) : Int), qI (i : Int)] [] (rput h m (qup (qup (qup f 3 (a : Int)) 4 k) 5 pl) g) r hr
    have hvb := vlF_bd4 (B := (g 1)) (p := a) (i := i) (by omega) (fun j hj => by have := hsp.2.1 j (by omega); rwa [bAt_lt (by omega)] at this)
    have hdi : isD ((g 1) (a + i)) := by have := hsp.2.1 i hii; rwa [bAt_lt (by omega)] at this
    unfold isD at hdi
    refine z_iload_n d_X12_valueHere_9 rfl rfl ?_
    refine z_iload_n d_X12_valueHere_10 rfl rfl ?_
    refine z_icmp_ge 39 d_X12_valueHere_11 (by decide) (fun hc1 => absurd hc1 (by omega)) (fun hc1 => ?_)
    refine z_bipush d_X12_valueHere_14 (by decide) ?_
    refine z_iload_n d_X12_valueHere_16 rfl rfl ?_
    refine z_imul d_X12_valueHere_17 (by omega) ?_
    refine z_aload_n d_X12_valueHere_18 rfl rfl ?_
    refine z_aload_n d_X12_valueHere_19 rfl rfl ?_
    refine z_getf (v := qI (a : Int)) d_X12_valueHere_20 fl_X12_150 rput_o rfl ?_
    refine z_iload_n d_X12_valueHere_23 rfl rfl ?_
    refine z_iadd d_X12_valueHere_24 (by omega) ?_
    refine z_cv (M1 := M_X12_byteAt) d_X12_valueHere_25 lv_X12_153 k_X12_byteAt [qI ((a : Int) + (i : Int))] rfl rfl rput_o ⟨_, _, rfl⟩ (Nat.le_of_ble_eq_true rfl) (by decide) (by decide) (Nat.le_of_ble_eq_true rfl) (y_byteAt (N := N) (a + i) hm hN hN4) ?_
    refine z_eq rfl (qc (qi (show (bAt (g 1) N (a + i)) = ((g 1) (a + i)) from bAt_lt (by omega))) rfl) rfl ?_
    refine z_iadd d_X12_valueHere_28 (by omega) ?_
    refine z_bipush d_X12_valueHere_29 (by decide) ?_
    refine z_isub d_X12_valueHere_31 (by omega) ?_
    refine z_istore_n (ls' := [qR m, qI (((10 * (vlF (g 1) a i)) + ((g 1) (a + i))) - 48), qI (((rl isD (g 1) N a) : Nat) : Int), qI (i : Int)]) d_X12_valueHere_32 rfl (by decide) rfl ?_
    refine z_iinc (ls' := [qR m, qI (((10 * (vlF (g 1) a i)) + ((g 1) (a + i))) - 48), qI (((rl isD (g 1) N a) : Nat) : Int), qI ((i : Int) + 1)]) d_X12_valueHere_33 rfl (by decide) (by omega) rfl ?_
    refine z_goto 9 d_X12_valueHere_36 (by decide) ?_
    exact z_eq (qc rfl (qc (qi (rfl)) (qc rfl (qc (qi (by omega)) rfl)))) rfl rfl (kki trivial)
  · show qEx M_X12_valueHere 9 [qR m, qI (vlF (g 1) a (rl isD (g 1) N a)), qI (((rl isD (g 1) N a) : Nat) : Int), qI (((rl isD (g 1) N a) : Nat) : Int)] [] (rput h m (qup (qup (qup f 3 (a : Int)) 4 k) 5 pl) g) r hr
    refine z_iload_n d_X12_valueHere_9 rfl rfl ?_
    refine z_iload_n d_X12_valueHere_10 rfl rfl ?_
    refine z_icmp_ge 39 d_X12_valueHere_11 (by decide) (fun hc2 => ?_) (fun hc2 => absurd hc2 (by omega))
    refine z_iload_n d_X12_valueHere_39 rfl rfl ?_
    exact z_iret d_X12_valueHere_40 rfl er eh
set_option maxRecDepth 20000 in
set_option maxHeartbeats 4000000 in
theorem c_numberA {h : qH} {m : Nat} {f : Nat → Int} {g : Nat → Nat → Int} {N a : Nat} {pl : Int} (lo hi : Int) (hm : 2 ≤ m) (hN : f 2 = (N : Int)) (hN4 : N ≤ 400) (ha : a ≤ N) (hk2 : ¬ kd (g 1) N (sk (g 1) N a) = 2) : qEx M_X12_number 0 [qR m, qI lo, qI hi, qU] [] (rput h m (qup (qup (qup f 3 (a : Int)) 4 0) 5 pl) g) (some (qI 0)) (rput h m (qup (qup (qup f 3 (((sk (g 1) N a) : Nat) : Int)) 4 1) 5 (((sk (g 1) N a) : Nat) : Int)) g) := by
  refine q_gen (fun r hr er eh => ?_)
  have hp9 : (sk (g 1) N a) ≤ N := (sk_sp (g 1) ha).2.1
  refine z_aload_n d_X12_number_0 rfl rfl ?_
  refine z_getf (v := qI 0) d_X12_number_1 fl_X12_141 rput_o rfl ?_
  refine z_if_eq 9 d_X12_number_4 (by decide) (fun hc1 => ?_) (fun hc1 => absurd (by decide) hc1)
  refine z_aload_n d_X12_number_9 rfl rfl ?_
  refine z_cv (M1 := M_X12_isNumber) d_X12_number_10 lv_X12_192 k_X12_isNumber [] rfl rfl rput_o ⟨_, _, rfl⟩ (Nat.le_of_ble_eq_true rfl) (by decide) (by decide) (Nat.le_of_ble_eq_true rfl) (c_isNumber (N := N) (a := a) hm hN hN4 ha) ?_
  refine z_ifneB 27 d_X12_number_13 (by decide) (fun hc2 => absurd hc2 (by exact hk2)) (fun hc2 => ?_)
  refine z_aload_n d_X12_number_16 rfl rfl ?_
  refine z_iconst d_X12_number_17 (by decide) ?_
  refine z_aload_n d_X12_number_18 rfl rfl ?_
  refine z_getf (v := qI (((sk (g 1) N a) : Nat) : Int)) d_X12_number_19 fl_X12_150 rput_o rfl ?_
  refine z_cv0 (M1 := M_X12_wrong) d_X12_number_22 lv_X12_196 k_X12_wrong [qI 1, qI (((sk (g 1) N a) : Nat) : Int)] rfl rfl rput_o ⟨_, _, rfl⟩ (Nat.le_of_ble_eq_true rfl) (by decide) (by decide) (Nat.le_of_ble_eq_true rfl) (y_wrong0 1 (((sk (g 1) N a) : Nat) : Int) hm rfl) ?_
  refine z_eq rfl rfl (rput_cg ((congrArg (fun z => qup z 5 (((sk (g 1) N a) : Nat) : Int)) ((qup_comm (by decide)).trans (congrArg (fun z => qup z 5 pl) (qup_qup _ _ _ _)))).trans (qup_qup _ _ _ _)) rfl) ?_
  refine z_iconst d_X12_number_25 (by decide) ?_
  exact z_iret d_X12_number_26 rfl er eh
set_option maxRecDepth 20000 in
set_option maxHeartbeats 4000000 in
theorem c_numberB {h : qH} {m : Nat} {f : Nat → Int} {g : Nat → Nat → Int} {N a : Nat} {pl : Int} (lo hi : Int) (hm : 2 ≤ m) (hN : f 2 = (N : Int)) (hN4 : N ≤ 400) (ha : a ≤ N) (hk2 : kd (g 1) N (sk (g 1) N a) = 2) (hv : ¬ (lo ≤ vl (g 1) N (sk (g 1) N a) ∧ vl (g 1) N (sk (g 1) N a) ≤ hi)) : qEx M_X12_number 0 [qR m, qI lo, qI hi, qU] [] (rput h m (qup (qup (qup f 3 (a : Int)) 4 0) 5 pl) g) (some (qI (vl (g 1) N (sk (g 1) N a)))) (rput h m (qup (qup (qup f 3 (((sk (g 1) N a) : Nat) : Int)) 4 2) 5 (((sk (g 1) N a) : Nat) : Int)) g) := by
  refine q_gen (fun r hr er eh => ?_)
  have hp9 : (sk (g 1) N a) ≤ N := (sk_sp (g 1) ha).2.1
  refine z_aload_n d_X12_number_0 rfl rfl ?_
  refine z_getf (v := qI 0) d_X12_number_1 fl_X12_141 rput_o rfl ?_
  refine z_if_eq 9 d_X12_number_4 (by decide) (fun hc1 => ?_) (fun hc1 => absurd (by decide) hc1)
  refine z_aload_n d_X12_number_9 rfl rfl ?_
  refine z_cv (M1 := M_X12_isNumber) d_X12_number_10 lv_X12_192 k_X12_isNumber [] rfl rfl rput_o ⟨_, _, rfl⟩ (Nat.le_of_ble_eq_true rfl) (by decide) (by decide) (Nat.le_of_ble_eq_true rfl) (c_isNumber (N := N) (a := a) hm hN hN4 ha) ?_
  refine z_ifneB 27 d_X12_number_13 (by decide) (fun hc2 => ?_) (fun hc2 => absurd hc2 (by exact fun z => z hk2))
  refine z_aload_n d_X12_number_27 rfl rfl ?_
  refine z_cv (M1 := M_X12_valueHere) d_X12_number_28 lv_X12_200 k_X12_valueHere [] rfl rfl rput_o ⟨_, _, rfl⟩ (Nat.le_of_ble_eq_true rfl) (by decide) (by decide) (Nat.le_of_ble_eq_true rfl) (c_valueHere (N := N) (a := (sk (g 1) N a)) hm hN hN4 hp9 hk2) ?_
  refine z_istore_n (ls' := [qR m, qI lo, qI hi, qI (vl (g 1) N (sk (g 1) N a))]) d_X12_number_31 rfl (by decide) rfl ?_
  refine z_iload_n d_X12_number_32 rfl rfl ?_
  refine z_iload_n d_X12_number_33 rfl rfl ?_
  refine z_iload_n d_X12_number_34 rfl rfl ?_
  refine z_cs (M1 := M_X12_in) d_X12_number_35 ls_X12_137 k_X12_in [qI (vl (g 1) N (sk (g 1) N a)), qI lo, qI hi] rfl rfl (Nat.le_of_ble_eq_true rfl) (by decide) (by decide) (Nat.le_of_ble_eq_true rfl) (c_in (vl (g 1) N (sk (g 1) N a)) lo hi) ?_
  refine z_ifneB 53 d_X12_number_38 (by decide) (fun hc3 => absurd hc3 (by exact hv)) (fun hc3 => ?_)
  refine z_aload_n d_X12_number_41 rfl rfl ?_
  refine z_iconst d_X12_number_42 (by decide) ?_
  refine z_aload_n d_X12_number_43 rfl rfl ?_
  refine z_getf (v := qI (((sk (g 1) N a) : Nat) : Int)) d_X12_number_44 fl_X12_150 rput_o rfl ?_
  refine z_cv0 (M1 := M_X12_wrong) d_X12_number_47 lv_X12_196 k_X12_wrong [qI 2, qI (((sk (g 1) N a) : Nat) : Int)] rfl rfl rput_o ⟨_, _, rfl⟩ (Nat.le_of_ble_eq_true rfl) (by decide) (by decide) (Nat.le_of_ble_eq_true rfl) (y_wrong0 2 (((sk (g 1) N a) : Nat) : Int) hm rfl) ?_
  refine z_eq rfl rfl (rput_cg ((congrArg (fun z => qup z 5 (((sk (g 1) N a) : Nat) : Int)) ((qup_comm (by decide)).trans (congrArg (fun z => qup z 5 pl) (qup_qup _ _ _ _)))).trans (qup_qup _ _ _ _)) rfl) ?_
  refine z_goto 66 d_X12_number_50 (by decide) ?_
  refine z_iload_n d_X12_number_66 rfl rfl ?_
  exact z_iret d_X12_number_67 rfl er eh
set_option maxRecDepth 20000 in
set_option maxHeartbeats 4000000 in
theorem c_numberC {h : qH} {m : Nat} {f : Nat → Int} {g : Nat → Nat → Int} {N a : Nat} {pl : Int} (lo hi : Int) (hm : 2 ≤ m) (hN : f 2 = (N : Int)) (hN4 : N ≤ 400) (ha : a ≤ N) (hk2 : kd (g 1) N (sk (g 1) N a) = 2) (hv : lo ≤ vl (g 1) N (sk (g 1) N a) ∧ vl (g 1) N (sk (g 1) N a) ≤ hi) : qEx M_X12_number 0 [qR m, qI lo, qI hi, qU] [] (rput h m (qup (qup (qup f 3 (a : Int)) 4 0) 5 pl) g) (some (qI (vl (g 1) N (sk (g 1) N a)))) (rput h m (qup (qup (qup f 3 (((en (g 1) N (sk (g 1) N a)) : Nat) : Int)) 4 0) 5 pl) g) := by
  refine q_gen (fun r hr er eh => ?_)
  have hp9 : (sk (g 1) N a) ≤ N := (sk_sp (g 1) ha).2.1
  obtain ⟨hen1, hen2⟩ := kd_en2 hp9 hk2
  have hen3 := en_sp (B := g 1) hen1
  refine z_aload_n d_X12_number_0 rfl rfl ?_
  refine z_getf (v := qI 0) d_X12_number_1 fl_X12_141 rput_o rfl ?_
  refine z_if_eq 9 d_X12_number_4 (by decide) (fun hc1 => ?_) (fun hc1 => absurd (by decide) hc1)
  refine z_aload_n d_X12_number_9 rfl rfl ?_
  refine z_cv (M1 := M_X12_isNumber) d_X12_number_10 lv_X12_192 k_X12_isNumber [] rfl rfl rput_o ⟨_, _, rfl⟩ (Nat.le_of_ble_eq_true rfl) (by decide) (by decide) (Nat.le_of_ble_eq_true rfl) (c_isNumber (N := N) (a := a) hm hN hN4 ha) ?_
  refine z_ifneB 27 d_X12_number_13 (by decide) (fun hc2 => ?_) (fun hc2 => absurd hc2 (by exact fun z => z hk2))
  refine z_aload_n d_X12_number_27 rfl rfl ?_
  refine z_cv (M1 := M_X12_valueHere) d_X12_number_28 lv_X12_200 k_X12_valueHere [] rfl rfl rput_o ⟨_, _, rfl⟩ (Nat.le_of_ble_eq_true rfl) (by decide) (by decide) (Nat.le_of_ble_eq_true rfl) (c_valueHere (N := N) (a := (sk (g 1) N a)) hm hN hN4 hp9 hk2) ?_
  refine z_istore_n (ls' := [qR m, qI lo, qI hi, qI (vl (g 1) N (sk (g 1) N a))]) d_X12_number_31 rfl (by decide) rfl ?_
  refine z_iload_n d_X12_number_32 rfl rfl ?_
  refine z_iload_n d_X12_number_33 rfl rfl ?_
  refine z_iload_n d_X12_number_34 rfl rfl ?_
  refine z_cs (M1 := M_X12_in) d_X12_number_35 ls_X12_137 k_X12_in [qI (vl (g 1) N (sk (g 1) N a)), qI lo, qI hi] rfl rfl (Nat.le_of_ble_eq_true rfl) (by decide) (by decide) (Nat.le_of_ble_eq_true rfl) (c_in (vl (g 1) N (sk (g 1) N a)) lo hi) ?_
  refine z_ifneB 53 d_X12_number_38 (by decide) (fun hc3 => ?_) (fun hc3 => absurd hc3 (by exact fun z => z hv))
  refine z_aload_n d_X12_number_53 rfl rfl ?_
  refine z_dup d_X12_number_54 rfl ?_
  refine z_getf (v := qI (((sk (g 1) N a) : Nat) : Int)) d_X12_number_55 fl_X12_150 rput_o rfl ?_
  refine z_aload_n d_X12_number_58 rfl rfl ?_
  refine z_cv (M1 := M_X12_digits) d_X12_number_59 lv_X12_189 k_X12_digits [] rfl rfl rput_o ⟨_, _, rfl⟩ (Nat.le_of_ble_eq_true rfl) (by decide) (by decide) (Nat.le_of_ble_eq_true rfl) (c_digits (N := N) (a := (sk (g 1) N a)) hm hN hN4 hp9) ?_
  refine z_iadd d_X12_number_62 (by omega) ?_
  refine z_putf (fs' := [qI (f 0), qI (f 1), qI (f 2), qI ((((sk (g 1) N a) : Nat) : Int) + (((rl isD (g 1) N (sk (g 1) N a)) : Nat) : Int)), qI 0, qI pl, qI (f 6), qI (f 7), qR (m + 1), qR (m + 2), qR (m + 3), qR (m + 4), qR (m + 5), qR (m + 6), qR (m + 7), qR (m + 8), qR (m + 9), qR (m + 10), qI (f 18), qI (f 19), qI (f 20), qR (m + 11), qR (m + 12), qR (m + 13), qR (m + 14), qI (f 25), qR (m + 15), qI (f 27), qR (m + 16), qR (m + 17), qR (m + 18), qR (m + 19), qR (m + 20), qR (m + 21), qR (m + 22), qR (m + 23), qR (m + 24), qI (f 37), qI (f 38), qI (f 39), qI (f 40), qR (m + 25), qR (m + 26), qR (m + 27), qR (m + 28), qR (m + 29), qR (m + 30), qR (m + 31), qI (f 48), qR (m + 32), qR (m + 33), qR (m + 34), qR (m + 35), qR (m + 36), qR (m + 37)]) d_X12_number_63 fp_X12_150 rput_o (fun _ => rfl) (fun _ => rfl) (Nat.le_of_ble_eq_true rfl) rfl ?_
  refine z_eq rfl rfl ((rput_sf (f' := qup (qup (qup (qup f 3 (((sk (g 1) N a) : Nat) : Int)) 4 0) 5 pl) 3 ((((sk (g 1) N a) : Nat) : Int) + (((rl isD (g 1) N (sk (g 1) N a)) : Nat) : Int))) rfl).trans (rput_cg ((qup_comm (by decide)).trans (congrArg (fun z => qup z 5 pl) ((qup_comm (by decide)).trans (congrArg (fun z => qup z 4 0) (qup_qup _ _ _ _))))) rfl)) ?_
  refine z_iload_n d_X12_number_66 rfl rfl ?_
  exact z_iret d_X12_number_67 rfl er (eh.trans (rput_cg (qup_cg (qup_cg (qup_cg rfl (by rw [hen2]; omega)) rfl) rfl) rfl))
set_option maxRecDepth 20000 in
set_option maxHeartbeats 4000000 in
theorem c_numberF {h : qH} {m : Nat} {f : Nat → Int} {g : Nat → Nat → Int} {a : Nat} {k pl : Int} (lo hi : Int) (hm : 2 ≤ m) (hk : k ≠ 0) : qEx M_X12_number 0 [qR m, qI lo, qI hi, qU] [] (rput h m (qup (qup (qup f 3 (a : Int)) 4 k) 5 pl) g) (some (qI 0)) (rput h m (qup (qup (qup f 3 (a : Int)) 4 k) 5 pl) g) := by
  refine q_gen (fun r hr er eh => ?_)
  refine z_aload_n d_X12_number_0 rfl rfl ?_
  refine z_getf (v := qI k) d_X12_number_1 fl_X12_141 rput_o rfl ?_
  refine z_if_eq 9 d_X12_number_4 (by decide) (fun hc1 => absurd hc1 (by omega)) (fun hc1 => ?_)
  refine z_iconst d_X12_number_7 (by decide) ?_
  exact z_iret d_X12_number_8 rfl er eh
theorem y_number {h : qH} {m : Nat} {f : Nat → Int} {g : Nat → Nat → Int} {N : Nat} (s : pS) (lo hi : Int) (hm : 2 ≤ m) (hN : f 2 = (N : Int)) (hN4 : N ≤ 400) (ha : s.1 ≤ N) : qEx M_X12_number 0 [qR m, qI lo, qI hi, qU] [] (rput h m (qup (qup (qup f 3 ((s.1 : Nat) : Int)) 4 s.2.1) 5 s.2.2) g) (some (qI (nuV (g 1) N s))) (rput h m (qup (qup (qup f 3 (((nuS (g 1) N lo hi s).1 : Nat) : Int)) 4 ((nuS (g 1) N lo hi s).2.1)) 5 ((nuS (g 1) N lo hi s).2.2)) g) := by
  obtain ⟨a, k, pl⟩ := s
  unfold nuS nuV
  by_cases c : k ≠ 0
  · rw [qif_t c, qif_t c]
    exact c_numberF lo hi hm c
  · have c2 : k = 0 := Classical.not_not.mp c
    subst c2
    by_cases d : kd (g 1) N (sk (g 1) N a) = 2
    · by_cases e : lo ≤ vl (g 1) N (sk (g 1) N a) ∧ vl (g 1) N (sk (g 1) N a) ≤ hi
      · rw [qif_f c, qif_f c, qif_t d, qif_t d, qif_t e]
        exact c_numberC lo hi hm hN hN4 ha d e
      · rw [qif_f c, qif_f c, qif_t d, qif_t d, qif_f e]
        exact c_numberB lo hi hm hN hN4 ha d e
    · rw [qif_f c, qif_f c, qif_f d, qif_f d]
      exact c_numberA lo hi hm hN hN4 ha d
set_option maxRecDepth 20000 in
set_option maxHeartbeats 4000000 in
theorem c_signA {h : qH} {m : Nat} {f : Nat → Int} {g : Nat → Nat → Int} {N a : Nat} {pl : Int} (c : Int) (hm : 2 ≤ m) (hN : f 2 = (N : Int)) (hN4 : N ≤ 400) (ha : a ≤ N) (hc : ¬ bAt (g 1) N (sk (g 1) N a) = c) : qEx M_X12_sign 0 [qR m, qI c] [] (rput h m (qup (qup (qup f 3 (a : Int)) 4 0) 5 pl) g) none (rput h m (qup (qup (qup f 3 (((sk (g 1) N a) : Nat) : Int)) 4 1) 5 (((sk (g 1) N a) : Nat) : Int)) g) := by
  refine q_gen (fun r hr er eh => ?_)
  have hp9 : (sk (g 1) N a) ≤ N := (sk_sp (g 1) ha).2.1
  refine z_aload_n d_X12_sign_0 rfl rfl ?_
  refine z_getf (v := qI 0) d_X12_sign_1 fl_X12_141 rput_o rfl ?_
  refine z_if_eq 8 d_X12_sign_4 (by decide) (fun hc1 => ?_) (fun hc1 => absurd (by decide) hc1)
  refine z_aload_n d_X12_sign_8 rfl rfl ?_
  refine z_cv0 (M1 := M_X12_blanks) d_X12_sign_9 lv_X12_164 k_X12_blanks [] rfl rfl rput_o ⟨_, _, rfl⟩ (Nat.le_of_ble_eq_true rfl) (by decide) (by decide) (Nat.le_of_ble_eq_true rfl) (c_blanks (N := N) (a := a) hm hN hN4 ha) ?_
  refine z_aload_n d_X12_sign_12 rfl rfl ?_
  refine z_aload_n d_X12_sign_13 rfl rfl ?_
  refine z_getf (v := qI (((sk (g 1) N a) : Nat) : Int)) d_X12_sign_14 fl_X12_150 rput_o rfl ?_
  refine z_cv (M1 := M_X12_byteAt) d_X12_sign_17 lv_X12_153 k_X12_byteAt [qI (((sk (g 1) N a) : Nat) : Int)] rfl rfl rput_o ⟨_, _, rfl⟩ (Nat.le_of_ble_eq_true rfl) (by decide) (by decide) (Nat.le_of_ble_eq_true rfl) (y_byteAt (N := N) (sk (g 1) N a) hm hN hN4) ?_
  refine z_iload_n d_X12_sign_20 rfl rfl ?_
  refine z_icmp_ne 37 d_X12_sign_21 (by decide) (fun hc2 => ?_) (fun hc2 => absurd hc2 (by exact fun z => z hc))
  refine z_aload_n d_X12_sign_37 rfl rfl ?_
  refine z_iconst d_X12_sign_38 (by decide) ?_
  refine z_aload_n d_X12_sign_39 rfl rfl ?_
  refine z_getf (v := qI (((sk (g 1) N a) : Nat) : Int)) d_X12_sign_40 fl_X12_150 rput_o rfl ?_
  refine z_cv0 (M1 := M_X12_wrong) d_X12_sign_43 lv_X12_196 k_X12_wrong [qI 1, qI (((sk (g 1) N a) : Nat) : Int)] rfl rfl rput_o ⟨_, _, rfl⟩ (Nat.le_of_ble_eq_true rfl) (by decide) (by decide) (Nat.le_of_ble_eq_true rfl) (y_wrong0 1 (((sk (g 1) N a) : Nat) : Int) hm rfl) ?_
  refine z_eq rfl rfl (rput_cg ((congrArg (fun z => qup z 5 (((sk (g 1) N a) : Nat) : Int)) ((qup_comm (by decide)).trans (congrArg (fun z => qup z 5 pl) (qup_qup _ _ _ _)))).trans (qup_qup _ _ _ _)) rfl) ?_
  exact z_vret d_X12_sign_46 rfl er eh
set_option maxRecDepth 20000 in
set_option maxHeartbeats 4000000 in
theorem c_signB {h : qH} {m : Nat} {f : Nat → Int} {g : Nat → Nat → Int} {N a : Nat} {pl : Int} (c : Int) (hm : 2 ≤ m) (hN : f 2 = (N : Int)) (hN4 : N ≤ 400) (ha : a ≤ N) (hc : bAt (g 1) N (sk (g 1) N a) = c) : qEx M_X12_sign 0 [qR m, qI c] [] (rput h m (qup (qup (qup f 3 (a : Int)) 4 0) 5 pl) g) none (rput h m (qup (qup (qup f 3 ((((sk (g 1) N a) + 1) : Nat) : Int)) 4 0) 5 pl) g) := by
  refine q_gen (fun r hr er eh => ?_)
  have hp9 : (sk (g 1) N a) ≤ N := (sk_sp (g 1) ha).2.1
  refine z_aload_n d_X12_sign_0 rfl rfl ?_
  refine z_getf (v := qI 0) d_X12_sign_1 fl_X12_141 rput_o rfl ?_
  refine z_if_eq 8 d_X12_sign_4 (by decide) (fun hc1 => ?_) (fun hc1 => absurd (by decide) hc1)
  refine z_aload_n d_X12_sign_8 rfl rfl ?_
  refine z_cv0 (M1 := M_X12_blanks) d_X12_sign_9 lv_X12_164 k_X12_blanks [] rfl rfl rput_o ⟨_, _, rfl⟩ (Nat.le_of_ble_eq_true rfl) (by decide) (by decide) (Nat.le_of_ble_eq_true rfl) (c_blanks (N := N) (a := a) hm hN hN4 ha) ?_
  refine z_aload_n d_X12_sign_12 rfl rfl ?_
  refine z_aload_n d_X12_sign_13 rfl rfl ?_
  refine z_getf (v := qI (((sk (g 1) N a) : Nat) : Int)) d_X12_sign_14 fl_X12_150 rput_o rfl ?_
  refine z_cv (M1 := M_X12_byteAt) d_X12_sign_17 lv_X12_153 k_X12_byteAt [qI (((sk (g 1) N a) : Nat) : Int)] rfl rfl rput_o ⟨_, _, rfl⟩ (Nat.le_of_ble_eq_true rfl) (by decide) (by decide) (Nat.le_of_ble_eq_true rfl) (y_byteAt (N := N) (sk (g 1) N a) hm hN hN4) ?_
  refine z_iload_n d_X12_sign_20 rfl rfl ?_
  refine z_icmp_ne 37 d_X12_sign_21 (by decide) (fun hc2 => absurd hc2 (by exact fun z => z hc)) (fun hc2 => ?_)
  refine z_aload_n d_X12_sign_24 rfl rfl ?_
  refine z_dup d_X12_sign_25 rfl ?_
  refine z_getf (v := qI (((sk (g 1) N a) : Nat) : Int)) d_X12_sign_26 fl_X12_150 rput_o rfl ?_
  refine z_iconst d_X12_sign_29 (by decide) ?_
  refine z_iadd d_X12_sign_30 (by omega) ?_
  refine z_putf (fs' := [qI (f 0), qI (f 1), qI (f 2), qI ((((sk (g 1) N a) : Nat) : Int) + 1), qI 0, qI pl, qI (f 6), qI (f 7), qR (m + 1), qR (m + 2), qR (m + 3), qR (m + 4), qR (m + 5), qR (m + 6), qR (m + 7), qR (m + 8), qR (m + 9), qR (m + 10), qI (f 18), qI (f 19), qI (f 20), qR (m + 11), qR (m + 12), qR (m + 13), qR (m + 14), qI (f 25), qR (m + 15), qI (f 27), qR (m + 16), qR (m + 17), qR (m + 18), qR (m + 19), qR (m + 20), qR (m + 21), qR (m + 22), qR (m + 23), qR (m + 24), qI (f 37), qI (f 38), qI (f 39), qI (f 40), qR (m + 25), qR (m + 26), qR (m + 27), qR (m + 28), qR (m + 29), qR (m + 30), qR (m + 31), qI (f 48), qR (m + 32), qR (m + 33), qR (m + 34), qR (m + 35), qR (m + 36), qR (m + 37)]) d_X12_sign_31 fp_X12_150 rput_o (fun _ => rfl) (fun _ => rfl) (Nat.le_of_ble_eq_true rfl) rfl ?_
  refine z_eq rfl rfl ((rput_sf (f' := qup (qup (qup (qup f 3 (((sk (g 1) N a) : Nat) : Int)) 4 0) 5 pl) 3 ((((sk (g 1) N a) : Nat) : Int) + 1)) rfl).trans (rput_cg ((qup_comm (by decide)).trans (congrArg (fun z => qup z 5 pl) ((qup_comm (by decide)).trans (congrArg (fun z => qup z 4 0) (qup_qup _ _ _ _))))) rfl)) ?_
  refine z_goto 46 d_X12_sign_34 (by decide) ?_
  exact z_vret d_X12_sign_46 rfl er (eh.trans (rput_cg (qup_cg (qup_cg (qup_cg rfl (by omega)) rfl) rfl) rfl))
set_option maxRecDepth 20000 in
set_option maxHeartbeats 4000000 in
theorem c_signF {h : qH} {m : Nat} {f : Nat → Int} {g : Nat → Nat → Int} {a : Nat} {k pl : Int} (c : Int) (hm : 2 ≤ m) (hk : k ≠ 0) : qEx M_X12_sign 0 [qR m, qI c] [] (rput h m (qup (qup (qup f 3 (a : Int)) 4 k) 5 pl) g) none (rput h m (qup (qup (qup f 3 (a : Int)) 4 k) 5 pl) g) := by
  refine q_gen (fun r hr er eh => ?_)
  refine z_aload_n d_X12_sign_0 rfl rfl ?_
  refine z_getf (v := qI k) d_X12_sign_1 fl_X12_141 rput_o rfl ?_
  refine z_if_eq 8 d_X12_sign_4 (by decide) (fun hc1 => absurd hc1 (by omega)) (fun hc1 => ?_)
  exact z_vret d_X12_sign_7 rfl er eh
theorem y_sign {h : qH} {m : Nat} {f : Nat → Int} {g : Nat → Nat → Int} {N : Nat} (s : pS) (c : Int) (hm : 2 ≤ m) (hN : f 2 = (N : Int)) (hN4 : N ≤ 400) (ha : s.1 ≤ N) : qEx M_X12_sign 0 [qR m, qI c] [] (rput h m (qup (qup (qup f 3 ((s.1 : Nat) : Int)) 4 s.2.1) 5 s.2.2) g) none (rput h m (qup (qup (qup f 3 (((gnS (g 1) N c s).1 : Nat) : Int)) 4 ((gnS (g 1) N c s).2.1)) 5 ((gnS (g 1) N c s).2.2)) g) := by
  obtain ⟨a, k, pl⟩ := s
  unfold gnS
  by_cases c1 : k ≠ 0
  · rw [qif_t c1]
    exact c_signF c hm c1
  · have c2 : k = 0 := Classical.not_not.mp c1
    subst c2
    by_cases d : bAt (g 1) N (sk (g 1) N a) = c
    · rw [qif_f c1, qif_t d]
      exact c_signB c hm hN hN4 ha d
    · rw [qif_f c1, qif_f d]
      exact c_signA c hm hN hN4 ha d
theorem y_blanks {h : qH} {m : Nat} {f : Nat → Int} {g : Nat → Nat → Int} {N : Nat} (s : pS) (hm : 2 ≤ m) (hN : f 2 = (N : Int)) (hN4 : N ≤ 400) (ha : s.1 ≤ N) : qEx M_X12_blanks 0 [qR m] [] (rput h m (qup (qup (qup f 3 ((s.1 : Nat) : Int)) 4 s.2.1) 5 s.2.2) g) none (rput h m (qup (qup (qup f 3 (((skS (g 1) N s).1 : Nat) : Int)) 4 ((skS (g 1) N s).2.1)) 5 ((skS (g 1) N s).2.2)) g) := c_blanks hm hN hN4 ha
theorem y_wrong {h : qH} {m : Nat} {f : Nat → Int} {g : Nat → Nat → Int} (s : pS) (k p : Int) (hm : 2 ≤ m) : qEx M_X12_wrong 0 [qR m, qI k, qI p] [] (rput h m (qup (qup (qup f 3 ((s.1 : Nat) : Int)) 4 s.2.1) 5 s.2.2) g) none (rput h m (qup (qup (qup f 3 (((wrS k p s).1 : Nat) : Int)) 4 ((wrS k p s).2.1)) 5 ((wrS k p s).2.2)) g) := by
  obtain ⟨a, k0, pl⟩ := s
  unfold wrS
  have k9 := c_wrong (h := h) (f := (qup (qup (qup f 3 (((a, k0, pl).1 : Nat) : Int)) 4 ((a, k0, pl).2.1)) 5 ((a, k0, pl).2.2))) (g := g) k p hm
  refine z_end k9 rfl (rput_cg ?_ rfl)
  by_cases c : k0 = 0
  · refine (qif_t c).trans ?_
    rw [if_pos (show (a, k0, pl).2.1 = 0 from c)]
    show qup (qup (qup (qup (qup f 3 (a : Int)) 4 k0) 5 pl) 4 k) 5 p = qup (qup (qup f 3 (a : Int)) 4 k) 5 p
    rw [qup_comm (show (5 : Nat) ≠ 4 by decide), qup_qup, qup_qup]
  · refine (qif_f c).trans ?_
    rw [if_neg (show ¬ (a, k0, pl).2.1 = 0 from c)]
