/-! ===== CONTRACTS: walls by their rows; rows of lines ===== -/
theorem c_wlGo {h : qH} {F G : Nat → Nat → Int} {wl b n : Nat} {N T D : Nat → Int} (hwb : 2 ≤ wl) (hwk : xk wl = 10) (hb2 : 2 ≤ b) (hb : xk b = 0) (hdb : b + 23 < wl ∨ wl + 4 < b) (hT : ∀ c, c < 648 → G (b + 2) c = T c) (hD : ∀ c, c < 648 → G (b + 3) c = D c) (hW : wlR F G wl N) (hO : wOk N) (hN : N 160 = (n : Int)) (hA : N 163 + 32 ≤ 1000000) : ∃ F' G', (xfr wl (wl + 4) F G F' G' ∧ wlR F' G' wl (qup (rmv T N n n) 163 (N 163 + cnt (rdc D N n) n))) ∧ qEx M_X10_goOn 0 [qR wl, qR b, qU] [] (xput h F G) none (xput h F' G') := by
  have hn : n ≤ 32 := by have := wOk_n hO; omega
  refine ⟨_, _, ⟨?_, ?_⟩, c_wlGo0 hwb hwk hb2 hb hdb hW hO hN hA⟩
  · exact xfr_f (xfr_g (xfr_g (xfr_g (xfr_rf _ _ _ _) (by omega) (by omega)) (by omega) (by omega)) (by omega) (by omega)) (by omega) (by omega)
  · obtain ⟨⟨a, b1, d, e, f, g⟩, h2, h3⟩ := hW
    have hi : ∀ j, 64 ≤ j → j ≠ 163 → qup (rmv T N n n) 163 (N 163 + cnt (rdc D N n) n) j = N j := fun j h1 h2 => by rw [qup_ne h2, rmv_hi hn h1]
    refine ⟨?_, fun k hk => ?_, fun k hk => ?_⟩
    · rw [gup_eq, hi 160 (by decide) (by decide), hi 161 (by decide) (by decide), hi 162 (by decide) (by decide), hi 164 (by decide) (by decide), hi 165 (by decide) (by decide)]
      refine ⟨a, b1, d, ?_, f, g⟩
      show N 163 + cnt (rdc (G (b + 3)) N n) n = qup (rmv T N n n) 163 (N 163 + cnt (rdc D N n) n) 163
      rw [qup_eq, cnt_congr (q := rdc D N n) (fun k hk => rdc_cg2 (N := N) (N' := N) hn hk (fun _ _ => rfl) (fun j hj => wOk_m hO hj) hD)]
    · rw [hi (128 + k) (by omega) (by omega), gup_eq, gup_ne (show wl + 2 ≠ wl + 1 by omega), gup_eq, gup_ne (show wl + 3 ≠ wl + 1 by omega), gup_ne (show wl + 3 ≠ wl + 2 by omega), gup_ne (show wl + 3 ≠ wl + 4 by omega), qup_ne (show k ≠ 163 by omega), qup_ne (show 32 + k ≠ 163 by omega)]
      refine ⟨?_, ?_, (h2 k hk).2.2⟩
      · unfold qcpy rmv
        by_cases c : k < n
        · rw [if_pos (show Int.toNat 0 ≤ k ∧ k < Int.toNat 0 + Int.toNat (n : Int) by show 0 ≤ k ∧ k < 0 + (n : Int).toNat; omega), if_pos c, qmx_lt (by show 0 + (k - 0) < n; omega)]
          show rnx (G (b + 2)) N n (0 + (k - 0)) = _
          rw [show 0 + (k - 0) = k by omega]
          exact rnx_cg2 hn c (fun _ _ => rfl) (fun j hj => wOk_m hO hj) hT
        · rw [if_neg (show ¬ (Int.toNat 0 ≤ k ∧ k < Int.toNat 0 + Int.toNat (n : Int)) by show ¬ (0 ≤ k ∧ k < 0 + (n : Int).toNat); omega), if_neg c, if_neg (by omega)]
          exact (h2 k hk).1
      · unfold qcpy rmv
        by_cases c : k < n
        · rw [if_pos (show Int.toNat 0 ≤ k ∧ k < Int.toNat 0 + Int.toNat (n : Int) by show 0 ≤ k ∧ k < 0 + (n : Int).toNat; omega), if_neg (by omega), if_pos (by omega), show 32 + k - 32 = k by omega]
          show G (wl + 1) (0 + (k - 0)) = _
          rw [show 0 + (k - 0) = k by omega]
          exact (h2 k hk).1
        · rw [if_neg (show ¬ (Int.toNat 0 ≤ k ∧ k < Int.toNat 0 + Int.toNat (n : Int)) by show ¬ (0 ≤ k ∧ k < 0 + (n : Int).toNat); omega), if_neg (by omega), if_neg (by omega)]
          exact (h2 k hk).2.1
    · rw [gup_eq, hi (64 + k) (by omega) (by omega), hi (96 + k) (by omega) (by omega)]
      exact h3 k hk
set_option maxRecDepth 20000 in
set_option maxHeartbeats 4000000 in
theorem c_wlCh0 {h : qH} {F G : Nat → Nat → Int} {wl : Nat} (k : Nat) (v : Int) (hwb : 2 ≤ wl) (hwk : xk wl = 10) (hk : k < 32) : qEx M_X10_change 0 [qR wl, qI 0, qI (k : Int), qI v] [] (xput h F G) none (xput h F (gup G (wl + 1) (qup (G (wl + 1)) k v))) := by
  refine q_gen (fun r hr er eh => ?_)
  refine z_iload_n d_X10_change_0 rfl rfl ?_
  refine z_tableIn 40 d_X10_change_1 (by decide) (by decide) (off := 39) rfl (by decide) ?_
  refine z_aload_n d_X10_change_40 rfl rfl ?_
  refine z_getf (v := qR (wl + 1)) d_X10_change_41 fl_X10_19 (xput_ob (c := (F wl)) (wlx_in hwb hwk) rfl (xsh_10 hwk)) rfl ?_
  refine z_iload_n d_X10_change_44 rfl rfl ?_
  refine z_iload_n d_X10_change_45 rfl rfl ?_
  refine z_ist k d_X10_change_46 (xput_ar (g := (G (wl + 1))) (wlx_1 hwb hwk) rfl) (by omega) rfl (by omega) ?_
  refine z_eq rfl rfl (xput_sa (wlx_1 hwb hwk)) ?_
  refine z_goto 124 d_X10_change_47 (by decide) ?_
  exact z_vret d_X10_change_124 rfl er eh
set_option maxRecDepth 20000 in
set_option maxHeartbeats 4000000 in
theorem c_wlCh5 {h : qH} {F G : Nat → Nat → Int} {wl : Nat} (k : Nat) (v : Int) (hwb : 2 ≤ wl) (hwk : xk wl = 10) (hk : k < 32) : qEx M_X10_change 0 [qR wl, qI 5, qI (k : Int), qI v] [] (xput h F G) none (xput h F (gup G (wl + 3) (qup (G (wl + 3)) k v))) := by
  refine q_gen (fun r hr er eh => ?_)
  refine z_iload_n d_X10_change_0 rfl rfl ?_
  refine z_tableIn 114 d_X10_change_1 (by decide) (by decide) (off := 113) rfl (by decide) ?_
  refine z_aload_n d_X10_change_114 rfl rfl ?_
  refine z_getf (v := qR (wl + 3)) d_X10_change_115 fl_X10_26 (xput_ob (c := (F wl)) (wlx_in hwb hwk) rfl (xsh_10 hwk)) rfl ?_
  refine z_iload_n d_X10_change_118 rfl rfl ?_
  refine z_iload_n d_X10_change_119 rfl rfl ?_
  refine z_ist k d_X10_change_120 (xput_ar (g := (G (wl + 3))) (wlx_3 hwb hwk) rfl) (by omega) rfl (by omega) ?_
  refine z_eq rfl rfl (xput_sa (wlx_3 hwb hwk)) ?_
  refine z_goto 124 d_X10_change_121 (by decide) ?_
  exact z_vret d_X10_change_124 rfl er eh
set_option maxRecDepth 20000 in
set_option maxHeartbeats 4000000 in
theorem c_wlCh1 {h : qH} {F G : Nat → Nat → Int} {wl : Nat} (k : Nat) (v : Int) (hwb : 2 ≤ wl) (hwk : xk wl = 10) (hk : k < 32) : qEx M_X10_change 0 [qR wl, qI 1, qI (k : Int), qI v] [] (xput h F G) none (xput h (gup F wl (qup (F wl) 6 (qOr (F wl 6) (qShl 1 (k : Int))))) G) := by
  refine q_gen (fun r hr er eh => ?_)
  refine z_iload_n d_X10_change_0 rfl rfl ?_
  refine z_tableIn 50 d_X10_change_1 (by decide) (by decide) (off := 49) rfl (by decide) ?_
  refine z_aload_n d_X10_change_50 rfl rfl ?_
  refine z_dup d_X10_change_51 rfl ?_
  refine z_getf (v := qI ((F wl) 6)) d_X10_change_52 fl_X10_32 (xput_ob (c := (F wl)) (wlx_in hwb hwk) rfl (xsh_10 hwk)) rfl ?_
  refine z_iconst d_X10_change_55 (by decide) ?_
  refine z_iload_n d_X10_change_56 rfl rfl ?_
  refine z_ishl d_X10_change_57 ?_
  refine z_ior d_X10_change_58 ?_
  refine z_putf (fs' := [qI ((F wl) 0), qI ((F wl) 1), qR (wl + 1), qR (wl + 2), qR (wl + 3), qR (wl + 4), qI (qOr ((F wl) 6) (qShl 1 (k : Int))), qI ((F wl) 7), qI ((F wl) 8), qI ((F wl) 9), qI ((F wl) 10), qI ((F wl) 11)]) d_X10_change_59 fp_X10_32 (xput_ob (c := (F wl)) (wlx_in hwb hwk) rfl (xsh_10 hwk)) (fun _ => rfl) (fun _ => rfl) (Nat.le_of_ble_eq_true rfl) rfl ?_
  refine z_eq rfl rfl (xput_sf (c := (qup (F wl) 6 (qOr ((F wl) 6) (qShl 1 (k : Int))))) (wlx_in hwb hwk) (xsh_10 hwk)) ?_
  refine z_goto 124 d_X10_change_62 (by decide) ?_
  exact z_vret d_X10_change_124 rfl er eh
set_option maxRecDepth 20000 in
set_option maxHeartbeats 4000000 in
theorem c_wlCh2 {h : qH} {F G : Nat → Nat → Int} {wl : Nat} (k : Nat) (v : Int) (hwb : 2 ≤ wl) (hwk : xk wl = 10) (hk : k < 32) : qEx M_X10_change 0 [qR wl, qI 2, qI (k : Int), qI v] [] (xput h F G) none (xput h (gup F wl (qup (F wl) 6 (qAnd (F wl 6) (qXor (qShl 1 (k : Int)) (-1))))) G) := by
  refine q_gen (fun r hr er eh => ?_)
  refine z_iload_n d_X10_change_0 rfl rfl ?_
  refine z_tableIn 65 d_X10_change_1 (by decide) (by decide) (off := 64) rfl (by decide) ?_
  refine z_aload_n d_X10_change_65 rfl rfl ?_
  refine z_dup d_X10_change_66 rfl ?_
  refine z_getf (v := qI ((F wl) 6)) d_X10_change_67 fl_X10_32 (xput_ob (c := (F wl)) (wlx_in hwb hwk) rfl (xsh_10 hwk)) rfl ?_
  refine z_iconst d_X10_change_70 (by decide) ?_
  refine z_iload_n d_X10_change_71 rfl rfl ?_
  refine z_ishl d_X10_change_72 ?_
  refine z_iconst d_X10_change_73 (by decide) ?_
  refine z_ixor d_X10_change_74 ?_
  refine z_iand d_X10_change_75 ?_
  refine z_putf (fs' := [qI ((F wl) 0), qI ((F wl) 1), qR (wl + 1), qR (wl + 2), qR (wl + 3), qR (wl + 4), qI (qAnd ((F wl) 6) (qXor (qShl 1 (k : Int)) (-1))), qI ((F wl) 7), qI ((F wl) 8), qI ((F wl) 9), qI ((F wl) 10), qI ((F wl) 11)]) d_X10_change_76 fp_X10_32 (xput_ob (c := (F wl)) (wlx_in hwb hwk) rfl (xsh_10 hwk)) (fun _ => rfl) (fun _ => rfl) (Nat.le_of_ble_eq_true rfl) rfl ?_
  refine z_eq rfl rfl (xput_sf (c := (qup (F wl) 6 (qAnd ((F wl) 6) (qXor (qShl 1 (k : Int)) (-1))))) (wlx_in hwb hwk) (xsh_10 hwk)) ?_
  refine z_goto 124 d_X10_change_79 (by decide) ?_
  exact z_vret d_X10_change_124 rfl er eh
set_option maxRecDepth 20000 in
set_option maxHeartbeats 4000000 in
theorem c_wlCh3 {h : qH} {F G : Nat → Nat → Int} {wl : Nat} (k : Nat) (v : Int) (hwb : 2 ≤ wl) (hwk : xk wl = 10) (hk : k < 32) : qEx M_X10_change 0 [qR wl, qI 3, qI (k : Int), qI v] [] (xput h F G) none (xput h (gup F wl (qup (F wl) 7 (qOr (F wl 7) (qShl 1 (k : Int))))) G) := by
  refine q_gen (fun r hr er eh => ?_)
  refine z_iload_n d_X10_change_0 rfl rfl ?_
  refine z_tableIn 82 d_X10_change_1 (by decide) (by decide) (off := 81) rfl (by decide) ?_
  refine z_aload_n d_X10_change_82 rfl rfl ?_
  refine z_dup d_X10_change_83 rfl ?_
  refine z_getf (v := qI ((F wl) 7)) d_X10_change_84 fl_X10_35 (xput_ob (c := (F wl)) (wlx_in hwb hwk) rfl (xsh_10 hwk)) rfl ?_
  refine z_iconst d_X10_change_87 (by decide) ?_
  refine z_iload_n d_X10_change_88 rfl rfl ?_
  refine z_ishl d_X10_change_89 ?_
  refine z_ior d_X10_change_90 ?_
  refine z_putf (fs' := [qI ((F wl) 0), qI ((F wl) 1), qR (wl + 1), qR (wl + 2), qR (wl + 3), qR (wl + 4), qI ((F wl) 6), qI (qOr ((F wl) 7) (qShl 1 (k : Int))), qI ((F wl) 8), qI ((F wl) 9), qI ((F wl) 10), qI ((F wl) 11)]) d_X10_change_91 fp_X10_35 (xput_ob (c := (F wl)) (wlx_in hwb hwk) rfl (xsh_10 hwk)) (fun _ => rfl) (fun _ => rfl) (Nat.le_of_ble_eq_true rfl) rfl ?_
  refine z_eq rfl rfl (xput_sf (c := (qup (F wl) 7 (qOr ((F wl) 7) (qShl 1 (k : Int))))) (wlx_in hwb hwk) (xsh_10 hwk)) ?_
  refine z_goto 124 d_X10_change_94 (by decide) ?_
  exact z_vret d_X10_change_124 rfl er eh
set_option maxRecDepth 20000 in
set_option maxHeartbeats 4000000 in
theorem c_wlCh4 {h : qH} {F G : Nat → Nat → Int} {wl : Nat} (k : Nat) (v : Int) (hwb : 2 ≤ wl) (hwk : xk wl = 10) (hk : k < 32) : qEx M_X10_change 0 [qR wl, qI 4, qI (k : Int), qI v] [] (xput h F G) none (xput h (gup F wl (qup (F wl) 7 (qAnd (F wl 7) (qXor (qShl 1 (k : Int)) (-1))))) G) := by
  refine q_gen (fun r hr er eh => ?_)
  refine z_iload_n d_X10_change_0 rfl rfl ?_
  refine z_tableIn 97 d_X10_change_1 (by decide) (by decide) (off := 96) rfl (by decide) ?_
  refine z_aload_n d_X10_change_97 rfl rfl ?_
  refine z_dup d_X10_change_98 rfl ?_
  refine z_getf (v := qI ((F wl) 7)) d_X10_change_99 fl_X10_35 (xput_ob (c := (F wl)) (wlx_in hwb hwk) rfl (xsh_10 hwk)) rfl ?_
  refine z_iconst d_X10_change_102 (by decide) ?_
  refine z_iload_n d_X10_change_103 rfl rfl ?_
  refine z_ishl d_X10_change_104 ?_
  refine z_iconst d_X10_change_105 (by decide) ?_
  refine z_ixor d_X10_change_106 ?_
  refine z_iand d_X10_change_107 ?_
  refine z_putf (fs' := [qI ((F wl) 0), qI ((F wl) 1), qR (wl + 1), qR (wl + 2), qR (wl + 3), qR (wl + 4), qI ((F wl) 6), qI (qAnd ((F wl) 7) (qXor (qShl 1 (k : Int)) (-1))), qI ((F wl) 8), qI ((F wl) 9), qI ((F wl) 10), qI ((F wl) 11)]) d_X10_change_108 fp_X10_35 (xput_ob (c := (F wl)) (wlx_in hwb hwk) rfl (xsh_10 hwk)) (fun _ => rfl) (fun _ => rfl) (Nat.le_of_ble_eq_true rfl) rfl ?_
  refine z_eq rfl rfl (xput_sf (c := (qup (F wl) 7 (qAnd ((F wl) 7) (qXor (qShl 1 (k : Int)) (-1))))) (wlx_in hwb hwk) (xsh_10 hwk)) ?_
  refine z_goto 124 d_X10_change_111 (by decide) ?_
  exact z_vret d_X10_change_124 rfl er eh
theorem c_wlCh {h : qH} {F G : Nat → Nat → Int} {wl : Nat} {N : Nat → Int} (what : Int) (k : Nat) (v : Int) (hwb : 2 ≤ wl) (hwk : xk wl = 10) (hk : k < 32) (hw : 0 ≤ what ∧ what ≤ 5) (hW : wlR F G wl N) : ∃ F' G', (xfr wl (wl + 4) F G F' G' ∧ wlR F' G' wl (becA what k v N)) ∧ qEx M_X10_change 0 [qR wl, qI what, qI k, qI v] [] (xput h F G) none (xput h F' G') := by
  obtain ⟨h1, h2, h3⟩ := hW
  have hc : what = 0 ∨ what = 1 ∨ what = 2 ∨ what = 3 ∨ what = 4 ∨ what = 5 := by omega
  rcases hc with rfl | rfl | rfl | rfl | rfl | rfl
  · refine ⟨_, _, ⟨by exact xfr_g (xfr_rf _ _ _ _) (by omega) (by omega), ?_⟩, c_wlCh0 k v hwb hwk hk⟩
    unfold becA
    rw [if_pos rfl]
    refine ⟨?_, fun j hj => ?_, fun j hj => ?_⟩
    · rw [qup_ne (by omega), qup_ne (by omega), qup_ne (by omega), qup_ne (by omega), qup_ne (by omega), qup_ne (by omega)]; exact h1
    · rw [gup_eq, gup_ne (show wl + 2 ≠ wl + 1 by omega), gup_ne (show wl + 3 ≠ wl + 1 by omega), qup_ne (show 32 + j ≠ k by omega), qup_ne (show 128 + j ≠ k by omega)]
      refine ⟨?_, (h2 j hj).2⟩
      by_cases e : j = k
      · rw [e, qup_eq, qup_eq]
      · rw [qup_ne e, qup_ne e]; exact (h2 j hj).1
    · rw [qup_ne (show 64 + j ≠ k by omega), qup_ne (show 96 + j ≠ k by omega)]; exact h3 j hj
  · refine ⟨_, _, ⟨by exact xfr_f (xfr_rf _ _ _ _) (by omega) (by omega), ?_⟩, c_wlCh1 k v hwb hwk hk⟩
    unfold becA
    rw [if_neg (by decide)]
    rw [if_pos rfl]
    refine ⟨?_, fun j hj => ?_, fun j hj => ?_⟩
    · rw [gup_eq, show qup N (64 + k) 1 160 = N 160 from qup_ne (by omega), show qup N (64 + k) 1 161 = N 161 from qup_ne (by omega), show qup N (64 + k) 1 162 = N 162 from qup_ne (by omega), show qup N (64 + k) 1 163 = N 163 from qup_ne (by omega), show qup N (64 + k) 1 164 = N 164 from qup_ne (by omega), show qup N (64 + k) 1 165 = N 165 from qup_ne (by omega)]; exact h1
    · rw [qup_ne (by omega), qup_ne (by omega), qup_ne (by omega)]; exact h2 j hj
    · rw [gup_eq, qup_ne (show 96 + j ≠ 64 + k by omega)]
      have hthis : (tb (qOr (F wl 6) (qShl 1 (k : Int))) j = true ↔ qup N (64 + k) 1 (64 + j) = 1) := by
        rw [tb_or, tb_bit (by omega)]
        by_cases e : j = k
        · subst e
          rw [qup_eq]
          simp
        · rw [qup_ne (by omega), ← (h3 j hj).1]
          simp [e]
      exact ⟨hthis, (h3 j hj).2⟩
  · refine ⟨_, _, ⟨by exact xfr_f (xfr_rf _ _ _ _) (by omega) (by omega), ?_⟩, c_wlCh2 k v hwb hwk hk⟩
    unfold becA
    rw [if_neg (by decide)]
    rw [if_neg (by decide)]
    rw [if_pos rfl]
    refine ⟨?_, fun j hj => ?_, fun j hj => ?_⟩
    · rw [gup_eq, show qup N (64 + k) 0 160 = N 160 from qup_ne (by omega), show qup N (64 + k) 0 161 = N 161 from qup_ne (by omega), show qup N (64 + k) 0 162 = N 162 from qup_ne (by omega), show qup N (64 + k) 0 163 = N 163 from qup_ne (by omega), show qup N (64 + k) 0 164 = N 164 from qup_ne (by omega), show qup N (64 + k) 0 165 = N 165 from qup_ne (by omega)]; exact h1
    · rw [qup_ne (by omega), qup_ne (by omega), qup_ne (by omega)]; exact h2 j hj
    · rw [gup_eq, qup_ne (show 96 + j ≠ 64 + k by omega)]
      have hthis : (tb (qAnd (F wl 6) (qXor (qShl 1 (k : Int)) (-1))) j = true ↔ qup N (64 + k) 0 (64 + j) = 1) := by
        rw [tb_and, tb_not _ hj, tb_bit (by omega)]
        by_cases e : j = k
        · subst e
          rw [qup_eq]
          simp
        · rw [qup_ne (by omega), ← (h3 j hj).1]
          simp [e]
      exact ⟨hthis, (h3 j hj).2⟩
  · refine ⟨_, _, ⟨by exact xfr_f (xfr_rf _ _ _ _) (by omega) (by omega), ?_⟩, c_wlCh3 k v hwb hwk hk⟩
    unfold becA
    rw [if_neg (by decide)]
    rw [if_neg (by decide)]
    rw [if_neg (by decide)]
    rw [if_pos rfl]
    refine ⟨?_, fun j hj => ?_, fun j hj => ?_⟩
    · rw [gup_eq, show qup N (96 + k) 1 160 = N 160 from qup_ne (by omega), show qup N (96 + k) 1 161 = N 161 from qup_ne (by omega), show qup N (96 + k) 1 162 = N 162 from qup_ne (by omega), show qup N (96 + k) 1 163 = N 163 from qup_ne (by omega), show qup N (96 + k) 1 164 = N 164 from qup_ne (by omega), show qup N (96 + k) 1 165 = N 165 from qup_ne (by omega)]; exact h1
    · rw [qup_ne (by omega), qup_ne (by omega), qup_ne (by omega)]; exact h2 j hj
    · rw [gup_eq, qup_ne (show 64 + j ≠ 96 + k by omega)]
      have hthis : (tb (qOr (F wl 7) (qShl 1 (k : Int))) j = true ↔ qup N (96 + k) 1 (96 + j) = 1) := by
        rw [tb_or, tb_bit (by omega)]
        by_cases e : j = k
        · subst e
          rw [qup_eq]
          simp
        · rw [qup_ne (by omega), ← (h3 j hj).2]
          simp [e]
      exact ⟨(h3 j hj).1, hthis⟩
  · refine ⟨_, _, ⟨by exact xfr_f (xfr_rf _ _ _ _) (by omega) (by omega), ?_⟩, c_wlCh4 k v hwb hwk hk⟩
    unfold becA
    rw [if_neg (by decide)]
    rw [if_neg (by decide)]
    rw [if_neg (by decide)]
    rw [if_neg (by decide)]
    rw [if_pos rfl]
    refine ⟨?_, fun j hj => ?_, fun j hj => ?_⟩
    · rw [gup_eq, show qup N (96 + k) 0 160 = N 160 from qup_ne (by omega), show qup N (96 + k) 0 161 = N 161 from qup_ne (by omega), show qup N (96 + k) 0 162 = N 162 from qup_ne (by omega), show qup N (96 + k) 0 163 = N 163 from qup_ne (by omega), show qup N (96 + k) 0 164 = N 164 from qup_ne (by omega), show qup N (96 + k) 0 165 = N 165 from qup_ne (by omega)]; exact h1
    · rw [qup_ne (by omega), qup_ne (by omega), qup_ne (by omega)]; exact h2 j hj
    · rw [gup_eq, qup_ne (show 64 + j ≠ 96 + k by omega)]
      have hthis : (tb (qAnd (F wl 7) (qXor (qShl 1 (k : Int)) (-1))) j = true ↔ qup N (96 + k) 0 (96 + j) = 1) := by
        rw [tb_and, tb_not _ hj, tb_bit (by omega)]
        by_cases e : j = k
        · subst e
          rw [qup_eq]
          simp
        · rw [qup_ne (by omega), ← (h3 j hj).2]
          simp [e]
      exact ⟨(h3 j hj).1, hthis⟩
  · refine ⟨_, _, ⟨by exact xfr_g (xfr_rf _ _ _ _) (by omega) (by omega), ?_⟩, c_wlCh5 k v hwb hwk hk⟩
    unfold becA
    rw [if_neg (by decide)]
    rw [if_neg (by decide)]
    rw [if_neg (by decide)]
    rw [if_neg (by decide)]
    rw [if_neg (by decide)]
    refine ⟨?_, fun j hj => ?_, fun j hj => ?_⟩
    · rw [qup_ne (by omega), qup_ne (by omega), qup_ne (by omega), qup_ne (by omega), qup_ne (by omega), qup_ne (by omega)]; exact h1
    · rw [gup_eq, gup_ne (show wl + 1 ≠ wl + 3 by omega), gup_ne (show wl + 2 ≠ wl + 3 by omega), qup_ne (show j ≠ 128 + k by omega), qup_ne (show 32 + j ≠ 128 + k by omega)]
      refine ⟨(h2 j hj).1, (h2 j hj).2.1, ?_⟩
      by_cases e : j = k
      · rw [e, qup_eq, qup_eq]
      · rw [qup_ne e, qup_ne (by omega)]; exact (h2 j hj).2.2
    · rw [qup_ne (show 64 + j ≠ 128 + k by omega), qup_ne (show 96 + j ≠ 128 + k by omega)]; exact h3 j hj
set_option maxRecDepth 20000 in
set_option maxHeartbeats 4000000 in
theorem c_wlCp0 {h : qH} {F G : Nat → Nat → Int} {wl vl : Nat} (hwb : 2 ≤ wl) (hwk : xk wl = 10) (hvb : 2 ≤ vl) (hvk : xk vl = 10) (hd : wl + 4 < vl ∨ vl + 4 < wl) (h01 : F vl 1 = 0 ∨ F vl 1 = 1) : qEx M_X10_copyFrom 0 [qR wl, qR vl] [] (xput h F G) none (xput h (gup F wl (qup (qup (qup (qup (qup (qup (qup (qup (F wl) 0 (F vl 0)) 1 (F vl 1)) 6 (F vl 6)) 7 (F vl 7)) 8 (F vl 8)) 9 (F vl 9)) 10 (F vl 10)) 11 (F vl 11))) (gup (gup (gup G (wl + 1) (qcpy (G (vl + 1)) (G (wl + 1)) (Int.toNat 0) (Int.toNat 0) (Int.toNat 32))) (wl + 2) (qcpy (G (vl + 2)) (G (wl + 2)) (Int.toNat 0) (Int.toNat 0) (Int.toNat 32))) (wl + 3) (qcpy (G (vl + 3)) (G (wl + 3)) (Int.toNat 0) (Int.toNat 0) (Int.toNat 32)))) := by
  refine q_gen (fun r hr er eh => ?_)
  refine z_aload_n d_X10_copyFrom_0 rfl rfl ?_
  refine z_aload_n d_X10_copyFrom_1 rfl rfl ?_
  refine z_getf (v := qI ((F vl) 0)) d_X10_copyFrom_2 fl_X10_9 (xput_ob (c := (F vl)) (wlx_in hvb hvk) rfl (xsh_10 hvk)) rfl ?_
  refine z_putf (fs' := [qI ((F vl) 0), qI ((F wl) 1), qR (wl + 1), qR (wl + 2), qR (wl + 3), qR (wl + 4), qI ((F wl) 6), qI ((F wl) 7), qI ((F wl) 8), qI ((F wl) 9), qI ((F wl) 10), qI ((F wl) 11)]) d_X10_copyFrom_5 fp_X10_9 (xput_ob (c := (F wl)) (wlx_in hwb hwk) rfl (xsh_10 hwk)) (fun _ => rfl) (fun _ => rfl) (Nat.le_of_ble_eq_true rfl) rfl ?_
  refine z_eq rfl rfl (xput_sf (c := (qup (F wl) 0 ((F vl) 0))) (wlx_in hwb hwk) (xsh_10 hwk)) ?_
  refine z_aload_n d_X10_copyFrom_8 rfl rfl ?_
  refine z_aload_n d_X10_copyFrom_9 rfl rfl ?_
  refine z_getf (v := qI ((F vl) 1)) d_X10_copyFrom_10 fl_X10_15 (xput_ob (c := (F vl)) (wlx_in hvb hvk) (gup_ne (by omega)) (xsh_10 hvk)) rfl ?_
  refine z_putf (fs' := [qI ((F vl) 0), qI ((F vl) 1), qR (wl + 1), qR (wl + 2), qR (wl + 3), qR (wl + 4), qI ((F wl) 6), qI ((F wl) 7), qI ((F wl) 8), qI ((F wl) 9), qI ((F wl) 10), qI ((F wl) 11)]) d_X10_copyFrom_13 fp_X10_15 (xput_ob (c := (qup (F wl) 0 ((F vl) 0))) (wlx_in hwb hwk) (gup_eq _ _) (xsh_10 hwk)) (fun _ => q_nz (by exact h01)) (fun _ => q_fz (by exact h01)) (Nat.le_of_ble_eq_true rfl) rfl ?_
  refine z_eq rfl rfl ((xput_sf (c := (qup (qup (F wl) 0 ((F vl) 0)) 1 ((F vl) 1))) (wlx_in hwb hwk) (xsh_10 hwk)).trans (xput_cg (gup_gup _ _ _) rfl)) ?_
  refine z_aload_n d_X10_copyFrom_16 rfl rfl ?_
  refine z_getf (v := qR (vl + 1)) d_X10_copyFrom_17 fl_X10_19 (xput_ob (c := (F vl)) (wlx_in hvb hvk) (gup_ne (by omega)) (xsh_10 hvk)) rfl ?_
  refine z_iconst d_X10_copyFrom_20 (by decide) ?_
  refine z_aload_n d_X10_copyFrom_21 rfl rfl ?_
  refine z_getf (v := qR (wl + 1)) d_X10_copyFrom_22 fl_X10_19 (xput_ob (c := (qup (qup (F wl) 0 ((F vl) 0)) 1 ((F vl) 1))) (wlx_in hwb hwk) (gup_eq _ _) (xsh_10 hwk)) rfl ?_
  refine z_iconst d_X10_copyFrom_25 (by decide) ?_
  refine z_bipush d_X10_copyFrom_26 (by decide) ?_
  refine z_copy d_X10_copyFrom_28 lc_X10_56 (by decide) (Nat.le_of_ble_eq_true rfl) (xput_ar (g := (G (vl + 1))) (wlx_1 hvb hvk) rfl) (xput_ar (g := (G (wl + 1))) (wlx_1 hwb hwk) rfl) (by omega) (by omega) (by omega) (by omega) (by omega) (by omega) (by omega) ?_
  refine z_eq rfl rfl (xput_sa (wlx_1 hwb hwk)) ?_
  refine z_aload_n d_X10_copyFrom_31 rfl rfl ?_
  refine z_getf (v := qR (vl + 2)) d_X10_copyFrom_32 fl_X10_23 (xput_ob (c := (F vl)) (wlx_in hvb hvk) (gup_ne (by omega)) (xsh_10 hvk)) rfl ?_
  refine z_iconst d_X10_copyFrom_35 (by decide) ?_
  refine z_aload_n d_X10_copyFrom_36 rfl rfl ?_
  refine z_getf (v := qR (wl + 2)) d_X10_copyFrom_37 fl_X10_23 (xput_ob (c := (qup (qup (F wl) 0 ((F vl) 0)) 1 ((F vl) 1))) (wlx_in hwb hwk) (gup_eq _ _) (xsh_10 hwk)) rfl ?_
  refine z_iconst d_X10_copyFrom_40 (by decide) ?_
  refine z_bipush d_X10_copyFrom_41 (by decide) ?_
  refine z_copy d_X10_copyFrom_43 lc_X10_56 (by decide) (Nat.le_of_ble_eq_true rfl) (xput_ar (g := (G (vl + 2))) (wlx_2 hvb hvk) (gup_ne (by omega))) (xput_ar (g := (G (wl + 2))) (wlx_2 hwb hwk) (gup_ne (by omega))) (by omega) (by omega) (by omega) (by omega) (by omega) (by omega) (by omega) ?_
  refine z_eq rfl rfl (xput_sa (wlx_2 hwb hwk)) ?_
  refine z_aload_n d_X10_copyFrom_46 rfl rfl ?_
  refine z_getf (v := qR (vl + 3)) d_X10_copyFrom_47 fl_X10_26 (xput_ob (c := (F vl)) (wlx_in hvb hvk) (gup_ne (by omega)) (xsh_10 hvk)) rfl ?_
  refine z_iconst d_X10_copyFrom_50 (by decide) ?_
  refine z_aload_n d_X10_copyFrom_51 rfl rfl ?_
  refine z_getf (v := qR (wl + 3)) d_X10_copyFrom_52 fl_X10_26 (xput_ob (c := (qup (qup (F wl) 0 ((F vl) 0)) 1 ((F vl) 1))) (wlx_in hwb hwk) (gup_eq _ _) (xsh_10 hwk)) rfl ?_
  refine z_iconst d_X10_copyFrom_55 (by decide) ?_
  refine z_bipush d_X10_copyFrom_56 (by decide) ?_
  refine z_copy d_X10_copyFrom_58 lc_X10_56 (by decide) (Nat.le_of_ble_eq_true rfl) (xput_ar (g := (G (vl + 3))) (wlx_3 hvb hvk) ((gup_ne (by omega)).trans (gup_ne (by omega)))) (xput_ar (g := (G (wl + 3))) (wlx_3 hwb hwk) ((gup_ne (by omega)).trans (gup_ne (by omega)))) (by omega) (by omega) (by omega) (by omega) (by omega) (by omega) (by omega) ?_
  refine z_eq rfl rfl (xput_sa (wlx_3 hwb hwk)) ?_
  refine z_aload_n d_X10_copyFrom_61 rfl rfl ?_
  refine z_aload_n d_X10_copyFrom_62 rfl rfl ?_
  refine z_getf (v := qI ((F vl) 6)) d_X10_copyFrom_63 fl_X10_32 (xput_ob (c := (F vl)) (wlx_in hvb hvk) (gup_ne (by omega)) (xsh_10 hvk)) rfl ?_
  refine z_putf (fs' := [qI ((F vl) 0), qI ((F vl) 1), qR (wl + 1), qR (wl + 2), qR (wl + 3), qR (wl + 4), qI ((F vl) 6), qI ((F wl) 7), qI ((F wl) 8), qI ((F wl) 9), qI ((F wl) 10), qI ((F wl) 11)]) d_X10_copyFrom_66 fp_X10_32 (xput_ob (c := (qup (qup (F wl) 0 ((F vl) 0)) 1 ((F vl) 1))) (wlx_in hwb hwk) (gup_eq _ _) (xsh_10 hwk)) (fun _ => rfl) (fun _ => rfl) (Nat.le_of_ble_eq_true rfl) rfl ?_
  refine z_eq rfl rfl ((xput_sf (c := (qup (qup (qup (F wl) 0 ((F vl) 0)) 1 ((F vl) 1)) 6 ((F vl) 6))) (wlx_in hwb hwk) (xsh_10 hwk)).trans (xput_cg (gup_gup _ _ _) rfl)) ?_
  refine z_aload_n d_X10_copyFrom_69 rfl rfl ?_
  refine z_aload_n d_X10_copyFrom_70 rfl rfl ?_
  refine z_getf (v := qI ((F vl) 7)) d_X10_copyFrom_71 fl_X10_35 (xput_ob (c := (F vl)) (wlx_in hvb hvk) (gup_ne (by omega)) (xsh_10 hvk)) rfl ?_
  refine z_putf (fs' := [qI ((F vl) 0), qI ((F vl) 1), qR (wl + 1), qR (wl + 2), qR (wl + 3), qR (wl + 4), qI ((F vl) 6), qI ((F vl) 7), qI ((F wl) 8), qI ((F wl) 9), qI ((F wl) 10), qI ((F wl) 11)]) d_X10_copyFrom_74 fp_X10_35 (xput_ob (c := (qup (qup (qup (F wl) 0 ((F vl) 0)) 1 ((F vl) 1)) 6 ((F vl) 6))) (wlx_in hwb hwk) (gup_eq _ _) (xsh_10 hwk)) (fun _ => rfl) (fun _ => rfl) (Nat.le_of_ble_eq_true rfl) rfl ?_
  refine z_eq rfl rfl ((xput_sf (c := (qup (qup (qup (qup (F wl) 0 ((F vl) 0)) 1 ((F vl) 1)) 6 ((F vl) 6)) 7 ((F vl) 7))) (wlx_in hwb hwk) (xsh_10 hwk)).trans (xput_cg (gup_gup _ _ _) rfl)) ?_
  refine z_aload_n d_X10_copyFrom_77 rfl rfl ?_
  refine z_aload_n d_X10_copyFrom_78 rfl rfl ?_
  refine z_getf (v := qI ((F vl) 8)) d_X10_copyFrom_79 fl_X10_38 (xput_ob (c := (F vl)) (wlx_in hvb hvk) (gup_ne (by omega)) (xsh_10 hvk)) rfl ?_
  refine z_putf (fs' := [qI ((F vl) 0), qI ((F vl) 1), qR (wl + 1), qR (wl + 2), qR (wl + 3), qR (wl + 4), qI ((F vl) 6), qI ((F vl) 7), qI ((F vl) 8), qI ((F wl) 9), qI ((F wl) 10), qI ((F wl) 11)]) d_X10_copyFrom_82 fp_X10_38 (xput_ob (c := (qup (qup (qup (qup (F wl) 0 ((F vl) 0)) 1 ((F vl) 1)) 6 ((F vl) 6)) 7 ((F vl) 7))) (wlx_in hwb hwk) (gup_eq _ _) (xsh_10 hwk)) (fun _ => rfl) (fun _ => rfl) (Nat.le_of_ble_eq_true rfl) rfl ?_
  refine z_eq rfl rfl ((xput_sf (c := (qup (qup (qup (qup (qup (F wl) 0 ((F vl) 0)) 1 ((F vl) 1)) 6 ((F vl) 6)) 7 ((F vl) 7)) 8 ((F vl) 8))) (wlx_in hwb hwk) (xsh_10 hwk)).trans (xput_cg (gup_gup _ _ _) rfl)) ?_
  refine z_aload_n d_X10_copyFrom_85 rfl rfl ?_
  refine z_aload_n d_X10_copyFrom_86 rfl rfl ?_
  refine z_getf (v := qI ((F vl) 9)) d_X10_copyFrom_87 fl_X10_41 (xput_ob (c := (F vl)) (wlx_in hvb hvk) (gup_ne (by omega)) (xsh_10 hvk)) rfl ?_
  refine z_putf (fs' := [qI ((F vl) 0), qI ((F vl) 1), qR (wl + 1), qR (wl + 2), qR (wl + 3), qR (wl + 4), qI ((F vl) 6), qI ((F vl) 7), qI ((F vl) 8), qI ((F vl) 9), qI ((F wl) 10), qI ((F wl) 11)]) d_X10_copyFrom_90 fp_X10_41 (xput_ob (c := (qup (qup (qup (qup (qup (F wl) 0 ((F vl) 0)) 1 ((F vl) 1)) 6 ((F vl) 6)) 7 ((F vl) 7)) 8 ((F vl) 8))) (wlx_in hwb hwk) (gup_eq _ _) (xsh_10 hwk)) (fun _ => rfl) (fun _ => rfl) (Nat.le_of_ble_eq_true rfl) rfl ?_
  refine z_eq rfl rfl ((xput_sf (c := (qup (qup (qup (qup (qup (qup (F wl) 0 ((F vl) 0)) 1 ((F vl) 1)) 6 ((F vl) 6)) 7 ((F vl) 7)) 8 ((F vl) 8)) 9 ((F vl) 9))) (wlx_in hwb hwk) (xsh_10 hwk)).trans (xput_cg (gup_gup _ _ _) rfl)) ?_
  refine z_aload_n d_X10_copyFrom_93 rfl rfl ?_
  refine z_aload_n d_X10_copyFrom_94 rfl rfl ?_
  refine z_getf (v := qI ((F vl) 10)) d_X10_copyFrom_95 fl_X10_44 (xput_ob (c := (F vl)) (wlx_in hvb hvk) (gup_ne (by omega)) (xsh_10 hvk)) rfl ?_
  refine z_putf (fs' := [qI ((F vl) 0), qI ((F vl) 1), qR (wl + 1), qR (wl + 2), qR (wl + 3), qR (wl + 4), qI ((F vl) 6), qI ((F vl) 7), qI ((F vl) 8), qI ((F vl) 9), qI ((F vl) 10), qI ((F wl) 11)]) d_X10_copyFrom_98 fp_X10_44 (xput_ob (c := (qup (qup (qup (qup (qup (qup (F wl) 0 ((F vl) 0)) 1 ((F vl) 1)) 6 ((F vl) 6)) 7 ((F vl) 7)) 8 ((F vl) 8)) 9 ((F vl) 9))) (wlx_in hwb hwk) (gup_eq _ _) (xsh_10 hwk)) (fun _ => rfl) (fun _ => rfl) (Nat.le_of_ble_eq_true rfl) rfl ?_
  refine z_eq rfl rfl ((xput_sf (c := (qup (qup (qup (qup (qup (qup (qup (F wl) 0 ((F vl) 0)) 1 ((F vl) 1)) 6 ((F vl) 6)) 7 ((F vl) 7)) 8 ((F vl) 8)) 9 ((F vl) 9)) 10 ((F vl) 10))) (wlx_in hwb hwk) (xsh_10 hwk)).trans (xput_cg (gup_gup _ _ _) rfl)) ?_
  refine z_aload_n d_X10_copyFrom_101 rfl rfl ?_
  refine z_aload_n d_X10_copyFrom_102 rfl rfl ?_
  refine z_getf (v := qI ((F vl) 11)) d_X10_copyFrom_103 fl_X10_47 (xput_ob (c := (F vl)) (wlx_in hvb hvk) (gup_ne (by omega)) (xsh_10 hvk)) rfl ?_
  refine z_putf (fs' := [qI ((F vl) 0), qI ((F vl) 1), qR (wl + 1), qR (wl + 2), qR (wl + 3), qR (wl + 4), qI ((F vl) 6), qI ((F vl) 7), qI ((F vl) 8), qI ((F vl) 9), qI ((F vl) 10), qI ((F vl) 11)]) d_X10_copyFrom_106 fp_X10_47 (xput_ob (c := (qup (qup (qup (qup (qup (qup (qup (F wl) 0 ((F vl) 0)) 1 ((F vl) 1)) 6 ((F vl) 6)) 7 ((F vl) 7)) 8 ((F vl) 8)) 9 ((F vl) 9)) 10 ((F vl) 10))) (wlx_in hwb hwk) (gup_eq _ _) (xsh_10 hwk)) (fun _ => rfl) (fun _ => rfl) (Nat.le_of_ble_eq_true rfl) rfl ?_
  refine z_eq rfl rfl ((xput_sf (c := (qup (qup (qup (qup (qup (qup (qup (qup (F wl) 0 ((F vl) 0)) 1 ((F vl) 1)) 6 ((F vl) 6)) 7 ((F vl) 7)) 8 ((F vl) 8)) 9 ((F vl) 9)) 10 ((F vl) 10)) 11 ((F vl) 11))) (wlx_in hwb hwk) (xsh_10 hwk)).trans (xput_cg (gup_gup _ _ _) rfl)) ?_
  exact z_vret d_X10_copyFrom_109 rfl er eh
theorem c_wlCopy {h : qH} {F G : Nat → Nat → Int} {wl vl : Nat} {N : Nat → Int} (hwb : 2 ≤ wl) (hwk : xk wl = 10) (hvb : 2 ≤ vl) (hvk : xk vl = 10) (hd : wl + 4 < vl ∨ vl + 4 < wl) (h01 : N 161 = 0 ∨ N 161 = 1) (hW : wlR F G vl N) : ∃ F' G', (xfr wl (wl + 4) F G F' G' ∧ wlR F' G' wl N) ∧ qEx M_X10_copyFrom 0 [qR wl, qR vl] [] (xput h F G) none (xput h F' G') := by
  refine ⟨_, _, ⟨?_, ?_⟩, c_wlCp0 hwb hwk hvb hvk hd (by rw [hW.1.2.1]; exact h01)⟩
  · exact xfr_f (xfr_g (xfr_g (xfr_g (xfr_rf _ _ _ _) (by omega) (by omega)) (by omega) (by omega)) (by omega) (by omega)) (by omega) (by omega)
  · obtain ⟨h1, h2, h3⟩ := hW
    refine ⟨?_, fun k hk => ?_, fun k hk => ?_⟩
    · rw [gup_eq]; exact h1
    · rw [gup_eq, gup_ne (show wl + 2 ≠ wl + 3 by omega), gup_eq, gup_ne (show wl + 1 ≠ wl + 3 by omega), gup_ne (show wl + 1 ≠ wl + 2 by omega), gup_eq]
      have z : ∀ a : Nat, qcpy (G a) (G (wl + 1)) (Int.toNat 0) (Int.toNat 0) (Int.toNat 32) k = G a k := fun a => qcpy0 hk
      rw [show qcpy (G (vl + 1)) (G (wl + 1)) (Int.toNat 0) (Int.toNat 0) (Int.toNat 32) k = G (vl + 1) k from qcpy0 hk, show qcpy (G (vl + 2)) (G (wl + 2)) (Int.toNat 0) (Int.toNat 0) (Int.toNat 32) k = G (vl + 2) k from qcpy0 hk, show qcpy (G (vl + 3)) (G (wl + 3)) (Int.toNat 0) (Int.toNat 0) (Int.toNat 32) k = G (vl + 3) k from qcpy0 hk]
      exact h2 k hk
    · rw [gup_eq]; exact h3 k hk
set_option maxRecDepth 20000 in
set_option maxHeartbeats 4000000 in
theorem c_wlB0 {h : qH} {F G : Nat → Nat → Int} {wl : Nat} (n : Int) (rd : Prop) (hwb : 2 ≤ wl) (hwk : xk wl = 10) : qEx M_X10_build 0 [qR wl, qI n, qI (qb rd)] [] (xput h F G) none (xput h (gup F wl (qup (qup (qup (qup (qup (qup (qup (qup (F wl) 0 n) 1 (qb rd)) 6 0) 7 0) 8 0) 9 0) 10 (-1)) 11 0)) (gup (gup (gup G (wl + 1) (qmx 32 (fun _ => 0) (G (wl + 1)))) (wl + 2) (qmx 32 (fun _ => 0) (G (wl + 2)))) (wl + 3) (qmx 32 (fun _ => 0) (G (wl + 3))))) := by
  refine q_gen (fun r hr er eh => ?_)
  refine z_aload_n d_X10_build_0 rfl rfl ?_
  refine z_iload_n d_X10_build_1 rfl rfl ?_
  refine z_putf (fs' := [qI n, qI ((F wl) 1), qR (wl + 1), qR (wl + 2), qR (wl + 3), qR (wl + 4), qI ((F wl) 6), qI ((F wl) 7), qI ((F wl) 8), qI ((F wl) 9), qI ((F wl) 10), qI ((F wl) 11)]) d_X10_build_2 fp_X10_9 (xput_ob (c := (F wl)) (wlx_in hwb hwk) rfl (xsh_10 hwk)) (fun _ => rfl) (fun _ => rfl) (Nat.le_of_ble_eq_true rfl) rfl ?_
  refine z_eq rfl rfl (xput_sf (c := (qup (F wl) 0 n)) (wlx_in hwb hwk) (xsh_10 hwk)) ?_
  refine z_aload_n d_X10_build_5 rfl rfl ?_
  refine z_iload_n d_X10_build_6 rfl rfl ?_
  refine z_putf (fs' := [qI n, qI (qb rd), qR (wl + 1), qR (wl + 2), qR (wl + 3), qR (wl + 4), qI ((F wl) 6), qI ((F wl) 7), qI ((F wl) 8), qI ((F wl) 9), qI ((F wl) 10), qI ((F wl) 11)]) d_X10_build_7 fp_X10_15 (xput_ob (c := (qup (F wl) 0 n)) (wlx_in hwb hwk) (gup_eq _ _) (xsh_10 hwk)) (fun _ => q_nz (by first | exact qb_01 _ | omega)) (fun _ => q_fz (by first | exact qb_01 _ | omega)) (Nat.le_of_ble_eq_true rfl) rfl ?_
  refine z_eq rfl rfl ((xput_sf (c := (qup (qup (F wl) 0 n) 1 (qb rd))) (wlx_in hwb hwk) (xsh_10 hwk)).trans (xput_cg (gup_gup _ _ _) rfl)) ?_
  refine z_aload_n d_X10_build_10 rfl rfl ?_
  refine z_getf (v := qR (wl + 1)) d_X10_build_11 fl_X10_19 (xput_ob (c := (qup (qup (F wl) 0 n) 1 (qb rd))) (wlx_in hwb hwk) (gup_eq _ _) (xsh_10 hwk)) rfl ?_
  refine z_iconst d_X10_build_14 (by decide) ?_
  refine z_cs0 (M1 := M_J7_fill_53178) d_X10_build_15 ls_X10_50 k_J7_fill_53178 [qR (wl + 1), qI 0] rfl rfl (Nat.le_of_ble_eq_true rfl) (by decide) (by decide) (Nat.le_of_ble_eq_true rfl) (c_fill (xput_ar (g := (G (wl + 1))) (wlx_1 hwb hwk) rfl) (by omega) (by decide)) ?_
  refine z_eq rfl rfl (xput_sa (wlx_1 hwb hwk)) ?_
  refine z_aload_n d_X10_build_18 rfl rfl ?_
  refine z_getf (v := qR (wl + 2)) d_X10_build_19 fl_X10_23 (xput_ob (c := (qup (qup (F wl) 0 n) 1 (qb rd))) (wlx_in hwb hwk) (gup_eq _ _) (xsh_10 hwk)) rfl ?_
  refine z_iconst d_X10_build_22 (by decide) ?_
  refine z_cs0 (M1 := M_J7_fill_53178) d_X10_build_23 ls_X10_50 k_J7_fill_53178 [qR (wl + 2), qI 0] rfl rfl (Nat.le_of_ble_eq_true rfl) (by decide) (by decide) (Nat.le_of_ble_eq_true rfl) (c_fill (xput_ar (g := (G (wl + 2))) (wlx_2 hwb hwk) (gup_ne (by omega))) (by omega) (by decide)) ?_
  refine z_eq rfl rfl (xput_sa (wlx_2 hwb hwk)) ?_
  refine z_aload_n d_X10_build_26 rfl rfl ?_
  refine z_getf (v := qR (wl + 3)) d_X10_build_27 fl_X10_26 (xput_ob (c := (qup (qup (F wl) 0 n) 1 (qb rd))) (wlx_in hwb hwk) (gup_eq _ _) (xsh_10 hwk)) rfl ?_
  refine z_iconst d_X10_build_30 (by decide) ?_
  refine z_cs0 (M1 := M_J7_fill_53178) d_X10_build_31 ls_X10_50 k_J7_fill_53178 [qR (wl + 3), qI 0] rfl rfl (Nat.le_of_ble_eq_true rfl) (by decide) (by decide) (Nat.le_of_ble_eq_true rfl) (c_fill (xput_ar (g := (G (wl + 3))) (wlx_3 hwb hwk) ((gup_ne (by omega)).trans (gup_ne (by omega)))) (by omega) (by decide)) ?_
  refine z_eq rfl rfl (xput_sa (wlx_3 hwb hwk)) ?_
  refine z_aload_n d_X10_build_34 rfl rfl ?_
  refine z_iconst d_X10_build_35 (by decide) ?_
  refine z_putf (fs' := [qI n, qI (qb rd), qR (wl + 1), qR (wl + 2), qR (wl + 3), qR (wl + 4), qI 0, qI ((F wl) 7), qI ((F wl) 8), qI ((F wl) 9), qI ((F wl) 10), qI ((F wl) 11)]) d_X10_build_36 fp_X10_32 (xput_ob (c := (qup (qup (F wl) 0 n) 1 (qb rd))) (wlx_in hwb hwk) (gup_eq _ _) (xsh_10 hwk)) (fun _ => rfl) (fun _ => rfl) (Nat.le_of_ble_eq_true rfl) rfl ?_
  refine z_eq rfl rfl ((xput_sf (c := (qup (qup (qup (F wl) 0 n) 1 (qb rd)) 6 0)) (wlx_in hwb hwk) (xsh_10 hwk)).trans (xput_cg (gup_gup _ _ _) rfl)) ?_
  refine z_aload_n d_X10_build_39 rfl rfl ?_
  refine z_iconst d_X10_build_40 (by decide) ?_
  refine z_putf (fs' := [qI n, qI (qb rd), qR (wl + 1), qR (wl + 2), qR (wl + 3), qR (wl + 4), qI 0, qI 0, qI ((F wl) 8), qI ((F wl) 9), qI ((F wl) 10), qI ((F wl) 11)]) d_X10_build_41 fp_X10_35 (xput_ob (c := (qup (qup (qup (F wl) 0 n) 1 (qb rd)) 6 0)) (wlx_in hwb hwk) (gup_eq _ _) (xsh_10 hwk)) (fun _ => rfl) (fun _ => rfl) (Nat.le_of_ble_eq_true rfl) rfl ?_
  refine z_eq rfl rfl ((xput_sf (c := (qup (qup (qup (qup (F wl) 0 n) 1 (qb rd)) 6 0) 7 0)) (wlx_in hwb hwk) (xsh_10 hwk)).trans (xput_cg (gup_gup _ _ _) rfl)) ?_
  refine z_aload_n d_X10_build_44 rfl rfl ?_
  refine z_iconst d_X10_build_45 (by decide) ?_
  refine z_putf (fs' := [qI n, qI (qb rd), qR (wl + 1), qR (wl + 2), qR (wl + 3), qR (wl + 4), qI 0, qI 0, qI 0, qI ((F wl) 9), qI ((F wl) 10), qI ((F wl) 11)]) d_X10_build_46 fp_X10_38 (xput_ob (c := (qup (qup (qup (qup (F wl) 0 n) 1 (qb rd)) 6 0) 7 0)) (wlx_in hwb hwk) (gup_eq _ _) (xsh_10 hwk)) (fun _ => rfl) (fun _ => rfl) (Nat.le_of_ble_eq_true rfl) rfl ?_
  refine z_eq rfl rfl ((xput_sf (c := (qup (qup (qup (qup (qup (F wl) 0 n) 1 (qb rd)) 6 0) 7 0) 8 0)) (wlx_in hwb hwk) (xsh_10 hwk)).trans (xput_cg (gup_gup _ _ _) rfl)) ?_
  refine z_aload_n d_X10_build_49 rfl rfl ?_
  refine z_iconst d_X10_build_50 (by decide) ?_
  refine z_putf (fs' := [qI n, qI (qb rd), qR (wl + 1), qR (wl + 2), qR (wl + 3), qR (wl + 4), qI 0, qI 0, qI 0, qI 0, qI ((F wl) 10), qI ((F wl) 11)]) d_X10_build_51 fp_X10_41 (xput_ob (c := (qup (qup (qup (qup (qup (F wl) 0 n) 1 (qb rd)) 6 0) 7 0) 8 0)) (wlx_in hwb hwk) (gup_eq _ _) (xsh_10 hwk)) (fun _ => rfl) (fun _ => rfl) (Nat.le_of_ble_eq_true rfl) rfl ?_
  refine z_eq rfl rfl ((xput_sf (c := (qup (qup (qup (qup (qup (qup (F wl) 0 n) 1 (qb rd)) 6 0) 7 0) 8 0) 9 0)) (wlx_in hwb hwk) (xsh_10 hwk)).trans (xput_cg (gup_gup _ _ _) rfl)) ?_
  refine z_aload_n d_X10_build_54 rfl rfl ?_
  refine z_iconst d_X10_build_55 (by decide) ?_
  refine z_putf (fs' := [qI n, qI (qb rd), qR (wl + 1), qR (wl + 2), qR (wl + 3), qR (wl + 4), qI 0, qI 0, qI 0, qI 0, qI (-1), qI ((F wl) 11)]) d_X10_build_56 fp_X10_44 (xput_ob (c := (qup (qup (qup (qup (qup (qup (F wl) 0 n) 1 (qb rd)) 6 0) 7 0) 8 0) 9 0)) (wlx_in hwb hwk) (gup_eq _ _) (xsh_10 hwk)) (fun _ => rfl) (fun _ => rfl) (Nat.le_of_ble_eq_true rfl) rfl ?_
  refine z_eq rfl rfl ((xput_sf (c := (qup (qup (qup (qup (qup (qup (qup (F wl) 0 n) 1 (qb rd)) 6 0) 7 0) 8 0) 9 0) 10 (-1))) (wlx_in hwb hwk) (xsh_10 hwk)).trans (xput_cg (gup_gup _ _ _) rfl)) ?_
  refine z_aload_n d_X10_build_59 rfl rfl ?_
  refine z_iconst d_X10_build_60 (by decide) ?_
  refine z_putf (fs' := [qI n, qI (qb rd), qR (wl + 1), qR (wl + 2), qR (wl + 3), qR (wl + 4), qI 0, qI 0, qI 0, qI 0, qI (-1), qI 0]) d_X10_build_61 fp_X10_47 (xput_ob (c := (qup (qup (qup (qup (qup (qup (qup (F wl) 0 n) 1 (qb rd)) 6 0) 7 0) 8 0) 9 0) 10 (-1))) (wlx_in hwb hwk) (gup_eq _ _) (xsh_10 hwk)) (fun _ => rfl) (fun _ => rfl) (Nat.le_of_ble_eq_true rfl) rfl ?_
  refine z_eq rfl rfl ((xput_sf (c := (qup (qup (qup (qup (qup (qup (qup (qup (F wl) 0 n) 1 (qb rd)) 6 0) 7 0) 8 0) 9 0) 10 (-1)) 11 0)) (wlx_in hwb hwk) (xsh_10 hwk)).trans (xput_cg (gup_gup _ _ _) rfl)) ?_
  exact z_vret d_X10_build_64 rfl er eh
theorem c_wlBuild {h : qH} {F G : Nat → Nat → Int} {wl : Nat} {N : Nat → Int} (n : Int) (rd : Prop) (hwb : 2 ≤ wl) (hwk : xk wl = 10) (h160 : N 160 = n) (h161 : N 161 = qb rd) (h162 : N 162 = 0) (h163 : N 163 = 0) (h164 : N 164 = -1) (h165 : N 165 = 0) (h0 : ∀ j, j < 160 → N j = 0) : ∃ F' G', (xfr wl (wl + 4) F G F' G' ∧ wlR F' G' wl N) ∧ qEx M_X10_build 0 [qR wl, qI n, qI (qb rd)] [] (xput h F G) none (xput h F' G') := by
  refine ⟨_, _, ⟨?_, ?_⟩, c_wlB0 n rd hwb hwk⟩
  · exact xfr_f (xfr_g (xfr_g (xfr_g (xfr_rf _ _ _ _) (by omega) (by omega)) (by omega) (by omega)) (by omega) (by omega)) (by omega) (by omega)
  · refine ⟨?_, fun k hk => ?_, fun k hk => ?_⟩
    · rw [gup_eq, h160, h161, h162, h163, h164, h165]; exact ⟨rfl, rfl, rfl, rfl, rfl, rfl⟩
    · rw [gup_eq, gup_ne (show wl + 2 ≠ wl + 3 by omega), gup_eq, gup_ne (show wl + 1 ≠ wl + 3 by omega), gup_ne (show wl + 1 ≠ wl + 2 by omega), gup_eq, qmx_lt hk, qmx_lt hk, qmx_lt hk, h0 _ (by omega), h0 _ (by omega), h0 _ (by omega)]
      exact ⟨rfl, rfl, rfl⟩
    · rw [gup_eq, h0 _ (by omega), h0 _ (by omega)]
      show (tb 0 k = true ↔ (0 : Int) = 1) ∧ (tb 0 k = true ↔ (0 : Int) = 1)
      rw [tb_0]
      exact ⟨⟨fun z => absurd z (by decide), fun z => absurd z (by decide)⟩, ⟨fun z => absurd z (by decide), fun z => absurd z (by decide)⟩⟩
set_option maxRecDepth 20000 in
set_option maxHeartbeats 4000000 in
theorem c_rwHas {h : qH} {F G : Nat → Nat → Int} {q L : Nat} (i : Int) (hqb : 2 ≤ q) (hqk : xk q = 6) (hL : F q 2 = (L : Int)) (hLm : L ≤ xM q) : qEx M_X6_has 0 [qR q, qI i] [] (xput h F G) (some (qI (qb (0 ≤ i ∧ i < (L : Int))))) (xput h F G) := by
  refine q_gen (fun r hr er eh => ?_)
  have hM150 := (rwx_1 hqb hqk).2
  refine z_iload_n d_X6_has_0 rfl rfl ?_
  refine z_iconst d_X6_has_1 (by decide) ?_
  refine z_aload_n d_X6_has_2 rfl rfl ?_
  refine z_getf (v := qI ((F q) 2)) d_X6_has_3 fl_X6_9 (xput_ob (c := (F q)) (rwx_in hqb hqk) rfl (xsh_6 hqk)) rfl ?_
  refine z_eq rfl (qc (qi hL) rfl) rfl ?_
  refine z_iconst d_X6_has_6 (by decide) ?_
  refine z_isub d_X6_has_7 (by omega) ?_
  refine z_cs (M1 := M_X11_isWithin) d_X6_has_8 ls_X6_28 k_X11_isWithin [qI i, qI 0, qI ((L : Int) - 1)] rfl rfl (Nat.le_of_ble_eq_true rfl) (by decide) (by decide) (Nat.le_of_ble_eq_true rfl) (c_isWithin i 0 ((L : Int) - 1)) ?_
  exact z_zret d_X6_has_11 rfl (by first | exact qb_01 _ | decide | omega) (qer er (qb_congr (by omega))) eh
set_option maxRecDepth 20000 in
set_option maxHeartbeats 4000000 in
theorem c_rwFull {h : qH} {F G : Nat → Nat → Int} {q L : Nat} (hqb : 2 ≤ q) (hqk : xk q = 6) (hL : F q 2 = (L : Int)) (hLm : L ≤ xM q) : qEx M_X6_isFull 0 [qR q] [] (xput h F G) (some (qI (qb (L = xM q)))) (xput h F G) := by
  refine q_gen (fun r hr er eh => ?_)
  have hM150 := (rwx_1 hqb hqk).2
  refine z_aload_n d_X6_isFull_0 rfl rfl ?_
  refine z_getf (v := qI ((F q) 2)) d_X6_isFull_1 fl_X6_9 (xput_ob (c := (F q)) (rwx_in hqb hqk) rfl (xsh_6 hqk)) rfl ?_
  refine z_eq rfl (qc (qi hL) rfl) rfl ?_
  refine z_aload_n d_X6_isFull_4 rfl rfl ?_
  refine z_getf (v := qI ((xM q : Nat) : Int)) d_X6_isFull_5 fl_X6_21 (xput_ob (c := (F q)) (rwx_in hqb hqk) rfl (xsh_6 hqk)) rfl ?_
  suffices kJ8 : qEx M_X6_isFull 16 [qR q] [qI (qb ((L : Int) ≥ ((xM q : Nat) : Int)))] (xput h F G) r hr by
    refine z_icmp_lt 15 d_X6_isFull_8 (by decide) (fun hc1 => ?_) (fun hc1 => ?_)
    · refine z_iconst d_X6_isFull_15 (by decide) ?_
      exact z_eq rfl (qc (qi (qb_f (by omega)).symm) rfl) rfl kJ8
    · refine z_iconst d_X6_isFull_11 (by decide) ?_
      refine z_goto 16 d_X6_isFull_12 (by decide) ?_
      exact z_eq rfl (qc (qi (qb_t (by omega)).symm) rfl) rfl kJ8
  exact z_zret d_X6_isFull_16 rfl (by first | exact qb_01 _ | decide | omega) (qer er (qb_congr (by omega))) eh
set_option maxRecDepth 20000 in
set_option maxHeartbeats 4000000 in
theorem c_rwCell {h : qH} {F G : Nat → Nat → Int} {q L : Nat} (i c : Int) (hqb : 2 ≤ q) (hqk : xk q = 6) (hL : F q 2 = (L : Int)) (hLm : L ≤ xM q) : qEx M_X6_cell 0 [qR q, qI i, qI c, qU] [] (xput h F G) (some (qI (qif (0 ≤ i ∧ i < (L : Int) ∧ 0 ≤ c ∧ c ≤ 3) (G (q + 1) (4 * i + c).toNat) (-1)))) (xput h F G) := by
  refine q_gen (fun r hr er eh => ?_)
  have hM150 := (rwx_1 hqb hqk).2
  refine z_iload_n d_X6_cell_0 rfl rfl ?_
  refine z_iconst d_X6_cell_1 (by decide) ?_
  refine z_aload_n d_X6_cell_2 rfl rfl ?_
  refine z_getf (v := qI ((F q) 2)) d_X6_cell_3 fl_X6_9 (xput_ob (c := (F q)) (rwx_in hqb hqk) rfl (xsh_6 hqk)) rfl ?_
  refine z_eq rfl (qc (qi hL) rfl) rfl ?_
  refine z_iconst d_X6_cell_6 (by decide) ?_
  refine z_isub d_X6_cell_7 (by omega) ?_
  refine z_cs (M1 := M_X11_isWithin) d_X6_cell_8 ls_X6_28 k_X11_isWithin [qI i, qI 0, qI ((L : Int) - 1)] rfl rfl (Nat.le_of_ble_eq_true rfl) (by decide) (by decide) (Nat.le_of_ble_eq_true rfl) (c_isWithin i 0 ((L : Int) - 1)) ?_
  refine z_ifeqB 27 d_X6_cell_11 (by decide) (fun q1 => ?_) (fun q1 => ?_)
  · refine z_iconst d_X6_cell_27 (by decide) ?_
    refine z_istore_n (ls' := [qR q, qI i, qI c, qI 0]) d_X6_cell_28 rfl (by decide) rfl ?_
    refine z_iload_n d_X6_cell_29 rfl rfl ?_
    refine z_if_eq 46 d_X6_cell_30 (by decide) (fun q3 => ?_) (fun q3 => absurd (by decide) q3)
    refine z_iconst d_X6_cell_46 (by decide) ?_
    exact z_iret d_X6_cell_47 rfl (qer er (qif_f (by omega))) eh
  · refine z_iload_n d_X6_cell_14 rfl rfl ?_
    refine z_iconst d_X6_cell_15 (by decide) ?_
    refine z_iconst d_X6_cell_16 (by decide) ?_
    refine z_cs (M1 := M_X11_isWithin) d_X6_cell_17 ls_X6_28 k_X11_isWithin [qI c, qI 0, qI 3] rfl rfl (Nat.le_of_ble_eq_true rfl) (by decide) (by decide) (Nat.le_of_ble_eq_true rfl) (c_isWithin c 0 3) ?_
    refine z_ifeqB 27 d_X6_cell_20 (by decide) (fun q2 => ?_) (fun q2 => ?_)
    · refine z_iconst d_X6_cell_27 (by decide) ?_
      refine z_istore_n (ls' := [qR q, qI i, qI c, qI 0]) d_X6_cell_28 rfl (by decide) rfl ?_
      refine z_iload_n d_X6_cell_29 rfl rfl ?_
      refine z_if_eq 46 d_X6_cell_30 (by decide) (fun q3 => ?_) (fun q3 => absurd (by decide) q3)
      refine z_iconst d_X6_cell_46 (by decide) ?_
      exact z_iret d_X6_cell_47 rfl (qer er (qif_f (by omega))) eh
    · refine z_iconst d_X6_cell_23 (by decide) ?_
      refine z_goto 28 d_X6_cell_24 (by decide) ?_
      refine z_istore_n (ls' := [qR q, qI i, qI c, qI 1]) d_X6_cell_28 rfl (by decide) rfl ?_
      refine z_iload_n d_X6_cell_29 rfl rfl ?_
      refine z_if_eq 46 d_X6_cell_30 (by decide) (fun q3 => absurd q3 (by decide)) (fun q3 => ?_)
      refine z_aload_n d_X6_cell_33 rfl rfl ?_
      refine z_getf (v := qR (q + 1)) d_X6_cell_34 fl_X6_24 (xput_ob (c := (F q)) (rwx_in hqb hqk) rfl (xsh_6 hqk)) rfl ?_
      refine z_iload_n d_X6_cell_37 rfl rfl ?_
      refine z_iconst d_X6_cell_38 (by decide) ?_
      refine z_imul d_X6_cell_39 (by omega) ?_
      refine z_iload_n d_X6_cell_40 rfl rfl ?_
      refine z_iadd d_X6_cell_41 (by omega) ?_
      refine z_ild ((4 * i + c).toNat) d_X6_cell_42 (xput_ar (g := (G (q + 1))) (rwx_1 hqb hqk).1 rfl) (by omega) (by omega) ?_
      refine z_goto 47 d_X6_cell_43 (by decide) ?_
      exact z_iret d_X6_cell_47 rfl (qer er (qif_t (by omega))) eh
set_option maxRecDepth 20000 in
set_option maxHeartbeats 4000000 in
theorem c_rwAddNo {h : qH} {F G : Nat → Nat → Int} {q L : Nat} (a b c d : Int) (hqb : 2 ≤ q) (hqk : xk q = 6) (hL : F q 2 = (L : Int)) (hLm : L ≤ xM q) (hf : L = xM q) : qEx M_X6_add 0 [qR q, qI a, qI b, qI c, qI d, qU] [] (xput h F G) (some (qI 0)) (xput h F G) := by
  refine q_gen (fun r hr er eh => ?_)
  have hM150 := (rwx_1 hqb hqk).2
  refine z_aload_n d_X6_add_0 rfl rfl ?_
  refine z_cv (M1 := M_X6_isFull) d_X6_add_1 lv_X6_32 k_X6_isFull [] rfl rfl (xput_ob (c := (F q)) (rwx_in hqb hqk) rfl (xsh_6 hqk)) ⟨_, _, rfl⟩ (Nat.le_of_ble_eq_true rfl) (by decide) (by decide) (Nat.le_of_ble_eq_true rfl) (c_rwFull hqb hqk hL hLm) ?_
  refine z_ifeqB 9 d_X6_add_4 (by decide) (fun hc1 => absurd hc1 (by exact not_not_intro hf)) (fun hc1 => ?_)
  refine z_iconst d_X6_add_7 (by decide) ?_
  exact z_zret d_X6_add_8 rfl (by first | exact qb_01 _ | decide | omega) er eh
set_option maxRecDepth 20000 in
set_option maxHeartbeats 4000000 in
theorem c_rwAdd {h : qH} {F G : Nat → Nat → Int} {q L : Nat} (a b c d : Int) (hqb : 2 ≤ q) (hqk : xk q = 6) (hL : F q 2 = (L : Int)) (hLm : L ≤ xM q) (hf : L < xM q) : qEx M_X6_add 0 [qR q, qI a, qI b, qI c, qI d, qU] [] (xput h F G) (some (qI 1)) (xput h (gup F q (qup (F q) 2 ((L : Int) + 1))) (gup G (q + 1) (row4 (G (q + 1)) (4 * L) a b c d))) := by
  refine q_gen (fun r hr er eh => ?_)
  have hM150 := (rwx_1 hqb hqk).2
  refine z_aload_n d_X6_add_0 rfl rfl ?_
  refine z_cv (M1 := M_X6_isFull) d_X6_add_1 lv_X6_32 k_X6_isFull [] rfl rfl (xput_ob (c := (F q)) (rwx_in hqb hqk) rfl (xsh_6 hqk)) ⟨_, _, rfl⟩ (Nat.le_of_ble_eq_true rfl) (by decide) (by decide) (Nat.le_of_ble_eq_true rfl) (c_rwFull hqb hqk hL hLm) ?_
  refine z_ifeqB 9 d_X6_add_4 (by decide) (fun hc1 => ?_) (fun hc1 => absurd hc1 (by omega))
  refine z_aload_n d_X6_add_9 rfl rfl ?_
  refine z_getf (v := qI ((F q) 2)) d_X6_add_10 fl_X6_9 (xput_ob (c := (F q)) (rwx_in hqb hqk) rfl (xsh_6 hqk)) rfl ?_
  refine z_eq rfl (qc (qi hL) rfl) rfl ?_
  refine z_iconst d_X6_add_13 (by decide) ?_
  refine z_imul d_X6_add_14 (by omega) ?_
  refine z_istore (ls' := [qR q, qI a, qI b, qI c, qI d, qI ((L : Int) * 4)]) d_X6_add_15 (by decide) rfl ?_
  refine z_aload_n d_X6_add_17 rfl rfl ?_
  refine z_getf (v := qR (q + 1)) d_X6_add_18 fl_X6_24 (xput_ob (c := (F q)) (rwx_in hqb hqk) rfl (xsh_6 hqk)) rfl ?_
  refine z_iload d_X6_add_21 rfl ?_
  refine z_iload_n d_X6_add_23 rfl rfl ?_
  refine z_ist (L * 4) d_X6_add_24 (xput_ar (g := (G (q + 1))) (rwx_1 hqb hqk).1 rfl) (by omega) rfl (by omega) ?_
  refine z_eq rfl rfl (xput_sa (rwx_1 hqb hqk).1) ?_
  refine z_aload_n d_X6_add_25 rfl rfl ?_
  refine z_getf (v := qR (q + 1)) d_X6_add_26 fl_X6_24 (xput_ob (c := (F q)) (rwx_in hqb hqk) rfl (xsh_6 hqk)) rfl ?_
  refine z_iload d_X6_add_29 rfl ?_
  refine z_iconst d_X6_add_31 (by decide) ?_
  refine z_iadd d_X6_add_32 (by omega) ?_
  refine z_iload_n d_X6_add_33 rfl rfl ?_
  refine z_ist ((L * 4) + 1) d_X6_add_34 (xput_ar (g := (qup (G (q + 1)) (L * 4) a)) (rwx_1 hqb hqk).1 (gup_eq _ _)) (by omega) rfl (by omega) ?_
  refine z_eq rfl rfl ((xput_sa (rwx_1 hqb hqk).1).trans (xput_cg rfl (gup_gup _ _ _))) ?_
  refine z_aload_n d_X6_add_35 rfl rfl ?_
  refine z_getf (v := qR (q + 1)) d_X6_add_36 fl_X6_24 (xput_ob (c := (F q)) (rwx_in hqb hqk) rfl (xsh_6 hqk)) rfl ?_
  refine z_iload d_X6_add_39 rfl ?_
  refine z_iconst d_X6_add_41 (by decide) ?_
  refine z_iadd d_X6_add_42 (by omega) ?_
  refine z_iload_n d_X6_add_43 rfl rfl ?_
  refine z_ist ((L * 4) + 2) d_X6_add_44 (xput_ar (g := (qup (qup (G (q + 1)) (L * 4) a) ((L * 4) + 1) b)) (rwx_1 hqb hqk).1 (gup_eq _ _)) (by omega) rfl (by omega) ?_
  refine z_eq rfl rfl ((xput_sa (rwx_1 hqb hqk).1).trans (xput_cg rfl (gup_gup _ _ _))) ?_
  refine z_aload_n d_X6_add_45 rfl rfl ?_
  refine z_getf (v := qR (q + 1)) d_X6_add_46 fl_X6_24 (xput_ob (c := (F q)) (rwx_in hqb hqk) rfl (xsh_6 hqk)) rfl ?_
  refine z_iload d_X6_add_49 rfl ?_
  refine z_iconst d_X6_add_51 (by decide) ?_
  refine z_iadd d_X6_add_52 (by omega) ?_
  refine z_iload d_X6_add_53 rfl ?_
  refine z_ist ((L * 4) + 3) d_X6_add_55 (xput_ar (g := (qup (qup (qup (G (q + 1)) (L * 4) a) ((L * 4) + 1) b) ((L * 4) + 2) c)) (rwx_1 hqb hqk).1 (gup_eq _ _)) (by omega) rfl (by omega) ?_
  refine z_eq rfl rfl ((xput_sa (rwx_1 hqb hqk).1).trans (xput_cg rfl (gup_gup _ _ _))) ?_
  refine z_aload_n d_X6_add_56 rfl rfl ?_
  refine z_dup d_X6_add_57 rfl ?_
  refine z_getf (v := qI ((F q) 2)) d_X6_add_58 fl_X6_9 (xput_ob (c := (F q)) (rwx_in hqb hqk) rfl (xsh_6 hqk)) rfl ?_
  refine z_eq rfl (qc (qi hL) rfl) rfl ?_
  refine z_iconst d_X6_add_61 (by decide) ?_
  refine z_iadd d_X6_add_62 (by omega) ?_
  refine z_putf (fs' := [qR (q + 1), qI ((xM q : Nat) : Int), qI ((L : Int) + 1)]) d_X6_add_63 fp_X6_9 (xput_ob (c := (F q)) (rwx_in hqb hqk) rfl (xsh_6 hqk)) (fun _ => rfl) (fun _ => rfl) (Nat.le_of_ble_eq_true rfl) rfl ?_
  refine z_eq rfl rfl (xput_sf (c := (qup (F q) 2 ((L : Int) + 1))) (rwx_in hqb hqk) (xsh_6 hqk)) ?_
  refine z_iconst d_X6_add_66 (by decide) ?_
  exact z_zret d_X6_add_67 rfl (by first | exact qb_01 _ | decide | omega) er (eh.trans (xput_cg rfl (gup_cg rfl (by unfold row4; rw [show L * 4 = 4 * L by omega]))))
set_option maxRecDepth 20000 in
set_option maxHeartbeats 4000000 in
theorem c_rwCut {h : qH} {F G : Nat → Nat → Int} {q L : Nat} (l : Int) (hqb : 2 ≤ q) (hqk : xk q = 6) (hL : F q 2 = (L : Int)) (hLm : L ≤ xM q) (hl : 0 ≤ l ∧ l ≤ (L : Int)) : qEx M_X6_cutTo 0 [qR q, qI l] [] (xput h F G) none (xput h (gup F q (qup (F q) 2 l)) G) := by
  refine q_gen (fun r hr er eh => ?_)
  have hM150 := (rwx_1 hqb hqk).2
  refine z_iload_n d_X6_cutTo_0 rfl rfl ?_
  refine z_iconst d_X6_cutTo_1 (by decide) ?_
  refine z_aload_n d_X6_cutTo_2 rfl rfl ?_
  refine z_getf (v := qI ((F q) 2)) d_X6_cutTo_3 fl_X6_9 (xput_ob (c := (F q)) (rwx_in hqb hqk) rfl (xsh_6 hqk)) rfl ?_
  refine z_eq rfl (qc (qi hL) rfl) rfl ?_
  refine z_cs (M1 := M_X11_isWithin) d_X6_cutTo_6 ls_X6_28 k_X11_isWithin [qI l, qI 0, qI (L : Int)] rfl rfl (Nat.le_of_ble_eq_true rfl) (by decide) (by decide) (Nat.le_of_ble_eq_true rfl) (c_isWithin l 0 (L : Int)) ?_
  refine z_ifeqB 17 d_X6_cutTo_9 (by decide) (fun hc1 => absurd hc1 (by omega)) (fun hc1 => ?_)
  refine z_aload_n d_X6_cutTo_12 rfl rfl ?_
  refine z_iload_n d_X6_cutTo_13 rfl rfl ?_
  refine z_putf (fs' := [qR (q + 1), qI ((xM q : Nat) : Int), qI l]) d_X6_cutTo_14 fp_X6_9 (xput_ob (c := (F q)) (rwx_in hqb hqk) rfl (xsh_6 hqk)) (fun _ => rfl) (fun _ => rfl) (Nat.le_of_ble_eq_true rfl) rfl ?_
  refine z_eq rfl rfl (xput_sf (c := (qup (F q) 2 l)) (rwx_in hqb hqk) (xsh_6 hqk)) ?_
  exact z_vret d_X6_cutTo_17 rfl er eh
set_option maxRecDepth 20000 in
set_option maxHeartbeats 4000000 in
theorem c_rwCopy {h : qH} {F G : Nat → Nat → Int} {q p L : Nat} (hqb : 2 ≤ q) (hqk : xk q = 6) (hpb : 2 ≤ p) (hpk : xk p = 6) (hd : q + 1 < p ∨ p + 1 < q) (hL : F p 2 = (L : Int)) (hLm : L ≤ xM q) (hMp : xM p = xM q) : qEx M_X6_copyFrom 0 [qR q, qR p] [] (xput h F G) none (xput h (gup F q (qup (F q) 2 (L : Int))) (gup G (q + 1) (qcpy (G (p + 1)) (G (q + 1)) (Int.toNat 0) (Int.toNat 0) (Int.toNat ((L : Int) * 4))))) := by
  refine q_gen (fun r hr er eh => ?_)
  have hM150 := (rwx_1 hqb hqk).2
  refine z_aload_n d_X6_copyFrom_0 rfl rfl ?_
  refine z_aload_n d_X6_copyFrom_1 rfl rfl ?_
  refine z_getf (v := qI ((F p) 2)) d_X6_copyFrom_2 fl_X6_9 (xput_ob (c := (F p)) (rwx_in hpb hpk) rfl (xsh_6 hpk)) rfl ?_
  refine z_eq rfl (qc (qi hL) rfl) rfl ?_
  refine z_aload_n d_X6_copyFrom_5 rfl rfl ?_
  refine z_getf (v := qI ((xM q : Nat) : Int)) d_X6_copyFrom_6 fl_X6_21 (xput_ob (c := (F q)) (rwx_in hqb hqk) rfl (xsh_6 hqk)) rfl ?_
  refine z_min d_X6_copyFrom_9 lb_X6_36 (by decide) (Nat.le_of_ble_eq_true rfl) ?_
  refine z_eq rfl (qc (qi (show (if ((xM q : Nat) : Int) < (L : Int) then ((xM q : Nat) : Int) else (L : Int)) = (L : Int) from by rw [if_neg (by omega)])) rfl) rfl ?_
  refine z_putf (fs' := [qR (q + 1), qI ((xM q : Nat) : Int), qI (L : Int)]) d_X6_copyFrom_12 fp_X6_9 (xput_ob (c := (F q)) (rwx_in hqb hqk) rfl (xsh_6 hqk)) (fun _ => rfl) (fun _ => rfl) (Nat.le_of_ble_eq_true rfl) rfl ?_
  refine z_eq rfl rfl (xput_sf (c := (qup (F q) 2 (L : Int))) (rwx_in hqb hqk) (xsh_6 hqk)) ?_
  refine z_aload_n d_X6_copyFrom_15 rfl rfl ?_
  refine z_getf (v := qR (p + 1)) d_X6_copyFrom_16 fl_X6_24 (xput_ob (c := (F p)) (rwx_in hpb hpk) (gup_ne (by omega)) (xsh_6 hpk)) rfl ?_
  refine z_iconst d_X6_copyFrom_19 (by decide) ?_
  refine z_aload_n d_X6_copyFrom_20 rfl rfl ?_
  refine z_getf (v := qR (q + 1)) d_X6_copyFrom_21 fl_X6_24 (xput_ob (c := (qup (F q) 2 (L : Int))) (rwx_in hqb hqk) (gup_eq _ _) (xsh_6 hqk)) rfl ?_
  refine z_iconst d_X6_copyFrom_24 (by decide) ?_
  refine z_aload_n d_X6_copyFrom_25 rfl rfl ?_
  refine z_getf (v := qI (L : Int)) d_X6_copyFrom_26 fl_X6_9 (xput_ob (c := (qup (F q) 2 (L : Int))) (rwx_in hqb hqk) (gup_eq _ _) (xsh_6 hqk)) rfl ?_
  refine z_iconst d_X6_copyFrom_29 (by decide) ?_
  refine z_imul d_X6_copyFrom_30 (by omega) ?_
  refine z_copy d_X6_copyFrom_31 lc_X6_39 (by decide) (Nat.le_of_ble_eq_true rfl) (xput_ar (g := (G (p + 1))) (rwx_1 hpb hpk).1 rfl) (xput_ar (g := (G (q + 1))) (rwx_1 hqb hqk).1 rfl) (by omega) (by omega) (by omega) (by omega) (by omega) (by omega) (by omega) ?_
  refine z_eq rfl rfl (xput_sa (rwx_1 hqb hqk).1) ?_
  exact z_vret d_X6_copyFrom_34 rfl er eh
