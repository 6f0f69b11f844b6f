/-! ===== CONSTRUCTORS: cells laid at the end of the heap ===== -/
def qap (h : qH) (k : Nat) (L : List qC) : qH := (h.1 + L.length, h.2.1 + k, fun q => if h.1 ≤ q then (L[q - h.1]?).getD (h.2.2 q) else h.2.2 q)
section QAp
variable {h : qH} {k : Nat} {L : List qC}
theorem qap_at {j : Nat} {c : qC} (e : L[j]? = some c) : (qap h k L).2.2 (h.1 + j) = c := by
  show (if h.1 ≤ h.1 + j then (L[h.1 + j - h.1]?).getD _ else _) = c
  rw [if_pos (Nat.le_add_right _ _), Nat.add_sub_cancel_left, e]
  rfl
theorem qap_old {a : Nat} (ha : a < h.1) : (qap h k L).2.2 a = h.2.2 a := if_neg (Nat.not_le.mpr ha)
theorem qap_set {j : Nat} {c : qC} (hj : j < L.length) : qset (qap h k L) (h.1 + j) c = qap h k (L.set j c) := by
  unfold qset qap
  simp only [List.length_set]
  congr 2
  funext q
  by_cases hq : h.1 ≤ q
  · rw [if_pos hq, if_pos hq, List.getElem?_set]
    by_cases e : q = h.1 + j
    · subst e
      rw [if_pos rfl, Nat.add_sub_cancel_left, if_pos rfl, if_pos hj]
      rfl
    · rw [if_neg e, if_neg (by omega)]
  · rw [if_neg hq, if_neg (by omega), if_neg hq]
theorem qap_new {c : qC} {s : Nat} : qnew (qap h k L) c s = qap h (k + s) (L ++ [c]) := by
  unfold qnew qap
  simp only [List.length_append, List.length_cons, List.length_nil, Nat.add_assoc]
  congr 2
  funext q
  by_cases hq : h.1 ≤ q
  · rw [if_pos hq]
    by_cases e : q = h.1 + L.length
    · subst e
      rw [if_pos rfl, if_pos hq, Nat.add_sub_cancel_left, List.getElem?_append_right (Nat.le_refl _), Nat.sub_self]
      rfl
    · rw [if_neg e, if_pos hq]
      rcases Nat.lt_or_ge (q - h.1) L.length with z | z
      · rw [List.getElem?_append_left z]
      · rw [List.getElem?_eq_none z, List.getElem?_eq_none (by rw [List.length_append]; show L.length + 1 ≤ _; omega)]
  · rw [if_neg hq, if_neg (by omega), if_neg hq]
theorem qap_ap {k2 : Nat} {L2 : List qC} : qap (qap h k L) k2 L2 = qap h (k + k2) (L ++ L2) := by
  unfold qap
  simp only [List.length_append, Nat.add_assoc]
  congr 2
  funext q
  by_cases hq : h.1 ≤ q
  · rw [if_pos hq, if_pos hq]
    rcases Nat.lt_or_ge (q - h.1) L.length with z | z
    · rw [if_neg (by omega), List.getElem?_append_left z]
    · rw [if_pos (by omega), List.getElem?_append_right z, List.getElem?_eq_none z, show q - h.1 - L.length = q - (h.1 + L.length) by omega]
      rfl
  · rw [if_neg (by omega), if_neg hq, if_neg hq]
theorem qap_one {c : qC} {s : Nat} : qnew h c s = qap h s [c] := by
  unfold qnew qap
  congr 2
  funext q
  by_cases hq : h.1 ≤ q
  · rw [if_pos hq]
    by_cases e : q = h.1
    · subst e
      rw [if_pos rfl, Nat.sub_self]
      rfl
    · rw [if_neg e, List.getElem?_eq_none (by show 1 ≤ _; omega)]
      rfl
  · rw [if_neg hq, if_neg (by omega)]
end QAp
theorem qap_sh {h : qH} {k : Nat} {T : List qC} {c d : qC} : qset (qap h k (c :: T)) h.1 d = qap h k (d :: T) := qap_set (j := 0) (Nat.succ_pos _)
theorem qap_hd {h : qH} {k : Nat} {T : List qC} {c : qC} : (qap h k (c :: T)).2.2 h.1 = c := qap_at (j := 0) rfl
theorem qap_apc {h : qH} {k k2 : Nat} {T L2 : List qC} {c : qC} : qap (qap h k (c :: T)) k2 L2 = qap h (k + k2) (c :: (T ++ L2)) := qap_ap
theorem qap_nwc {h : qH} {k s : Nat} {T : List qC} {c d : qC} : qnew (qap h k (c :: T)) d s = qap h (k + s) (c :: (T ++ [d])) := qap_new
theorem qap_ln {h : qH} {k j : Nat} {T : List qC} {c : qC} (e : T.length + 1 = j) : (qap h k (c :: T)).1 = h.1 + j := by rw [← e]; rfl
def fil (v : Nat → Int) (i : Nat) : Nat → Int := fun j => if j < i then v j else 0
theorem fil_0 (v : Nat → Int) : (fun _ => (0 : Int)) = fil v 0 := by funext j; unfold fil; rw [if_neg (Nat.not_lt_zero _)]
theorem fil_up (v : Nat → Int) (i : Nat) {x : Int} (e : v i = x) : qup (fil v i) i x = fil v (i + 1) := by
  funext j
  unfold qup fil
  by_cases h : j = i
  · subst h; rw [if_pos rfl, if_pos (Nat.lt_succ_self _), e]
  · rw [if_neg h]
    by_cases h2 : j < i
    · rw [if_pos h2, if_pos (by omega)]
    · rw [if_neg h2, if_neg (by omega)]
def sd0 : Nat → Int := fun c => ((c / 81 : Nat) : Int)
def dd0 : Nat → Int := fun _ => -1
theorem cl_X0_9 : Cond.classLink RX0 9 RX2 ∈ qTbl := (qT 42 (by decide +kernel) rfl)
theorem cl_X3_9 : Cond.classLink RX3 9 RX10 ∈ qTbl := (qT 207 (by decide +kernel) rfl)
def gPg (n : Nat) : List qC := [qOb 2 [qR (n + 1), qR (n + 2), qR (n + 3), qR (n + 4), qI 0], qAr 0 9 (fun _ => 0), qAr 0 9 (fun _ => 0), qAr 0 9 (fun _ => 0), qAr 0 24 (fun _ => 0)]
theorem i_gPg {h : qH} {n : Nat} (hn : h.1 = n) (h2 : 2 ≤ h.1) : qEx M_X2_init 0 [qR n] [] (qap h 5 [qOb 2 [qN, qN, qN, qN, qI 0]]) none (qap h 56 (gPg n)) := by
  subst hn
  show qEx _ _ _ _ _ _ (qap h 56 [qOb 2 [qR (h.1 + 1), qR (h.1 + 2), qR (h.1 + 3), qR (h.1 + 4), qI 0], qAr 0 9 (fun _ => 0), qAr 0 9 (fun _ => 0), qAr 0 9 (fun _ => 0), qAr 0 24 (fun _ => 0)])
  refine z_aload_n d_X2_init_0 rfl rfl ?_
  refine z_objinit d_X2_init_1 lo_X2_3 lo_i lo_c (by decide) (Nat.le_of_ble_eq_true rfl) ?_
  refine z_aload_n d_X2_init_4 rfl rfl ?_
  refine z_bipush d_X2_init_5 (by decide) ?_
  refine z_newI d_X2_init_7 ac_int (by decide) (by decide) ?_
  refine z_eq rfl rfl qap_new ?_
  show qEx M_X2_init 9 [qR h.1] [qR (h.1 + 1), qR h.1] (qap h 14 [qOb 2 [qN, qN, qN, qN, qI 0], qAr 0 9 (fun _ => 0)]) none _
  refine z_putF (fs' := [qR (h.1 + 1), qN, qN, qN, qI 0]) d_X2_init_9 fp_X2_9 rfl (qap_at (j := 0) rfl) (fun _ => rfl) (fun _ => rfl) (Nat.le_of_ble_eq_true rfl) rfl ?_
  refine z_eq rfl rfl (qap_set (j := 0) (Nat.le_of_ble_eq_true rfl)) ?_
  show qEx M_X2_init 12 [qR h.1] [] (qap h 14 [qOb 2 [qR (h.1 + 1), qN, qN, qN, qI 0], qAr 0 9 (fun _ => 0)]) none _
  refine z_aload_n d_X2_init_12 rfl rfl ?_
  refine z_bipush d_X2_init_13 (by decide) ?_
  refine z_newI d_X2_init_15 ac_int (by decide) (by decide) ?_
  refine z_eq rfl rfl qap_new ?_
  show qEx M_X2_init 17 [qR h.1] [qR (h.1 + 2), qR h.1] (qap h 23 [qOb 2 [qR (h.1 + 1), qN, qN, qN, qI 0], qAr 0 9 (fun _ => 0), qAr 0 9 (fun _ => 0)]) none _
  refine z_putF (fs' := [qR (h.1 + 1), qR (h.1 + 2), qN, qN, qI 0]) d_X2_init_17 fp_X2_15 rfl (qap_at (j := 0) rfl) (fun _ => rfl) (fun _ => rfl) (Nat.le_of_ble_eq_true rfl) rfl ?_
  refine z_eq rfl rfl (qap_set (j := 0) (Nat.le_of_ble_eq_true rfl)) ?_
  show qEx M_X2_init 20 [qR h.1] [] (qap h 23 [qOb 2 [qR (h.1 + 1), qR (h.1 + 2), qN, qN, qI 0], qAr 0 9 (fun _ => 0), qAr 0 9 (fun _ => 0)]) none _
  refine z_aload_n d_X2_init_20 rfl rfl ?_
  refine z_bipush d_X2_init_21 (by decide) ?_
  refine z_newI d_X2_init_23 ac_int (by decide) (by decide) ?_
  refine z_eq rfl rfl qap_new ?_
  show qEx M_X2_init 25 [qR h.1] [qR (h.1 + 3), qR h.1] (qap h 32 [qOb 2 [qR (h.1 + 1), qR (h.1 + 2), qN, qN, qI 0], qAr 0 9 (fun _ => 0), qAr 0 9 (fun _ => 0), qAr 0 9 (fun _ => 0)]) none _
  refine z_putF (fs' := [qR (h.1 + 1), qR (h.1 + 2), qR (h.1 + 3), qN, qI 0]) d_X2_init_25 fp_X2_18 rfl (qap_at (j := 0) rfl) (fun _ => rfl) (fun _ => rfl) (Nat.le_of_ble_eq_true rfl) rfl ?_
  refine z_eq rfl rfl (qap_set (j := 0) (Nat.le_of_ble_eq_true rfl)) ?_
  show qEx M_X2_init 28 [qR h.1] [] (qap h 32 [qOb 2 [qR (h.1 + 1), qR (h.1 + 2), qR (h.1 + 3), qN, qI 0], qAr 0 9 (fun _ => 0), qAr 0 9 (fun _ => 0), qAr 0 9 (fun _ => 0)]) none _
  refine z_aload_n d_X2_init_28 rfl rfl ?_
  refine z_bipush d_X2_init_29 (by decide) ?_
  refine z_newI d_X2_init_31 ac_int (by decide) (by decide) ?_
  refine z_eq rfl rfl qap_new ?_
  show qEx M_X2_init 33 [qR h.1] [qR (h.1 + 4), qR h.1] (qap h 56 [qOb 2 [qR (h.1 + 1), qR (h.1 + 2), qR (h.1 + 3), qN, qI 0], qAr 0 9 (fun _ => 0), qAr 0 9 (fun _ => 0), qAr 0 9 (fun _ => 0), qAr 0 24 (fun _ => 0)]) none _
  refine z_putF (fs' := [qR (h.1 + 1), qR (h.1 + 2), qR (h.1 + 3), qR (h.1 + 4), qI 0]) d_X2_init_33 fp_X2_21 rfl (qap_at (j := 0) rfl) (fun _ => rfl) (fun _ => rfl) (Nat.le_of_ble_eq_true rfl) rfl ?_
  refine z_eq rfl rfl (qap_set (j := 0) (Nat.le_of_ble_eq_true rfl)) ?_
  show qEx M_X2_init 36 [qR h.1] [] (qap h 56 [qOb 2 [qR (h.1 + 1), qR (h.1 + 2), qR (h.1 + 3), qR (h.1 + 4), qI 0], qAr 0 9 (fun _ => 0), qAr 0 9 (fun _ => 0), qAr 0 9 (fun _ => 0), qAr 0 24 (fun _ => 0)]) none _
  refine z_aload_n d_X2_init_36 rfl rfl ?_
  refine z_iconst d_X2_init_37 (by decide) ?_
  refine z_putf (fs' := [qR (h.1 + 1), qR (h.1 + 2), qR (h.1 + 3), qR (h.1 + 4), qI 0]) d_X2_init_38 fp_X2_24 (qap_at (j := 0) rfl) (fun _ => rfl) (fun _ => rfl) (Nat.le_of_ble_eq_true rfl) rfl ?_
  refine z_eq rfl rfl (qap_set (j := 0) (Nat.le_of_ble_eq_true rfl)) ?_
  show qEx M_X2_init 41 [qR h.1] [] (qap h 56 [qOb 2 [qR (h.1 + 1), qR (h.1 + 2), qR (h.1 + 3), qR (h.1 + 4), qI 0], qAr 0 9 (fun _ => 0), qAr 0 9 (fun _ => 0), qAr 0 9 (fun _ => 0), qAr 0 24 (fun _ => 0)]) none _
  exact z_vret d_X2_init_41 rfl rfl rfl
theorem l_gPg {n : Nat} : (gPg n).length = 5 := by simp only [gPg, List.length_append, List.length_cons, List.length_nil]
def gFb (n : Nat) : List qC := [qOb 1 [qR (n + 1), qR (n + 2)], qAr 1 72 (fun _ => 0), qAr 1 72 (fun _ => 0)]
theorem i_gFb {h : qH} {n : Nat} (hn : h.1 = n) (h2 : 2 ≤ h.1) : qEx M_X1_init 0 [qR n] [] (qap h 2 [qOb 1 [qN, qN]]) none (qap h 146 (gFb n)) := by
  subst hn
  show qEx _ _ _ _ _ _ (qap h 146 [qOb 1 [qR (h.1 + 1), qR (h.1 + 2)], qAr 1 72 (fun _ => 0), qAr 1 72 (fun _ => 0)])
  refine z_aload_n d_X1_init_0 rfl rfl ?_
  refine z_objinit d_X1_init_1 lo_X1_3 lo_i lo_c (by decide) (Nat.le_of_ble_eq_true rfl) ?_
  refine z_aload_n d_X1_init_4 rfl rfl ?_
  refine z_bipush d_X1_init_5 (by decide) ?_
  refine z_newJ d_X1_init_7 ac_long (by decide) (by decide) ?_
  refine z_eq rfl rfl qap_new ?_
  show qEx M_X1_init 9 [qR h.1] [qR (h.1 + 1), qR h.1] (qap h 74 [qOb 1 [qN, qN], qAr 1 72 (fun _ => 0)]) none _
  refine z_putf (fs' := [qR (h.1 + 1), qN]) d_X1_init_9 fp_X1_9 (qap_at (j := 0) rfl) (fun _ => rfl) (fun _ => rfl) (Nat.le_of_ble_eq_true rfl) rfl ?_
  refine z_eq rfl rfl (qap_set (j := 0) (Nat.le_of_ble_eq_true rfl)) ?_
  show qEx M_X1_init 12 [qR h.1] [] (qap h 74 [qOb 1 [qR (h.1 + 1), qN], qAr 1 72 (fun _ => 0)]) none _
  refine z_aload_n d_X1_init_12 rfl rfl ?_
  refine z_bipush d_X1_init_13 (by decide) ?_
  refine z_newJ d_X1_init_15 ac_long (by decide) (by decide) ?_
  refine z_eq rfl rfl qap_new ?_
  show qEx M_X1_init 17 [qR h.1] [qR (h.1 + 2), qR h.1] (qap h 146 [qOb 1 [qR (h.1 + 1), qN], qAr 1 72 (fun _ => 0), qAr 1 72 (fun _ => 0)]) none _
  refine z_putf (fs' := [qR (h.1 + 1), qR (h.1 + 2)]) d_X1_init_17 fp_X1_15 (qap_at (j := 0) rfl) (fun _ => rfl) (fun _ => rfl) (Nat.le_of_ble_eq_true rfl) rfl ?_
  refine z_eq rfl rfl (qap_set (j := 0) (Nat.le_of_ble_eq_true rfl)) ?_
  show qEx M_X1_init 20 [qR h.1] [] (qap h 146 [qOb 1 [qR (h.1 + 1), qR (h.1 + 2)], qAr 1 72 (fun _ => 0), qAr 1 72 (fun _ => 0)]) none _
  exact z_vret d_X1_init_20 rfl rfl rfl
theorem l_gFb {n : Nat} : (gFb n).length = 3 := by simp only [gFb, List.length_append, List.length_cons, List.length_nil, l_gPg]
def gRw16 (n : Nat) : List qC := [qOb 6 [qR (n + 1), qI 16, qI 0], qAr 0 64 (fun _ => 0)]
theorem i_gRw16 {h : qH} {n : Nat} (hn : h.1 = n) (h2 : 2 ≤ h.1) : qEx M_X6_init 0 [qR n, qI 16] [] (qap h 3 [qOb 6 [qN, qI 0, qI 0]]) none (qap h 67 (gRw16 n)) := by
  subst hn
  show qEx _ _ _ _ _ _ (qap h 67 [qOb 6 [qR (h.1 + 1), qI 16, qI 0], qAr 0 64 (fun _ => 0)])
  refine z_aload_n d_X6_init_0 rfl rfl ?_
  refine z_objinit d_X6_init_1 lo_X6_3 lo_i lo_c (by decide) (Nat.le_of_ble_eq_true rfl) ?_
  refine z_aload_n d_X6_init_4 rfl rfl ?_
  refine z_iconst d_X6_init_5 (by decide) ?_
  refine z_putf (fs' := [qN, qI 0, qI 0]) d_X6_init_6 fp_X6_9 (qap_at (j := 0) rfl) (fun _ => rfl) (fun _ => rfl) (Nat.le_of_ble_eq_true rfl) rfl ?_
  refine z_eq rfl rfl (qap_set (j := 0) (Nat.le_of_ble_eq_true rfl)) ?_
  show qEx M_X6_init 9 [qR h.1, qI 16] [] (qap h 3 [qOb 6 [qN, qI 0, qI 0]]) none _
  refine z_aload_n d_X6_init_9 rfl rfl ?_
  refine z_iconst d_X6_init_10 (by decide) ?_
  refine z_iload_n d_X6_init_11 rfl rfl ?_
  refine z_max d_X6_init_12 lb_X6_15 (by decide) (Nat.le_of_ble_eq_true rfl) ?_
  refine z_eq rfl (qc (qi (show _ = 16 by decide)) rfl) rfl ?_
  refine z_putF (fs' := [qN, qI 16, qI 0]) d_X6_init_15 fp_X6_21 rfl (qap_at (j := 0) rfl) (fun _ => rfl) (fun _ => rfl) (Nat.le_of_ble_eq_true rfl) rfl ?_
  refine z_eq rfl rfl (qap_set (j := 0) (Nat.le_of_ble_eq_true rfl)) ?_
  show qEx M_X6_init 18 [qR h.1, qI 16] [] (qap h 3 [qOb 6 [qN, qI 16, qI 0]]) none _
  refine z_aload_n d_X6_init_18 rfl rfl ?_
  refine z_aload_n d_X6_init_19 rfl rfl ?_
  refine z_getf (v := qI 16) d_X6_init_20 fl_X6_21 (qap_at (j := 0) rfl) rfl ?_
  refine z_iconst d_X6_init_23 (by decide) ?_
  refine z_imul d_X6_init_24 (by decide) ?_
  show qEx M_X6_init 25 [qR h.1, qI 16] [qI 64, qR h.1] (qap h 3 [qOb 6 [qN, qI 16, qI 0]]) none _
  refine z_newI d_X6_init_25 ac_int (by decide) (by decide) ?_
  refine z_eq rfl rfl qap_new ?_
  show qEx M_X6_init 27 [qR h.1, qI 16] [qR (h.1 + 1), qR h.1] (qap h 67 [qOb 6 [qN, qI 16, qI 0], qAr 0 64 (fun _ => 0)]) none _
  refine z_putF (fs' := [qR (h.1 + 1), qI 16, qI 0]) d_X6_init_27 fp_X6_24 rfl (qap_at (j := 0) rfl) (fun _ => rfl) (fun _ => rfl) (Nat.le_of_ble_eq_true rfl) rfl ?_
  refine z_eq rfl rfl (qap_set (j := 0) (Nat.le_of_ble_eq_true rfl)) ?_
  show qEx M_X6_init 30 [qR h.1, qI 16] [] (qap h 67 [qOb 6 [qR (h.1 + 1), qI 16, qI 0], qAr 0 64 (fun _ => 0)]) none _
  exact z_vret d_X6_init_30 rfl rfl rfl
theorem l_gRw16 {n : Nat} : (gRw16 n).length = 2 := by simp only [gRw16, List.length_append, List.length_cons, List.length_nil, l_gPg, l_gFb]
def gRw150 (n : Nat) : List qC := [qOb 6 [qR (n + 1), qI 150, qI 0], qAr 0 600 (fun _ => 0)]
theorem i_gRw150 {h : qH} {n : Nat} (hn : h.1 = n) (h2 : 2 ≤ h.1) : qEx M_X6_init 0 [qR n, qI 150] [] (qap h 3 [qOb 6 [qN, qI 0, qI 0]]) none (qap h 603 (gRw150 n)) := by
  subst hn
  show qEx _ _ _ _ _ _ (qap h 603 [qOb 6 [qR (h.1 + 1), qI 150, qI 0], qAr 0 600 (fun _ => 0)])
  refine z_aload_n d_X6_init_0 rfl rfl ?_
  refine z_objinit d_X6_init_1 lo_X6_3 lo_i lo_c (by decide) (Nat.le_of_ble_eq_true rfl) ?_
  refine z_aload_n d_X6_init_4 rfl rfl ?_
  refine z_iconst d_X6_init_5 (by decide) ?_
  refine z_putf (fs' := [qN, qI 0, qI 0]) d_X6_init_6 fp_X6_9 (qap_at (j := 0) rfl) (fun _ => rfl) (fun _ => rfl) (Nat.le_of_ble_eq_true rfl) rfl ?_
  refine z_eq rfl rfl (qap_set (j := 0) (Nat.le_of_ble_eq_true rfl)) ?_
  show qEx M_X6_init 9 [qR h.1, qI 150] [] (qap h 3 [qOb 6 [qN, qI 0, qI 0]]) none _
  refine z_aload_n d_X6_init_9 rfl rfl ?_
  refine z_iconst d_X6_init_10 (by decide) ?_
  refine z_iload_n d_X6_init_11 rfl rfl ?_
  refine z_max d_X6_init_12 lb_X6_15 (by decide) (Nat.le_of_ble_eq_true rfl) ?_
  refine z_eq rfl (qc (qi (show _ = 150 by decide)) rfl) rfl ?_
  refine z_putF (fs' := [qN, qI 150, qI 0]) d_X6_init_15 fp_X6_21 rfl (qap_at (j := 0) rfl) (fun _ => rfl) (fun _ => rfl) (Nat.le_of_ble_eq_true rfl) rfl ?_
  refine z_eq rfl rfl (qap_set (j := 0) (Nat.le_of_ble_eq_true rfl)) ?_
  show qEx M_X6_init 18 [qR h.1, qI 150] [] (qap h 3 [qOb 6 [qN, qI 150, qI 0]]) none _
  refine z_aload_n d_X6_init_18 rfl rfl ?_
  refine z_aload_n d_X6_init_19 rfl rfl ?_
  refine z_getf (v := qI 150) d_X6_init_20 fl_X6_21 (qap_at (j := 0) rfl) rfl ?_
  refine z_iconst d_X6_init_23 (by decide) ?_
  refine z_imul d_X6_init_24 (by decide) ?_
  show qEx M_X6_init 25 [qR h.1, qI 150] [qI 600, qR h.1] (qap h 3 [qOb 6 [qN, qI 150, qI 0]]) none _
  refine z_newI d_X6_init_25 ac_int (by decide) (by decide) ?_
  refine z_eq rfl rfl qap_new ?_
  show qEx M_X6_init 27 [qR h.1, qI 150] [qR (h.1 + 1), qR h.1] (qap h 603 [qOb 6 [qN, qI 150, qI 0], qAr 0 600 (fun _ => 0)]) none _
  refine z_putF (fs' := [qR (h.1 + 1), qI 150, qI 0]) d_X6_init_27 fp_X6_24 rfl (qap_at (j := 0) rfl) (fun _ => rfl) (fun _ => rfl) (Nat.le_of_ble_eq_true rfl) rfl ?_
  refine z_eq rfl rfl (qap_set (j := 0) (Nat.le_of_ble_eq_true rfl)) ?_
  show qEx M_X6_init 30 [qR h.1, qI 150] [] (qap h 603 [qOb 6 [qR (h.1 + 1), qI 150, qI 0], qAr 0 600 (fun _ => 0)]) none _
  exact z_vret d_X6_init_30 rfl rfl rfl
theorem l_gRw150 {n : Nat} : (gRw150 n).length = 2 := by simp only [gRw150, List.length_append, List.length_cons, List.length_nil, l_gPg, l_gFb, l_gRw16]
def gRw8 (n : Nat) : List qC := [qOb 6 [qR (n + 1), qI 8, qI 0], qAr 0 32 (fun _ => 0)]
theorem i_gRw8 {h : qH} {n : Nat} (hn : h.1 = n) (h2 : 2 ≤ h.1) : qEx M_X6_init 0 [qR n, qI 8] [] (qap h 3 [qOb 6 [qN, qI 0, qI 0]]) none (qap h 35 (gRw8 n)) := by
  subst hn
  show qEx _ _ _ _ _ _ (qap h 35 [qOb 6 [qR (h.1 + 1), qI 8, qI 0], qAr 0 32 (fun _ => 0)])
  refine z_aload_n d_X6_init_0 rfl rfl ?_
  refine z_objinit d_X6_init_1 lo_X6_3 lo_i lo_c (by decide) (Nat.le_of_ble_eq_true rfl) ?_
  refine z_aload_n d_X6_init_4 rfl rfl ?_
  refine z_iconst d_X6_init_5 (by decide) ?_
  refine z_putf (fs' := [qN, qI 0, qI 0]) d_X6_init_6 fp_X6_9 (qap_at (j := 0) rfl) (fun _ => rfl) (fun _ => rfl) (Nat.le_of_ble_eq_true rfl) rfl ?_
  refine z_eq rfl rfl (qap_set (j := 0) (Nat.le_of_ble_eq_true rfl)) ?_
  show qEx M_X6_init 9 [qR h.1, qI 8] [] (qap h 3 [qOb 6 [qN, qI 0, qI 0]]) none _
  refine z_aload_n d_X6_init_9 rfl rfl ?_
  refine z_iconst d_X6_init_10 (by decide) ?_
  refine z_iload_n d_X6_init_11 rfl rfl ?_
  refine z_max d_X6_init_12 lb_X6_15 (by decide) (Nat.le_of_ble_eq_true rfl) ?_
  refine z_eq rfl (qc (qi (show _ = 8 by decide)) rfl) rfl ?_
  refine z_putF (fs' := [qN, qI 8, qI 0]) d_X6_init_15 fp_X6_21 rfl (qap_at (j := 0) rfl) (fun _ => rfl) (fun _ => rfl) (Nat.le_of_ble_eq_true rfl) rfl ?_
  refine z_eq rfl rfl (qap_set (j := 0) (Nat.le_of_ble_eq_true rfl)) ?_
  show qEx M_X6_init 18 [qR h.1, qI 8] [] (qap h 3 [qOb 6 [qN, qI 8, qI 0]]) none _
  refine z_aload_n d_X6_init_18 rfl rfl ?_
  refine z_aload_n d_X6_init_19 rfl rfl ?_
  refine z_getf (v := qI 8) d_X6_init_20 fl_X6_21 (qap_at (j := 0) rfl) rfl ?_
  refine z_iconst d_X6_init_23 (by decide) ?_
  refine z_imul d_X6_init_24 (by decide) ?_
  show qEx M_X6_init 25 [qR h.1, qI 8] [qI 32, qR h.1] (qap h 3 [qOb 6 [qN, qI 8, qI 0]]) none _
  refine z_newI d_X6_init_25 ac_int (by decide) (by decide) ?_
  refine z_eq rfl rfl qap_new ?_
  show qEx M_X6_init 27 [qR h.1, qI 8] [qR (h.1 + 1), qR h.1] (qap h 35 [qOb 6 [qN, qI 8, qI 0], qAr 0 32 (fun _ => 0)]) none _
  refine z_putF (fs' := [qR (h.1 + 1), qI 8, qI 0]) d_X6_init_27 fp_X6_24 rfl (qap_at (j := 0) rfl) (fun _ => rfl) (fun _ => rfl) (Nat.le_of_ble_eq_true rfl) rfl ?_
  refine z_eq rfl rfl (qap_set (j := 0) (Nat.le_of_ble_eq_true rfl)) ?_
  show qEx M_X6_init 30 [qR h.1, qI 8] [] (qap h 35 [qOb 6 [qR (h.1 + 1), qI 8, qI 0], qAr 0 32 (fun _ => 0)]) none _
  exact z_vret d_X6_init_30 rfl rfl rfl
theorem l_gRw8 {n : Nat} : (gRw8 n).length = 2 := by simp only [gRw8, List.length_append, List.length_cons, List.length_nil, l_gPg, l_gFb, l_gRw16, l_gRw150]
def gRu (n : Nat) : List qC := [qOb 7 [qR (n + 1), qR (n + 2), qR (n + 3), qI 0, qI 0, qI 0, qI (-1), qI 0, qI 0, qI 0, qI 0], qAr 0 32 (fun _ => 0), qAr 0 32 (fun _ => 0), qAr 0 32 (fun _ => 0)]
theorem i_gRu {h : qH} {n : Nat} (hn : h.1 = n) (h2 : 2 ≤ h.1) : qEx M_X7_init 0 [qR n] [] (qap h 11 [qOb 7 [qN, qN, qN, qI 0, qI 0, qI 0, qI 0, qI 0, qI 0, qI 0, qI 0]]) none (qap h 107 (gRu n)) := by
  subst hn
  show qEx _ _ _ _ _ _ (qap h 107 [qOb 7 [qR (h.1 + 1), qR (h.1 + 2), qR (h.1 + 3), qI 0, qI 0, qI 0, qI (-1), qI 0, qI 0, qI 0, qI 0], qAr 0 32 (fun _ => 0), qAr 0 32 (fun _ => 0), qAr 0 32 (fun _ => 0)])
  refine z_aload_n d_X7_init_0 rfl rfl ?_
  refine z_objinit d_X7_init_1 lo_X7_3 lo_i lo_c (by decide) (Nat.le_of_ble_eq_true rfl) ?_
  refine z_aload_n d_X7_init_4 rfl rfl ?_
  refine z_bipush d_X7_init_5 (by decide) ?_
  refine z_newI d_X7_init_7 ac_int (by decide) (by decide) ?_
  refine z_eq rfl rfl qap_new ?_
  show qEx M_X7_init 9 [qR h.1] [qR (h.1 + 1), qR h.1] (qap h 43 [qOb 7 [qN, qN, qN, qI 0, qI 0, qI 0, qI 0, qI 0, qI 0, qI 0, qI 0], qAr 0 32 (fun _ => 0)]) none _
  refine z_putF (fs' := [qR (h.1 + 1), qN, qN, qI 0, qI 0, qI 0, qI 0, qI 0, qI 0, qI 0, qI 0]) d_X7_init_9 fp_X7_9 rfl (qap_at (j := 0) rfl) (fun _ => rfl) (fun _ => rfl) (Nat.le_of_ble_eq_true rfl) rfl ?_
  refine z_eq rfl rfl (qap_set (j := 0) (Nat.le_of_ble_eq_true rfl)) ?_
  show qEx M_X7_init 12 [qR h.1] [] (qap h 43 [qOb 7 [qR (h.1 + 1), qN, qN, qI 0, qI 0, qI 0, qI 0, qI 0, qI 0, qI 0, qI 0], qAr 0 32 (fun _ => 0)]) none _
  refine z_aload_n d_X7_init_12 rfl rfl ?_
  refine z_bipush d_X7_init_13 (by decide) ?_
  refine z_newI d_X7_init_15 ac_int (by decide) (by decide) ?_
  refine z_eq rfl rfl qap_new ?_
  show qEx M_X7_init 17 [qR h.1] [qR (h.1 + 2), qR h.1] (qap h 75 [qOb 7 [qR (h.1 + 1), qN, qN, qI 0, qI 0, qI 0, qI 0, qI 0, qI 0, qI 0, qI 0], qAr 0 32 (fun _ => 0), qAr 0 32 (fun _ => 0)]) none _
  refine z_putF (fs' := [qR (h.1 + 1), qR (h.1 + 2), qN, qI 0, qI 0, qI 0, qI 0, qI 0, qI 0, qI 0, qI 0]) d_X7_init_17 fp_X7_15 rfl (qap_at (j := 0) rfl) (fun _ => rfl) (fun _ => rfl) (Nat.le_of_ble_eq_true rfl) rfl ?_
  refine z_eq rfl rfl (qap_set (j := 0) (Nat.le_of_ble_eq_true rfl)) ?_
  show qEx M_X7_init 20 [qR h.1] [] (qap h 75 [qOb 7 [qR (h.1 + 1), qR (h.1 + 2), qN, qI 0, qI 0, qI 0, qI 0, qI 0, qI 0, qI 0, qI 0], qAr 0 32 (fun _ => 0), qAr 0 32 (fun _ => 0)]) none _
  refine z_aload_n d_X7_init_20 rfl rfl ?_
  refine z_bipush d_X7_init_21 (by decide) ?_
  refine z_newI d_X7_init_23 ac_int (by decide) (by decide) ?_
  refine z_eq rfl rfl qap_new ?_
  show qEx M_X7_init 25 [qR h.1] [qR (h.1 + 3), qR h.1] (qap h 107 [qOb 7 [qR (h.1 + 1), qR (h.1 + 2), qN, qI 0, qI 0, qI 0, qI 0, qI 0, qI 0, qI 0, qI 0], qAr 0 32 (fun _ => 0), qAr 0 32 (fun _ => 0), qAr 0 32 (fun _ => 0)]) none _
  refine z_putF (fs' := [qR (h.1 + 1), qR (h.1 + 2), qR (h.1 + 3), qI 0, qI 0, qI 0, qI 0, qI 0, qI 0, qI 0, qI 0]) d_X7_init_25 fp_X7_18 rfl (qap_at (j := 0) rfl) (fun _ => rfl) (fun _ => rfl) (Nat.le_of_ble_eq_true rfl) rfl ?_
  refine z_eq rfl rfl (qap_set (j := 0) (Nat.le_of_ble_eq_true rfl)) ?_
  show qEx M_X7_init 28 [qR h.1] [] (qap h 107 [qOb 7 [qR (h.1 + 1), qR (h.1 + 2), qR (h.1 + 3), qI 0, qI 0, qI 0, qI 0, qI 0, qI 0, qI 0, qI 0], qAr 0 32 (fun _ => 0), qAr 0 32 (fun _ => 0), qAr 0 32 (fun _ => 0)]) none _
  refine z_aload_n d_X7_init_28 rfl rfl ?_
  refine z_iconst d_X7_init_29 (by decide) ?_
  refine z_putf (fs' := [qR (h.1 + 1), qR (h.1 + 2), qR (h.1 + 3), qI 0, qI 0, qI 0, qI 0, qI 0, qI 0, qI 0, qI 0]) d_X7_init_30 fp_X7_21 (qap_at (j := 0) rfl) (fun _ => rfl) (fun _ => rfl) (Nat.le_of_ble_eq_true rfl) rfl ?_
  refine z_eq rfl rfl (qap_set (j := 0) (Nat.le_of_ble_eq_true rfl)) ?_
  show qEx M_X7_init 33 [qR h.1] [] (qap h 107 [qOb 7 [qR (h.1 + 1), qR (h.1 + 2), qR (h.1 + 3), qI 0, qI 0, qI 0, qI 0, qI 0, qI 0, qI 0, qI 0], qAr 0 32 (fun _ => 0), qAr 0 32 (fun _ => 0), qAr 0 32 (fun _ => 0)]) none _
  refine z_aload_n d_X7_init_33 rfl rfl ?_
  refine z_iconst d_X7_init_34 (by decide) ?_
  refine z_putf (fs' := [qR (h.1 + 1), qR (h.1 + 2), qR (h.1 + 3), qI 0, qI 0, qI 0, qI 0, qI 0, qI 0, qI 0, qI 0]) d_X7_init_35 fp_X7_25 (qap_at (j := 0) rfl) (fun _ => rfl) (fun _ => rfl) (Nat.le_of_ble_eq_true rfl) rfl ?_
  refine z_eq rfl rfl (qap_set (j := 0) (Nat.le_of_ble_eq_true rfl)) ?_
  show qEx M_X7_init 38 [qR h.1] [] (qap h 107 [qOb 7 [qR (h.1 + 1), qR (h.1 + 2), qR (h.1 + 3), qI 0, qI 0, qI 0, qI 0, qI 0, qI 0, qI 0, qI 0], qAr 0 32 (fun _ => 0), qAr 0 32 (fun _ => 0), qAr 0 32 (fun _ => 0)]) none _
  refine z_aload_n d_X7_init_38 rfl rfl ?_
  refine z_iconst d_X7_init_39 (by decide) ?_
  refine z_putf (fs' := [qR (h.1 + 1), qR (h.1 + 2), qR (h.1 + 3), qI 0, qI 0, qI 0, qI 0, qI 0, qI 0, qI 0, qI 0]) d_X7_init_40 fp_X7_29 (qap_at (j := 0) rfl) (fun _ => rfl) (fun _ => rfl) (Nat.le_of_ble_eq_true rfl) rfl ?_
  refine z_eq rfl rfl (qap_set (j := 0) (Nat.le_of_ble_eq_true rfl)) ?_
  show qEx M_X7_init 43 [qR h.1] [] (qap h 107 [qOb 7 [qR (h.1 + 1), qR (h.1 + 2), qR (h.1 + 3), qI 0, qI 0, qI 0, qI 0, qI 0, qI 0, qI 0, qI 0], qAr 0 32 (fun _ => 0), qAr 0 32 (fun _ => 0), qAr 0 32 (fun _ => 0)]) none _
  refine z_aload_n d_X7_init_43 rfl rfl ?_
  refine z_iconst d_X7_init_44 (by decide) ?_
  refine z_putf (fs' := [qR (h.1 + 1), qR (h.1 + 2), qR (h.1 + 3), qI 0, qI 0, qI 0, qI (-1), qI 0, qI 0, qI 0, qI 0]) d_X7_init_45 fp_X7_32 (qap_at (j := 0) rfl) (fun _ => rfl) (fun _ => rfl) (Nat.le_of_ble_eq_true rfl) rfl ?_
  refine z_eq rfl rfl (qap_set (j := 0) (Nat.le_of_ble_eq_true rfl)) ?_
  show qEx M_X7_init 48 [qR h.1] [] (qap h 107 [qOb 7 [qR (h.1 + 1), qR (h.1 + 2), qR (h.1 + 3), qI 0, qI 0, qI 0, qI (-1), qI 0, qI 0, qI 0, qI 0], qAr 0 32 (fun _ => 0), qAr 0 32 (fun _ => 0), qAr 0 32 (fun _ => 0)]) none _
  refine z_aload_n d_X7_init_48 rfl rfl ?_
  refine z_iconst d_X7_init_49 (by decide) ?_
  refine z_putf (fs' := [qR (h.1 + 1), qR (h.1 + 2), qR (h.1 + 3), qI 0, qI 0, qI 0, qI (-1), qI 0, qI 0, qI 0, qI 0]) d_X7_init_50 fp_X7_35 (qap_at (j := 0) rfl) (fun _ => rfl) (fun _ => rfl) (Nat.le_of_ble_eq_true rfl) rfl ?_
  refine z_eq rfl rfl (qap_set (j := 0) (Nat.le_of_ble_eq_true rfl)) ?_
  show qEx M_X7_init 53 [qR h.1] [] (qap h 107 [qOb 7 [qR (h.1 + 1), qR (h.1 + 2), qR (h.1 + 3), qI 0, qI 0, qI 0, qI (-1), qI 0, qI 0, qI 0, qI 0], qAr 0 32 (fun _ => 0), qAr 0 32 (fun _ => 0), qAr 0 32 (fun _ => 0)]) none _
  refine z_aload_n d_X7_init_53 rfl rfl ?_
  refine z_iconst d_X7_init_54 (by decide) ?_
  refine z_putf (fs' := [qR (h.1 + 1), qR (h.1 + 2), qR (h.1 + 3), qI 0, qI 0, qI 0, qI (-1), qI 0, qI 0, qI 0, qI 0]) d_X7_init_55 fp_X7_38 (qap_at (j := 0) rfl) (fun _ => rfl) (fun _ => rfl) (Nat.le_of_ble_eq_true rfl) rfl ?_
  refine z_eq rfl rfl (qap_set (j := 0) (Nat.le_of_ble_eq_true rfl)) ?_
  show qEx M_X7_init 58 [qR h.1] [] (qap h 107 [qOb 7 [qR (h.1 + 1), qR (h.1 + 2), qR (h.1 + 3), qI 0, qI 0, qI 0, qI (-1), qI 0, qI 0, qI 0, qI 0], qAr 0 32 (fun _ => 0), qAr 0 32 (fun _ => 0), qAr 0 32 (fun _ => 0)]) none _
  refine z_aload_n d_X7_init_58 rfl rfl ?_
  refine z_iconst d_X7_init_59 (by decide) ?_
  refine z_putf (fs' := [qR (h.1 + 1), qR (h.1 + 2), qR (h.1 + 3), qI 0, qI 0, qI 0, qI (-1), qI 0, qI 0, qI 0, qI 0]) d_X7_init_60 fp_X7_41 (qap_at (j := 0) rfl) (fun _ => rfl) (fun _ => rfl) (Nat.le_of_ble_eq_true rfl) rfl ?_
  refine z_eq rfl rfl (qap_set (j := 0) (Nat.le_of_ble_eq_true rfl)) ?_
  show qEx M_X7_init 63 [qR h.1] [] (qap h 107 [qOb 7 [qR (h.1 + 1), qR (h.1 + 2), qR (h.1 + 3), qI 0, qI 0, qI 0, qI (-1), qI 0, qI 0, qI 0, qI 0], qAr 0 32 (fun _ => 0), qAr 0 32 (fun _ => 0), qAr 0 32 (fun _ => 0)]) none _
  refine z_aload_n d_X7_init_63 rfl rfl ?_
  refine z_iconst d_X7_init_64 (by decide) ?_
  refine z_putf (fs' := [qR (h.1 + 1), qR (h.1 + 2), qR (h.1 + 3), qI 0, qI 0, qI 0, qI (-1), qI 0, qI 0, qI 0, qI 0]) d_X7_init_65 fp_X7_44 (qap_at (j := 0) rfl) (fun _ => rfl) (fun _ => rfl) (Nat.le_of_ble_eq_true rfl) rfl ?_
  refine z_eq rfl rfl (qap_set (j := 0) (Nat.le_of_ble_eq_true rfl)) ?_
  show qEx M_X7_init 68 [qR h.1] [] (qap h 107 [qOb 7 [qR (h.1 + 1), qR (h.1 + 2), qR (h.1 + 3), qI 0, qI 0, qI 0, qI (-1), qI 0, qI 0, qI 0, qI 0], qAr 0 32 (fun _ => 0), qAr 0 32 (fun _ => 0), qAr 0 32 (fun _ => 0)]) none _
  exact z_vret d_X7_init_68 rfl rfl rfl
theorem l_gRu {n : Nat} : (gRu n).length = 4 := by simp only [gRu, List.length_append, List.length_cons, List.length_nil, l_gPg, l_gFb, l_gRw16, l_gRw150, l_gRw8]
def gWl (n : Nat) : List qC := [qOb 10 [qI 0, qI 0, qR (n + 1), qR (n + 2), qR (n + 3), qR (n + 4), qI 0, qI 0, qI 0, qI 0, qI (-1), qI 0], qAr 0 32 (fun _ => 0), qAr 0 32 (fun _ => 0), qAr 0 32 (fun _ => 0), qAr 0 32 (fun _ => 0)]
theorem i_gWl {h : qH} {n : Nat} (hn : h.1 = n) (h2 : 2 ≤ h.1) : qEx M_X10_init 0 [qR n] [] (qap h 12 [qOb 10 [qI 0, qI 0, qN, qN, qN, qN, qI 0, qI 0, qI 0, qI 0, qI 0, qI 0]]) none (qap h 140 (gWl n)) := by
  subst hn
  show qEx _ _ _ _ _ _ (qap h 140 [qOb 10 [qI 0, qI 0, qR (h.1 + 1), qR (h.1 + 2), qR (h.1 + 3), qR (h.1 + 4), qI 0, qI 0, qI 0, qI 0, qI (-1), qI 0], qAr 0 32 (fun _ => 0), qAr 0 32 (fun _ => 0), qAr 0 32 (fun _ => 0), qAr 0 32 (fun _ => 0)])
  refine z_aload_n d_X10_init_0 rfl rfl ?_
  refine z_objinit d_X10_init_1 lo_X10_3 lo_i lo_c (by decide) (Nat.le_of_ble_eq_true rfl) ?_
  refine z_aload_n d_X10_init_4 rfl rfl ?_
  refine z_iconst d_X10_init_5 (by decide) ?_
  refine z_putf (fs' := [qI 0, qI 0, qN, qN, qN, qN, qI 0, qI 0, qI 0, qI 0, qI 0, qI 0]) d_X10_init_6 fp_X10_9 (qap_at (j := 0) rfl) (fun _ => rfl) (fun _ => rfl) (Nat.le_of_ble_eq_true rfl) rfl ?_
  refine z_eq rfl rfl (qap_set (j := 0) (Nat.le_of_ble_eq_true rfl)) ?_
  show qEx M_X10_init 9 [qR h.1] [] (qap h 12 [qOb 10 [qI 0, qI 0, qN, qN, qN, qN, qI 0, qI 0, qI 0, qI 0, qI 0, qI 0]]) none _
  refine z_aload_n d_X10_init_9 rfl rfl ?_
  refine z_iconst d_X10_init_10 (by decide) ?_
  refine z_putf (fs' := [qI 0, qI 0, qN, qN, qN, qN, qI 0, qI 0, qI 0, qI 0, qI 0, qI 0]) d_X10_init_11 fp_X10_15 (qap_at (j := 0) rfl) (fun _ => rfl) (fun _ => rfl) (Nat.le_of_ble_eq_true rfl) rfl ?_
  refine z_eq rfl rfl (qap_set (j := 0) (Nat.le_of_ble_eq_true rfl)) ?_
  show qEx M_X10_init 14 [qR h.1] [] (qap h 12 [qOb 10 [qI 0, qI 0, qN, qN, qN, qN, qI 0, qI 0, qI 0, qI 0, qI 0, qI 0]]) none _
  refine z_aload_n d_X10_init_14 rfl rfl ?_
  refine z_bipush d_X10_init_15 (by decide) ?_
  refine z_newI d_X10_init_17 ac_int (by decide) (by decide) ?_
  refine z_eq rfl rfl qap_new ?_
  show qEx M_X10_init 19 [qR h.1] [qR (h.1 + 1), qR h.1] (qap h 44 [qOb 10 [qI 0, qI 0, qN, qN, qN, qN, qI 0, qI 0, qI 0, qI 0, qI 0, qI 0], qAr 0 32 (fun _ => 0)]) none _
  refine z_putF (fs' := [qI 0, qI 0, qR (h.1 + 1), qN, qN, qN, qI 0, qI 0, qI 0, qI 0, qI 0, qI 0]) d_X10_init_19 fp_X10_19 rfl (qap_at (j := 0) rfl) (fun _ => rfl) (fun _ => rfl) (Nat.le_of_ble_eq_true rfl) rfl ?_
  refine z_eq rfl rfl (qap_set (j := 0) (Nat.le_of_ble_eq_true rfl)) ?_
  show qEx M_X10_init 22 [qR h.1] [] (qap h 44 [qOb 10 [qI 0, qI 0, qR (h.1 + 1), qN, qN, qN, qI 0, qI 0, qI 0, qI 0, qI 0, qI 0], qAr 0 32 (fun _ => 0)]) none _
  refine z_aload_n d_X10_init_22 rfl rfl ?_
  refine z_bipush d_X10_init_23 (by decide) ?_
  refine z_newI d_X10_init_25 ac_int (by decide) (by decide) ?_
  refine z_eq rfl rfl qap_new ?_
  show qEx M_X10_init 27 [qR h.1] [qR (h.1 + 2), qR h.1] (qap h 76 [qOb 10 [qI 0, qI 0, qR (h.1 + 1), qN, qN, qN, qI 0, qI 0, qI 0, qI 0, qI 0, qI 0], qAr 0 32 (fun _ => 0), qAr 0 32 (fun _ => 0)]) none _
  refine z_putF (fs' := [qI 0, qI 0, qR (h.1 + 1), qR (h.1 + 2), qN, qN, qI 0, qI 0, qI 0, qI 0, qI 0, qI 0]) d_X10_init_27 fp_X10_23 rfl (qap_at (j := 0) rfl) (fun _ => rfl) (fun _ => rfl) (Nat.le_of_ble_eq_true rfl) rfl ?_
  refine z_eq rfl rfl (qap_set (j := 0) (Nat.le_of_ble_eq_true rfl)) ?_
  show qEx M_X10_init 30 [qR h.1] [] (qap h 76 [qOb 10 [qI 0, qI 0, qR (h.1 + 1), qR (h.1 + 2), qN, qN, qI 0, qI 0, qI 0, qI 0, qI 0, qI 0], qAr 0 32 (fun _ => 0), qAr 0 32 (fun _ => 0)]) none _
  refine z_aload_n d_X10_init_30 rfl rfl ?_
  refine z_bipush d_X10_init_31 (by decide) ?_
  refine z_newI d_X10_init_33 ac_int (by decide) (by decide) ?_
  refine z_eq rfl rfl qap_new ?_
  show qEx M_X10_init 35 [qR h.1] [qR (h.1 + 3), qR h.1] (qap h 108 [qOb 10 [qI 0, qI 0, qR (h.1 + 1), qR (h.1 + 2), qN, qN, qI 0, qI 0, qI 0, qI 0, qI 0, qI 0], qAr 0 32 (fun _ => 0), qAr 0 32 (fun _ => 0), qAr 0 32 (fun _ => 0)]) none _
  refine z_putF (fs' := [qI 0, qI 0, qR (h.1 + 1), qR (h.1 + 2), qR (h.1 + 3), qN, qI 0, qI 0, qI 0, qI 0, qI 0, qI 0]) d_X10_init_35 fp_X10_26 rfl (qap_at (j := 0) rfl) (fun _ => rfl) (fun _ => rfl) (Nat.le_of_ble_eq_true rfl) rfl ?_
  refine z_eq rfl rfl (qap_set (j := 0) (Nat.le_of_ble_eq_true rfl)) ?_
  show qEx M_X10_init 38 [qR h.1] [] (qap h 108 [qOb 10 [qI 0, qI 0, qR (h.1 + 1), qR (h.1 + 2), qR (h.1 + 3), qN, qI 0, qI 0, qI 0, qI 0, qI 0, qI 0], qAr 0 32 (fun _ => 0), qAr 0 32 (fun _ => 0), qAr 0 32 (fun _ => 0)]) none _
  refine z_aload_n d_X10_init_38 rfl rfl ?_
  refine z_bipush d_X10_init_39 (by decide) ?_
  refine z_newI d_X10_init_41 ac_int (by decide) (by decide) ?_
  refine z_eq rfl rfl qap_new ?_
  show qEx M_X10_init 43 [qR h.1] [qR (h.1 + 4), qR h.1] (qap h 140 [qOb 10 [qI 0, qI 0, qR (h.1 + 1), qR (h.1 + 2), qR (h.1 + 3), qN, qI 0, qI 0, qI 0, qI 0, qI 0, qI 0], qAr 0 32 (fun _ => 0), qAr 0 32 (fun _ => 0), qAr 0 32 (fun _ => 0), qAr 0 32 (fun _ => 0)]) none _
  refine z_putF (fs' := [qI 0, qI 0, qR (h.1 + 1), qR (h.1 + 2), qR (h.1 + 3), qR (h.1 + 4), qI 0, qI 0, qI 0, qI 0, qI 0, qI 0]) d_X10_init_43 fp_X10_29 rfl (qap_at (j := 0) rfl) (fun _ => rfl) (fun _ => rfl) (Nat.le_of_ble_eq_true rfl) rfl ?_
  refine z_eq rfl rfl (qap_set (j := 0) (Nat.le_of_ble_eq_true rfl)) ?_
  show qEx M_X10_init 46 [qR h.1] [] (qap h 140 [qOb 10 [qI 0, qI 0, qR (h.1 + 1), qR (h.1 + 2), qR (h.1 + 3), qR (h.1 + 4), qI 0, qI 0, qI 0, qI 0, qI 0, qI 0], qAr 0 32 (fun _ => 0), qAr 0 32 (fun _ => 0), qAr 0 32 (fun _ => 0), qAr 0 32 (fun _ => 0)]) none _
  refine z_aload_n d_X10_init_46 rfl rfl ?_
  refine z_iconst d_X10_init_47 (by decide) ?_
  refine z_putf (fs' := [qI 0, qI 0, qR (h.1 + 1), qR (h.1 + 2), qR (h.1 + 3), qR (h.1 + 4), qI 0, qI 0, qI 0, qI 0, qI 0, qI 0]) d_X10_init_48 fp_X10_32 (qap_at (j := 0) rfl) (fun _ => rfl) (fun _ => rfl) (Nat.le_of_ble_eq_true rfl) rfl ?_
  refine z_eq rfl rfl (qap_set (j := 0) (Nat.le_of_ble_eq_true rfl)) ?_
  show qEx M_X10_init 51 [qR h.1] [] (qap h 140 [qOb 10 [qI 0, qI 0, qR (h.1 + 1), qR (h.1 + 2), qR (h.1 + 3), qR (h.1 + 4), qI 0, qI 0, qI 0, qI 0, qI 0, qI 0], qAr 0 32 (fun _ => 0), qAr 0 32 (fun _ => 0), qAr 0 32 (fun _ => 0), qAr 0 32 (fun _ => 0)]) none _
  refine z_aload_n d_X10_init_51 rfl rfl ?_
  refine z_iconst d_X10_init_52 (by decide) ?_
  refine z_putf (fs' := [qI 0, qI 0, qR (h.1 + 1), qR (h.1 + 2), qR (h.1 + 3), qR (h.1 + 4), qI 0, qI 0, qI 0, qI 0, qI 0, qI 0]) d_X10_init_53 fp_X10_35 (qap_at (j := 0) rfl) (fun _ => rfl) (fun _ => rfl) (Nat.le_of_ble_eq_true rfl) rfl ?_
  refine z_eq rfl rfl (qap_set (j := 0) (Nat.le_of_ble_eq_true rfl)) ?_
  show qEx M_X10_init 56 [qR h.1] [] (qap h 140 [qOb 10 [qI 0, qI 0, qR (h.1 + 1), qR (h.1 + 2), qR (h.1 + 3), qR (h.1 + 4), qI 0, qI 0, qI 0, qI 0, qI 0, qI 0], qAr 0 32 (fun _ => 0), qAr 0 32 (fun _ => 0), qAr 0 32 (fun _ => 0), qAr 0 32 (fun _ => 0)]) none _
  refine z_aload_n d_X10_init_56 rfl rfl ?_
  refine z_iconst d_X10_init_57 (by decide) ?_
  refine z_putf (fs' := [qI 0, qI 0, qR (h.1 + 1), qR (h.1 + 2), qR (h.1 + 3), qR (h.1 + 4), qI 0, qI 0, qI 0, qI 0, qI 0, qI 0]) d_X10_init_58 fp_X10_38 (qap_at (j := 0) rfl) (fun _ => rfl) (fun _ => rfl) (Nat.le_of_ble_eq_true rfl) rfl ?_
  refine z_eq rfl rfl (qap_set (j := 0) (Nat.le_of_ble_eq_true rfl)) ?_
  show qEx M_X10_init 61 [qR h.1] [] (qap h 140 [qOb 10 [qI 0, qI 0, qR (h.1 + 1), qR (h.1 + 2), qR (h.1 + 3), qR (h.1 + 4), qI 0, qI 0, qI 0, qI 0, qI 0, qI 0], qAr 0 32 (fun _ => 0), qAr 0 32 (fun _ => 0), qAr 0 32 (fun _ => 0), qAr 0 32 (fun _ => 0)]) none _
  refine z_aload_n d_X10_init_61 rfl rfl ?_
  refine z_iconst d_X10_init_62 (by decide) ?_
  refine z_putf (fs' := [qI 0, qI 0, qR (h.1 + 1), qR (h.1 + 2), qR (h.1 + 3), qR (h.1 + 4), qI 0, qI 0, qI 0, qI 0, qI 0, qI 0]) d_X10_init_63 fp_X10_41 (qap_at (j := 0) rfl) (fun _ => rfl) (fun _ => rfl) (Nat.le_of_ble_eq_true rfl) rfl ?_
  refine z_eq rfl rfl (qap_set (j := 0) (Nat.le_of_ble_eq_true rfl)) ?_
  show qEx M_X10_init 66 [qR h.1] [] (qap h 140 [qOb 10 [qI 0, qI 0, qR (h.1 + 1), qR (h.1 + 2), qR (h.1 + 3), qR (h.1 + 4), qI 0, qI 0, qI 0, qI 0, qI 0, qI 0], qAr 0 32 (fun _ => 0), qAr 0 32 (fun _ => 0), qAr 0 32 (fun _ => 0), qAr 0 32 (fun _ => 0)]) none _
  refine z_aload_n d_X10_init_66 rfl rfl ?_
  refine z_iconst d_X10_init_67 (by decide) ?_
  refine z_putf (fs' := [qI 0, qI 0, qR (h.1 + 1), qR (h.1 + 2), qR (h.1 + 3), qR (h.1 + 4), qI 0, qI 0, qI 0, qI 0, qI (-1), qI 0]) d_X10_init_68 fp_X10_44 (qap_at (j := 0) rfl) (fun _ => rfl) (fun _ => rfl) (Nat.le_of_ble_eq_true rfl) rfl ?_
  refine z_eq rfl rfl (qap_set (j := 0) (Nat.le_of_ble_eq_true rfl)) ?_
  show qEx M_X10_init 71 [qR h.1] [] (qap h 140 [qOb 10 [qI 0, qI 0, qR (h.1 + 1), qR (h.1 + 2), qR (h.1 + 3), qR (h.1 + 4), qI 0, qI 0, qI 0, qI 0, qI (-1), qI 0], qAr 0 32 (fun _ => 0), qAr 0 32 (fun _ => 0), qAr 0 32 (fun _ => 0), qAr 0 32 (fun _ => 0)]) none _
  refine z_aload_n d_X10_init_71 rfl rfl ?_
  refine z_iconst d_X10_init_72 (by decide) ?_
  refine z_putf (fs' := [qI 0, qI 0, qR (h.1 + 1), qR (h.1 + 2), qR (h.1 + 3), qR (h.1 + 4), qI 0, qI 0, qI 0, qI 0, qI (-1), qI 0]) d_X10_init_73 fp_X10_47 (qap_at (j := 0) rfl) (fun _ => rfl) (fun _ => rfl) (Nat.le_of_ble_eq_true rfl) rfl ?_
  refine z_eq rfl rfl (qap_set (j := 0) (Nat.le_of_ble_eq_true rfl)) ?_
  show qEx M_X10_init 76 [qR h.1] [] (qap h 140 [qOb 10 [qI 0, qI 0, qR (h.1 + 1), qR (h.1 + 2), qR (h.1 + 3), qR (h.1 + 4), qI 0, qI 0, qI 0, qI 0, qI (-1), qI 0], qAr 0 32 (fun _ => 0), qAr 0 32 (fun _ => 0), qAr 0 32 (fun _ => 0), qAr 0 32 (fun _ => 0)]) none _
  exact z_vret d_X10_init_76 rfl rfl rfl
theorem l_gWl {n : Nat} : (gWl n).length = 5 := by simp only [gWl, List.length_append, List.length_cons, List.length_nil, l_gPg, l_gFb, l_gRw16, l_gRw150, l_gRw8, l_gRu]
def gkA (n : Nat) : Nat → Option Nat := fun j => if j < 4 then some (n + 1 + 3 + 5 * j) else none
theorem gkA_of {n : Nat} : qupR (qupR (qupR (qupR (fun _ => none) 0 (n + 4)) 1 (n + 9)) 2 (n + 14)) 3 (n + 19) = gkA n := by
  funext j
  match j with
  | 0 => rfl
  | 1 => rfl
  | 2 => rfl
  | 3 => rfl
  | (q + 4) => exact (if_neg (by omega) : (if q + 4 < 4 then some (n + 1 + 3 + 5 * (q + 4)) else none) = none).symm
def paA (n : Nat) : Nat → Option Nat := fun j => if j < 6 then some (n + 1 + 2 + 5 * j) else none
theorem paA_of {n : Nat} : qupR (qupR (qupR (qupR (qupR (qupR (fun _ => none) 0 (n + 3)) 1 (n + 8)) 2 (n + 13)) 3 (n + 18)) 4 (n + 23)) 5 (n + 28) = paA n := by
  funext j
  match j with
  | 0 => rfl
  | 1 => rfl
  | 2 => rfl
  | 3 => rfl
  | 4 => rfl
  | 5 => rfl
  | (q + 6) => exact (if_neg (by omega) : (if q + 6 < 6 then some (n + 1 + 2 + 5 * (q + 6)) else none) = none).symm
def gBk (n : Nat) : List qC := (((([qOb 0 [qR (n + 1), qR (n + 2), qR (n + 3)], qRr 2 4 (gkA n), qAr 0 648 (fil sd0 648), qAr 0 648 (fil dd0 648)] ++ gPg (n + 4)) ++ gPg (n + 9)) ++ gPg (n + 14)) ++ gPg (n + 19))
theorem i_gBk {h : qH} {n : Nat} (hn : h.1 = n) (h2 : 2 ≤ h.1) : qEx M_X0_init 0 [qR n, qU] [] (qap h 3 [qOb 0 [qN, qN, qN]]) none (qap h 1527 (gBk n)) := by
  subst hn
  show qEx _ _ _ _ _ _ (qap h 1527 (((([qOb 0 [qR (h.1 + 1), qR (h.1 + 2), qR (h.1 + 3)], qRr 2 4 (gkA h.1), qAr 0 648 (fil sd0 648), qAr 0 648 (fil dd0 648)] ++ gPg (h.1 + 4)) ++ gPg (h.1 + 9)) ++ gPg (h.1 + 14)) ++ gPg (h.1 + 19)))
  refine z_aload_n d_X0_init_0 rfl rfl ?_
  refine z_objinit d_X0_init_1 lo_X0_3 lo_i lo_c (by decide) (Nat.le_of_ble_eq_true rfl) ?_
  refine z_aload_n d_X0_init_4 rfl rfl ?_
  refine z_iconst d_X0_init_5 (by decide) ?_
  refine z_anew d_X0_init_6 (Or.inl ⟨rfl, rfl, rfl⟩) cl_X0_9 (by decide) (by decide) ?_
  refine z_eq rfl rfl qap_new ?_
  show qEx M_X0_init 9 [qR h.1, qU] [qR (h.1 + 1), qR h.1] (qap h 7 [qOb 0 [qN, qN, qN], qRr 2 4 (fun _ => none)]) none _
  refine z_putF (fs' := [qR (h.1 + 1), qN, qN]) d_X0_init_9 fp_X0_11 rfl (qap_at (j := 0) rfl) (fun _ => rfl) (fun _ => rfl) (Nat.le_of_ble_eq_true rfl) rfl ?_
  refine z_eq rfl rfl (qap_set (j := 0) (Nat.le_of_ble_eq_true rfl)) ?_
  show qEx M_X0_init 12 [qR h.1, qU] [] (qap h 7 [qOb 0 [qR (h.1 + 1), qN, qN], qRr 2 4 (fun _ => none)]) none _
  refine z_aload_n d_X0_init_12 rfl rfl ?_
  refine z_sipush d_X0_init_13 (by decide) ?_
  refine z_newI d_X0_init_16 ac_int (by decide) (by decide) ?_
  refine z_eq rfl rfl qap_new ?_
  show qEx M_X0_init 18 [qR h.1, qU] [qR (h.1 + 2), qR h.1] (qap h 655 [qOb 0 [qR (h.1 + 1), qN, qN], qRr 2 4 (fun _ => none), qAr 0 648 (fun _ => 0)]) none _
  refine z_putF (fs' := [qR (h.1 + 1), qR (h.1 + 2), qN]) d_X0_init_18 fp_X0_17 rfl (qap_at (j := 0) rfl) (fun _ => rfl) (fun _ => rfl) (Nat.le_of_ble_eq_true rfl) rfl ?_
  refine z_eq rfl rfl (qap_set (j := 0) (Nat.le_of_ble_eq_true rfl)) ?_
  show qEx M_X0_init 21 [qR h.1, qU] [] (qap h 655 [qOb 0 [qR (h.1 + 1), qR (h.1 + 2), qN], qRr 2 4 (fun _ => none), qAr 0 648 (fun _ => 0)]) none _
  refine z_aload_n d_X0_init_21 rfl rfl ?_
  refine z_sipush d_X0_init_22 (by decide) ?_
  refine z_newI d_X0_init_25 ac_int (by decide) (by decide) ?_
  refine z_eq rfl rfl qap_new ?_
  show qEx M_X0_init 27 [qR h.1, qU] [qR (h.1 + 3), qR h.1] (qap h 1303 [qOb 0 [qR (h.1 + 1), qR (h.1 + 2), qN], qRr 2 4 (fun _ => none), qAr 0 648 (fun _ => 0), qAr 0 648 (fun _ => 0)]) none _
  refine z_putF (fs' := [qR (h.1 + 1), qR (h.1 + 2), qR (h.1 + 3)]) d_X0_init_27 fp_X0_21 rfl (qap_at (j := 0) rfl) (fun _ => rfl) (fun _ => rfl) (Nat.le_of_ble_eq_true rfl) rfl ?_
  refine z_eq rfl rfl (qap_set (j := 0) (Nat.le_of_ble_eq_true rfl)) ?_
  show qEx M_X0_init 30 [qR h.1, qU] [] (qap h 1303 [qOb 0 [qR (h.1 + 1), qR (h.1 + 2), qR (h.1 + 3)], qRr 2 4 (fun _ => none), qAr 0 648 (fun _ => 0), qAr 0 648 (fun _ => 0)]) none _
  refine z_iconst d_X0_init_30 (by decide) ?_
  refine z_istore_n (ls' := [qR h.1, qI 0]) d_X0_init_31 rfl (by decide) rfl ?_
  refine z_iload_n d_X0_init_32 rfl rfl ?_
  refine z_iconst d_X0_init_33 (by decide) ?_
  refine z_icmp_ge 56 d_X0_init_34 (by decide) (fun hc => absurd hc (by decide)) (fun hc => ?_)
  refine z_aload_n d_X0_init_37 rfl rfl ?_
  refine z_getf (v := qR (h.1 + 1)) d_X0_init_38 fl_X0_11 (qap_at (j := 0) rfl) rfl ?_
  refine z_iload_n d_X0_init_41 rfl rfl ?_
  refine z_new d_X0_init_42 nw_X0_9 ?_
  refine z_eq rfl rfl qap_one ?_
  show qEx M_X0_init 45 [qR h.1, qI 0] [qR (h.1 + 4), qI 0, qR (h.1 + 1)] (qap (qap h 1303 [qOb 0 [qR (h.1 + 1), qR (h.1 + 2), qR (h.1 + 3)], qRr 2 4 (fun _ => none), qAr 0 648 (fun _ => 0), qAr 0 648 (fun _ => 0)]) 5 [qOb 2 [qN, qN, qN, qN, qI 0]]) none _
  refine z_dup d_X0_init_45 rfl ?_
  refine z_callI (M1 := M_X2_init) d_X0_init_46 li_X0_24 k_X2_init rfl [] rfl rfl (Nat.le_of_ble_eq_true rfl) (by decide) (by decide) (Nat.le_of_ble_eq_true rfl) (i_gPg (h := (qap h 1303 [qOb 0 [qR (h.1 + 1), qR (h.1 + 2), qR (h.1 + 3)], qRr 2 4 (fun _ => none), qAr 0 648 (fun _ => 0), qAr 0 648 (fun _ => 0)])) (n := (h.1 + 4)) rfl (Nat.le_trans h2 (Nat.le_add_right _ _))) ?_
  refine z_eq rfl rfl qap_ap ?_
  show qEx M_X0_init 49 [qR h.1, qI 0] [qR (h.1 + 4), qI 0, qR (h.1 + 1)] (qap h 1359 ([qOb 0 [qR (h.1 + 1), qR (h.1 + 2), qR (h.1 + 3)], qRr 2 4 (fun _ => none), qAr 0 648 (fun _ => 0), qAr 0 648 (fun _ => 0)] ++ gPg (h.1 + 4))) none _
  refine z_aastore d_X0_init_49 (Or.inl ⟨rfl, rfl, rfl⟩) (qap_at (j := 1) rfl) (qap_at (j := 4) rfl) (by decide) (by decide) ?_
  refine z_eq rfl rfl (qap_set (j := 1) (Nat.le_of_ble_eq_true rfl)) ?_
  show qEx M_X0_init 50 [qR h.1, qI 0] [] (qap h 1359 ([qOb 0 [qR (h.1 + 1), qR (h.1 + 2), qR (h.1 + 3)], qRr 2 4 (qupR (fun _ => none) 0 (h.1 + 4)), qAr 0 648 (fun _ => 0), qAr 0 648 (fun _ => 0)] ++ gPg (h.1 + 4))) none _
  refine z_iinc (ls' := [qR h.1, qI 1]) d_X0_init_50 rfl (by decide) (by decide) rfl ?_
  refine z_goto 32 d_X0_init_53 (by decide) ?_
  refine z_iload_n d_X0_init_32 rfl rfl ?_
  refine z_iconst d_X0_init_33 (by decide) ?_
  refine z_icmp_ge 56 d_X0_init_34 (by decide) (fun hc => absurd hc (by decide)) (fun hc => ?_)
  refine z_aload_n d_X0_init_37 rfl rfl ?_
  refine z_getf (v := qR (h.1 + 1)) d_X0_init_38 fl_X0_11 (qap_at (j := 0) rfl) rfl ?_
  refine z_iload_n d_X0_init_41 rfl rfl ?_
  refine z_new d_X0_init_42 nw_X0_9 ?_
  refine z_eq rfl rfl qap_one ?_
  show qEx M_X0_init 45 [qR h.1, qI 1] [qR (h.1 + 9), qI 1, qR (h.1 + 1)] (qap (qap h 1359 ([qOb 0 [qR (h.1 + 1), qR (h.1 + 2), qR (h.1 + 3)], qRr 2 4 (qupR (fun _ => none) 0 (h.1 + 4)), qAr 0 648 (fun _ => 0), qAr 0 648 (fun _ => 0)] ++ gPg (h.1 + 4))) 5 [qOb 2 [qN, qN, qN, qN, qI 0]]) none _
  refine z_dup d_X0_init_45 rfl ?_
  refine z_callI (M1 := M_X2_init) d_X0_init_46 li_X0_24 k_X2_init rfl [] rfl rfl (Nat.le_of_ble_eq_true rfl) (by decide) (by decide) (Nat.le_of_ble_eq_true rfl) (i_gPg (h := (qap h 1359 ([qOb 0 [qR (h.1 + 1), qR (h.1 + 2), qR (h.1 + 3)], qRr 2 4 (qupR (fun _ => none) 0 (h.1 + 4)), qAr 0 648 (fun _ => 0), qAr 0 648 (fun _ => 0)] ++ gPg (h.1 + 4)))) (n := (h.1 + 9)) rfl (Nat.le_trans h2 (Nat.le_add_right _ _))) ?_
  refine z_eq rfl rfl qap_ap ?_
  show qEx M_X0_init 49 [qR h.1, qI 1] [qR (h.1 + 9), qI 1, qR (h.1 + 1)] (qap h 1415 (([qOb 0 [qR (h.1 + 1), qR (h.1 + 2), qR (h.1 + 3)], qRr 2 4 (qupR (fun _ => none) 0 (h.1 + 4)), qAr 0 648 (fun _ => 0), qAr 0 648 (fun _ => 0)] ++ gPg (h.1 + 4)) ++ gPg (h.1 + 9))) none _
  refine z_aastore d_X0_init_49 (Or.inl ⟨rfl, rfl, rfl⟩) (qap_at (j := 1) rfl) (qap_at (j := 9) rfl) (by decide) (by decide) ?_
  refine z_eq rfl rfl (qap_set (j := 1) (Nat.le_of_ble_eq_true rfl)) ?_
  show qEx M_X0_init 50 [qR h.1, qI 1] [] (qap h 1415 (([qOb 0 [qR (h.1 + 1), qR (h.1 + 2), qR (h.1 + 3)], qRr 2 4 (qupR (qupR (fun _ => none) 0 (h.1 + 4)) 1 (h.1 + 9)), qAr 0 648 (fun _ => 0), qAr 0 648 (fun _ => 0)] ++ gPg (h.1 + 4)) ++ gPg (h.1 + 9))) none _
  refine z_iinc (ls' := [qR h.1, qI 2]) d_X0_init_50 rfl (by decide) (by decide) rfl ?_
  refine z_goto 32 d_X0_init_53 (by decide) ?_
  refine z_iload_n d_X0_init_32 rfl rfl ?_
  refine z_iconst d_X0_init_33 (by decide) ?_
  refine z_icmp_ge 56 d_X0_init_34 (by decide) (fun hc => absurd hc (by decide)) (fun hc => ?_)
  refine z_aload_n d_X0_init_37 rfl rfl ?_
  refine z_getf (v := qR (h.1 + 1)) d_X0_init_38 fl_X0_11 (qap_at (j := 0) rfl) rfl ?_
  refine z_iload_n d_X0_init_41 rfl rfl ?_
  refine z_new d_X0_init_42 nw_X0_9 ?_
  refine z_eq rfl rfl qap_one ?_
  show qEx M_X0_init 45 [qR h.1, qI 2] [qR (h.1 + 14), qI 2, qR (h.1 + 1)] (qap (qap h 1415 (([qOb 0 [qR (h.1 + 1), qR (h.1 + 2), qR (h.1 + 3)], qRr 2 4 (qupR (qupR (fun _ => none) 0 (h.1 + 4)) 1 (h.1 + 9)), qAr 0 648 (fun _ => 0), qAr 0 648 (fun _ => 0)] ++ gPg (h.1 + 4)) ++ gPg (h.1 + 9))) 5 [qOb 2 [qN, qN, qN, qN, qI 0]]) none _
  refine z_dup d_X0_init_45 rfl ?_
  refine z_callI (M1 := M_X2_init) d_X0_init_46 li_X0_24 k_X2_init rfl [] rfl rfl (Nat.le_of_ble_eq_true rfl) (by decide) (by decide) (Nat.le_of_ble_eq_true rfl) (i_gPg (h := (qap h 1415 (([qOb 0 [qR (h.1 + 1), qR (h.1 + 2), qR (h.1 + 3)], qRr 2 4 (qupR (qupR (fun _ => none) 0 (h.1 + 4)) 1 (h.1 + 9)), qAr 0 648 (fun _ => 0), qAr 0 648 (fun _ => 0)] ++ gPg (h.1 + 4)) ++ gPg (h.1 + 9)))) (n := (h.1 + 14)) rfl (Nat.le_trans h2 (Nat.le_add_right _ _))) ?_
  refine z_eq rfl rfl qap_ap ?_
  show qEx M_X0_init 49 [qR h.1, qI 2] [qR (h.1 + 14), qI 2, qR (h.1 + 1)] (qap h 1471 ((([qOb 0 [qR (h.1 + 1), qR (h.1 + 2), qR (h.1 + 3)], qRr 2 4 (qupR (qupR (fun _ => none) 0 (h.1 + 4)) 1 (h.1 + 9)), qAr 0 648 (fun _ => 0), qAr 0 648 (fun _ => 0)] ++ gPg (h.1 + 4)) ++ gPg (h.1 + 9)) ++ gPg (h.1 + 14))) none _
  refine z_aastore d_X0_init_49 (Or.inl ⟨rfl, rfl, rfl⟩) (qap_at (j := 1) rfl) (qap_at (j := 14) rfl) (by decide) (by decide) ?_
  refine z_eq rfl rfl (qap_set (j := 1) (Nat.le_of_ble_eq_true rfl)) ?_
  show qEx M_X0_init 50 [qR h.1, qI 2] [] (qap h 1471 ((([qOb 0 [qR (h.1 + 1), qR (h.1 + 2), qR (h.1 + 3)], qRr 2 4 (qupR (qupR (qupR (fun _ => none) 0 (h.1 + 4)) 1 (h.1 + 9)) 2 (h.1 + 14)), qAr 0 648 (fun _ => 0), qAr 0 648 (fun _ => 0)] ++ gPg (h.1 + 4)) ++ gPg (h.1 + 9)) ++ gPg (h.1 + 14))) none _
  refine z_iinc (ls' := [qR h.1, qI 3]) d_X0_init_50 rfl (by decide) (by decide) rfl ?_
  refine z_goto 32 d_X0_init_53 (by decide) ?_
  refine z_iload_n d_X0_init_32 rfl rfl ?_
  refine z_iconst d_X0_init_33 (by decide) ?_
  refine z_icmp_ge 56 d_X0_init_34 (by decide) (fun hc => absurd hc (by decide)) (fun hc => ?_)
  refine z_aload_n d_X0_init_37 rfl rfl ?_
  refine z_getf (v := qR (h.1 + 1)) d_X0_init_38 fl_X0_11 (qap_at (j := 0) rfl) rfl ?_
  refine z_iload_n d_X0_init_41 rfl rfl ?_
  refine z_new d_X0_init_42 nw_X0_9 ?_
  refine z_eq rfl rfl qap_one ?_
  show qEx M_X0_init 45 [qR h.1, qI 3] [qR (h.1 + 19), qI 3, qR (h.1 + 1)] (qap (qap h 1471 ((([qOb 0 [qR (h.1 + 1), qR (h.1 + 2), qR (h.1 + 3)], qRr 2 4 (qupR (qupR (qupR (fun _ => none) 0 (h.1 + 4)) 1 (h.1 + 9)) 2 (h.1 + 14)), qAr 0 648 (fun _ => 0), qAr 0 648 (fun _ => 0)] ++ gPg (h.1 + 4)) ++ gPg (h.1 + 9)) ++ gPg (h.1 + 14))) 5 [qOb 2 [qN, qN, qN, qN, qI 0]]) none _
  refine z_dup d_X0_init_45 rfl ?_
  refine z_callI (M1 := M_X2_init) d_X0_init_46 li_X0_24 k_X2_init rfl [] rfl rfl (Nat.le_of_ble_eq_true rfl) (by decide) (by decide) (Nat.le_of_ble_eq_true rfl) (i_gPg (h := (qap h 1471 ((([qOb 0 [qR (h.1 + 1), qR (h.1 + 2), qR (h.1 + 3)], qRr 2 4 (qupR (qupR (qupR (fun _ => none) 0 (h.1 + 4)) 1 (h.1 + 9)) 2 (h.1 + 14)), qAr 0 648 (fun _ => 0), qAr 0 648 (fun _ => 0)] ++ gPg (h.1 + 4)) ++ gPg (h.1 + 9)) ++ gPg (h.1 + 14)))) (n := (h.1 + 19)) rfl (Nat.le_trans h2 (Nat.le_add_right _ _))) ?_
  refine z_eq rfl rfl qap_ap ?_
  show qEx M_X0_init 49 [qR h.1, qI 3] [qR (h.1 + 19), qI 3, qR (h.1 + 1)] (qap h 1527 (((([qOb 0 [qR (h.1 + 1), qR (h.1 + 2), qR (h.1 + 3)], qRr 2 4 (qupR (qupR (qupR (fun _ => none) 0 (h.1 + 4)) 1 (h.1 + 9)) 2 (h.1 + 14)), qAr 0 648 (fun _ => 0), qAr 0 648 (fun _ => 0)] ++ gPg (h.1 + 4)) ++ gPg (h.1 + 9)) ++ gPg (h.1 + 14)) ++ gPg (h.1 + 19))) none _
  refine z_aastore d_X0_init_49 (Or.inl ⟨rfl, rfl, rfl⟩) (qap_at (j := 1) rfl) (qap_at (j := 19) rfl) (by decide) (by decide) ?_
  refine z_eq rfl rfl (qap_set (j := 1) (Nat.le_of_ble_eq_true rfl)) ?_
  show qEx M_X0_init 50 [qR h.1, qI 3] [] (qap h 1527 (((([qOb 0 [qR (h.1 + 1), qR (h.1 + 2), qR (h.1 + 3)], qRr 2 4 (qupR (qupR (qupR (qupR (fun _ => none) 0 (h.1 + 4)) 1 (h.1 + 9)) 2 (h.1 + 14)) 3 (h.1 + 19)), qAr 0 648 (fun _ => 0), qAr 0 648 (fun _ => 0)] ++ gPg (h.1 + 4)) ++ gPg (h.1 + 9)) ++ gPg (h.1 + 14)) ++ gPg (h.1 + 19))) none _
  refine z_iinc (ls' := [qR h.1, qI 4]) d_X0_init_50 rfl (by decide) (by decide) rfl ?_
  refine z_goto 32 d_X0_init_53 (by decide) ?_
  refine z_iload_n d_X0_init_32 rfl rfl ?_
  refine z_iconst d_X0_init_33 (by decide) ?_
  refine z_icmp_ge 56 d_X0_init_34 (by decide) (fun hc => ?_) (fun hc => absurd (by decide) hc)
  refine z_eq rfl rfl (show qap h 1527 _ = (qap h 1527 (((([qOb 0 [qR (h.1 + 1), qR (h.1 + 2), qR (h.1 + 3)], qRr 2 4 (gkA h.1), qAr 0 648 (fun _ => 0), qAr 0 648 (fun _ => 0)] ++ gPg (h.1 + 4)) ++ gPg (h.1 + 9)) ++ gPg (h.1 + 14)) ++ gPg (h.1 + 19))) by rw [← gkA_of]) ?_
  refine z_iconst d_X0_init_56 (by decide) ?_
  refine z_istore_n (ls' := [qR h.1, qI 0]) d_X0_init_57 rfl (by decide) rfl ?_
  refine z_eq rfl rfl (show qap h 1527 _ = qap h 1527 (((([qOb 0 [qR (h.1 + 1), qR (h.1 + 2), qR (h.1 + 3)], qRr 2 4 (gkA h.1), qAr 0 648 (fil sd0 0), qAr 0 648 (fil dd0 0)] ++ gPg (h.1 + 4)) ++ gPg (h.1 + 9)) ++ gPg (h.1 + 14)) ++ gPg (h.1 + 19)) by rw [← fil_0 sd0, ← fil_0 dd0]) ?_
  refine z_for 648 (fun i => [qR h.1, qI ((i : Nat) : Int)]) (fun i => qap h 1527 (((([qOb 0 [qR (h.1 + 1), qR (h.1 + 2), qR (h.1 + 3)], qRr 2 4 (gkA h.1), qAr 0 648 (fil sd0 i), qAr 0 648 (fil dd0 i)] ++ gPg (h.1 + 4)) ++ gPg (h.1 + 9)) ++ gPg (h.1 + 14)) ++ gPg (h.1 + 19))) (fun _ => True) trivial (fun i hi _ k9 => ?_) (fun _ => ?_)
  · show qEx M_X0_init 58 [qR h.1, qI (i : Int)] [] (qap h 1527 (((([qOb 0 [qR (h.1 + 1), qR (h.1 + 2), qR (h.1 + 3)], qRr 2 4 (gkA h.1), qAr 0 648 (fil sd0 i), qAr 0 648 (fil dd0 i)] ++ gPg (h.1 + 4)) ++ gPg (h.1 + 9)) ++ gPg (h.1 + 14)) ++ gPg (h.1 + 19))) none _
    refine z_iload_n d_X0_init_58 rfl rfl ?_
    refine z_sipush d_X0_init_59 (by decide) ?_
    refine z_icmp_ge 88 d_X0_init_62 (by decide) (fun hc => absurd hc (by omega)) (fun hc => ?_)
    refine z_aload_n d_X0_init_65 rfl rfl ?_
    refine z_getf (v := qR (h.1 + 2)) d_X0_init_66 fl_X0_17 (qap_at (j := 0) rfl) rfl ?_
    refine z_iload_n d_X0_init_69 rfl rfl ?_
    refine z_iload_n d_X0_init_70 rfl rfl ?_
    refine z_bipush d_X0_init_71 (by decide) ?_
    refine z_idiv d_X0_init_73 (by omega) ?_
    refine z_eq rfl (qc (qi (show _ = sd0 i by unfold sd0; rw [Int.tdiv_eq_ediv_of_nonneg (by omega)]; rfl)) rfl) rfl ?_
    refine z_ist i d_X0_init_74 (qap_at (j := 2) rfl) (by have := h2; omega) rfl (by omega) ?_
    refine z_eq rfl rfl ((qap_set (j := 2) (Nat.le_of_ble_eq_true rfl)).trans (show qap h 1527 _ = (qap h 1527 (((([qOb 0 [qR (h.1 + 1), qR (h.1 + 2), qR (h.1 + 3)], qRr 2 4 (gkA h.1), qAr 0 648 (fil sd0 (i + 1)), qAr 0 648 (fil dd0 i)] ++ gPg (h.1 + 4)) ++ gPg (h.1 + 9)) ++ gPg (h.1 + 14)) ++ gPg (h.1 + 19))) by rw [fil_up sd0 i (by rfl)]; rfl)) ?_
    show qEx M_X0_init 75 [qR h.1, qI (i : Int)] [] (qap h 1527 (((([qOb 0 [qR (h.1 + 1), qR (h.1 + 2), qR (h.1 + 3)], qRr 2 4 (gkA h.1), qAr 0 648 (fil sd0 (i + 1)), qAr 0 648 (fil dd0 i)] ++ gPg (h.1 + 4)) ++ gPg (h.1 + 9)) ++ gPg (h.1 + 14)) ++ gPg (h.1 + 19))) none _
    refine z_aload_n d_X0_init_75 rfl rfl ?_
    refine z_getf (v := qR (h.1 + 3)) d_X0_init_76 fl_X0_21 (qap_at (j := 0) rfl) rfl ?_
    refine z_iload_n d_X0_init_79 rfl rfl ?_
    refine z_iconst d_X0_init_80 (by decide) ?_
    refine z_ist i d_X0_init_81 (qap_at (j := 3) rfl) (by have := h2; omega) rfl (by omega) ?_
    refine z_eq rfl rfl ((qap_set (j := 3) (Nat.le_of_ble_eq_true rfl)).trans (show qap h 1527 _ = (qap h 1527 (((([qOb 0 [qR (h.1 + 1), qR (h.1 + 2), qR (h.1 + 3)], qRr 2 4 (gkA h.1), qAr 0 648 (fil sd0 (i + 1)), qAr 0 648 (fil dd0 (i + 1))] ++ gPg (h.1 + 4)) ++ gPg (h.1 + 9)) ++ gPg (h.1 + 14)) ++ gPg (h.1 + 19))) by rw [fil_up dd0 i (by rfl)]; rfl)) ?_
    show qEx M_X0_init 82 [qR h.1, qI (i : Int)] [] (qap h 1527 (((([qOb 0 [qR (h.1 + 1), qR (h.1 + 2), qR (h.1 + 3)], qRr 2 4 (gkA h.1), qAr 0 648 (fil sd0 (i + 1)), qAr 0 648 (fil dd0 (i + 1))] ++ gPg (h.1 + 4)) ++ gPg (h.1 + 9)) ++ gPg (h.1 + 14)) ++ gPg (h.1 + 19))) none _
    refine z_iinc (ls' := [qR h.1, qI (((i + 1 : Nat)) : Int)]) d_X0_init_82 rfl (by decide) (by omega) rfl ?_
    refine z_goto 58 d_X0_init_85 (by decide) ?_
    exact k9 trivial
  show qEx M_X0_init 58 [qR h.1, qI 648] [] (qap h 1527 (((([qOb 0 [qR (h.1 + 1), qR (h.1 + 2), qR (h.1 + 3)], qRr 2 4 (gkA h.1), qAr 0 648 (fil sd0 648), qAr 0 648 (fil dd0 648)] ++ gPg (h.1 + 4)) ++ gPg (h.1 + 9)) ++ gPg (h.1 + 14)) ++ gPg (h.1 + 19))) none _
  refine z_iload_n d_X0_init_58 rfl rfl ?_
  refine z_sipush d_X0_init_59 (by decide) ?_
  refine z_icmp_ge 88 d_X0_init_62 (by decide) (fun hc => ?_) (fun hc => absurd (by decide) hc)
  exact z_vret d_X0_init_88 rfl rfl rfl
theorem l_gBk {n : Nat} : (gBk n).length = 24 := by simp only [gBk, List.length_append, List.length_cons, List.length_nil, l_gPg, l_gFb, l_gRw16, l_gRw150, l_gRw8, l_gRu, l_gWl]
def gPa (n : Nat) : List qC := (((((([qOb 3 [qR (n + 1), qR (n + 2), qI 0, qI 0], qRr 10 6 (paA n), qAr 0 6 (fun _ => 0)] ++ gWl (n + 3)) ++ gWl (n + 8)) ++ gWl (n + 13)) ++ gWl (n + 18)) ++ gWl (n + 23)) ++ gWl (n + 28))
theorem i_gPa {h : qH} {n : Nat} (hn : h.1 = n) (h2 : 2 ≤ h.1) : qEx M_X3_init 0 [qR n, qU] [] (qap h 4 [qOb 3 [qN, qN, qI 0, qI 0]]) none (qap h 856 (gPa n)) := by
  subst hn
  show qEx _ _ _ _ _ _ (qap h 856 (((((([qOb 3 [qR (h.1 + 1), qR (h.1 + 2), qI 0, qI 0], qRr 10 6 (paA h.1), qAr 0 6 (fun _ => 0)] ++ gWl (h.1 + 3)) ++ gWl (h.1 + 8)) ++ gWl (h.1 + 13)) ++ gWl (h.1 + 18)) ++ gWl (h.1 + 23)) ++ gWl (h.1 + 28)))
  refine z_aload_n d_X3_init_0 rfl rfl ?_
  refine z_objinit d_X3_init_1 lo_X3_1 lo_i lo_c (by decide) (Nat.le_of_ble_eq_true rfl) ?_
  refine z_aload_n d_X3_init_4 rfl rfl ?_
  refine z_bipush d_X3_init_5 (by decide) ?_
  refine z_anew d_X3_init_7 (Or.inr ⟨rfl, rfl, rfl⟩) cl_X3_9 (by decide) (by decide) ?_
  refine z_eq rfl rfl qap_new ?_
  show qEx M_X3_init 10 [qR h.1, qU] [qR (h.1 + 1), qR h.1] (qap h 10 [qOb 3 [qN, qN, qI 0, qI 0], qRr 10 6 (fun _ => none)]) none _
  refine z_putF (fs' := [qR (h.1 + 1), qN, qI 0, qI 0]) d_X3_init_10 fp_X3_11 rfl (qap_at (j := 0) rfl) (fun _ => rfl) (fun _ => rfl) (Nat.le_of_ble_eq_true rfl) rfl ?_
  refine z_eq rfl rfl (qap_set (j := 0) (Nat.le_of_ble_eq_true rfl)) ?_
  show qEx M_X3_init 13 [qR h.1, qU] [] (qap h 10 [qOb 3 [qR (h.1 + 1), qN, qI 0, qI 0], qRr 10 6 (fun _ => none)]) none _
  refine z_aload_n d_X3_init_13 rfl rfl ?_
  refine z_bipush d_X3_init_14 (by decide) ?_
  refine z_newI d_X3_init_16 ac_int (by decide) (by decide) ?_
  refine z_eq rfl rfl qap_new ?_
  show qEx M_X3_init 18 [qR h.1, qU] [qR (h.1 + 2), qR h.1] (qap h 16 [qOb 3 [qR (h.1 + 1), qN, qI 0, qI 0], qRr 10 6 (fun _ => none), qAr 0 6 (fun _ => 0)]) none _
  refine z_putF (fs' := [qR (h.1 + 1), qR (h.1 + 2), qI 0, qI 0]) d_X3_init_18 fp_X3_15 rfl (qap_at (j := 0) rfl) (fun _ => rfl) (fun _ => rfl) (Nat.le_of_ble_eq_true rfl) rfl ?_
  refine z_eq rfl rfl (qap_set (j := 0) (Nat.le_of_ble_eq_true rfl)) ?_
  show qEx M_X3_init 21 [qR h.1, qU] [] (qap h 16 [qOb 3 [qR (h.1 + 1), qR (h.1 + 2), qI 0, qI 0], qRr 10 6 (fun _ => none), qAr 0 6 (fun _ => 0)]) none _
  refine z_aload_n d_X3_init_21 rfl rfl ?_
  refine z_iconst d_X3_init_22 (by decide) ?_
  refine z_putf (fs' := [qR (h.1 + 1), qR (h.1 + 2), qI 0, qI 0]) d_X3_init_23 fp_X3_19 (qap_at (j := 0) rfl) (fun _ => rfl) (fun _ => rfl) (Nat.le_of_ble_eq_true rfl) rfl ?_
  refine z_eq rfl rfl (qap_set (j := 0) (Nat.le_of_ble_eq_true rfl)) ?_
  show qEx M_X3_init 26 [qR h.1, qU] [] (qap h 16 [qOb 3 [qR (h.1 + 1), qR (h.1 + 2), qI 0, qI 0], qRr 10 6 (fun _ => none), qAr 0 6 (fun _ => 0)]) none _
  refine z_aload_n d_X3_init_26 rfl rfl ?_
  refine z_iconst d_X3_init_27 (by decide) ?_
  refine z_putf (fs' := [qR (h.1 + 1), qR (h.1 + 2), qI 0, qI 0]) d_X3_init_28 fp_X3_23 (qap_at (j := 0) rfl) (fun _ => rfl) (fun _ => rfl) (Nat.le_of_ble_eq_true rfl) rfl ?_
  refine z_eq rfl rfl (qap_set (j := 0) (Nat.le_of_ble_eq_true rfl)) ?_
  show qEx M_X3_init 31 [qR h.1, qU] [] (qap h 16 [qOb 3 [qR (h.1 + 1), qR (h.1 + 2), qI 0, qI 0], qRr 10 6 (fun _ => none), qAr 0 6 (fun _ => 0)]) none _
  refine z_iconst d_X3_init_31 (by decide) ?_
  refine z_istore_n (ls' := [qR h.1, qI 0]) d_X3_init_32 rfl (by decide) rfl ?_
  refine z_iload_n d_X3_init_33 rfl rfl ?_
  refine z_bipush d_X3_init_34 (by decide) ?_
  refine z_icmp_ge 58 d_X3_init_36 (by decide) (fun hc => absurd hc (by decide)) (fun hc => ?_)
  refine z_aload_n d_X3_init_39 rfl rfl ?_
  refine z_getf (v := qR (h.1 + 1)) d_X3_init_40 fl_X3_11 (qap_at (j := 0) rfl) rfl ?_
  refine z_iload_n d_X3_init_43 rfl rfl ?_
  refine z_new d_X3_init_44 nw_X3_9 ?_
  refine z_eq rfl rfl qap_one ?_
  show qEx M_X3_init 47 [qR h.1, qI 0] [qR (h.1 + 3), qI 0, qR (h.1 + 1)] (qap (qap h 16 [qOb 3 [qR (h.1 + 1), qR (h.1 + 2), qI 0, qI 0], qRr 10 6 (fun _ => none), qAr 0 6 (fun _ => 0)]) 12 [qOb 10 [qI 0, qI 0, qN, qN, qN, qN, qI 0, qI 0, qI 0, qI 0, qI 0, qI 0]]) none _
  refine z_dup d_X3_init_47 rfl ?_
  refine z_callI (M1 := M_X10_init) d_X3_init_48 li_X3_26 k_X10_init rfl [] rfl rfl (Nat.le_of_ble_eq_true rfl) (by decide) (by decide) (Nat.le_of_ble_eq_true rfl) (i_gWl (h := (qap h 16 [qOb 3 [qR (h.1 + 1), qR (h.1 + 2), qI 0, qI 0], qRr 10 6 (fun _ => none), qAr 0 6 (fun _ => 0)])) (n := (h.1 + 3)) rfl (Nat.le_trans h2 (Nat.le_add_right _ _))) ?_
  refine z_eq rfl rfl qap_ap ?_
  show qEx M_X3_init 51 [qR h.1, qI 0] [qR (h.1 + 3), qI 0, qR (h.1 + 1)] (qap h 156 ([qOb 3 [qR (h.1 + 1), qR (h.1 + 2), qI 0, qI 0], qRr 10 6 (fun _ => none), qAr 0 6 (fun _ => 0)] ++ gWl (h.1 + 3))) none _
  refine z_aastore d_X3_init_51 (Or.inr ⟨rfl, rfl, rfl⟩) (qap_at (j := 1) rfl) (qap_at (j := 3) rfl) (by decide) (by decide) ?_
  refine z_eq rfl rfl (qap_set (j := 1) (Nat.le_of_ble_eq_true rfl)) ?_
  show qEx M_X3_init 52 [qR h.1, qI 0] [] (qap h 156 ([qOb 3 [qR (h.1 + 1), qR (h.1 + 2), qI 0, qI 0], qRr 10 6 (qupR (fun _ => none) 0 (h.1 + 3)), qAr 0 6 (fun _ => 0)] ++ gWl (h.1 + 3))) none _
  refine z_iinc (ls' := [qR h.1, qI 1]) d_X3_init_52 rfl (by decide) (by decide) rfl ?_
  refine z_goto 33 d_X3_init_55 (by decide) ?_
  refine z_iload_n d_X3_init_33 rfl rfl ?_
  refine z_bipush d_X3_init_34 (by decide) ?_
  refine z_icmp_ge 58 d_X3_init_36 (by decide) (fun hc => absurd hc (by decide)) (fun hc => ?_)
  refine z_aload_n d_X3_init_39 rfl rfl ?_
  refine z_getf (v := qR (h.1 + 1)) d_X3_init_40 fl_X3_11 (qap_at (j := 0) rfl) rfl ?_
  refine z_iload_n d_X3_init_43 rfl rfl ?_
  refine z_new d_X3_init_44 nw_X3_9 ?_
  refine z_eq rfl rfl qap_one ?_
  show qEx M_X3_init 47 [qR h.1, qI 1] [qR (h.1 + 8), qI 1, qR (h.1 + 1)] (qap (qap h 156 ([qOb 3 [qR (h.1 + 1), qR (h.1 + 2), qI 0, qI 0], qRr 10 6 (qupR (fun _ => none) 0 (h.1 + 3)), qAr 0 6 (fun _ => 0)] ++ gWl (h.1 + 3))) 12 [qOb 10 [qI 0, qI 0, qN, qN, qN, qN, qI 0, qI 0, qI 0, qI 0, qI 0, qI 0]]) none _
  refine z_dup d_X3_init_47 rfl ?_
  refine z_callI (M1 := M_X10_init) d_X3_init_48 li_X3_26 k_X10_init rfl [] rfl rfl (Nat.le_of_ble_eq_true rfl) (by decide) (by decide) (Nat.le_of_ble_eq_true rfl) (i_gWl (h := (qap h 156 ([qOb 3 [qR (h.1 + 1), qR (h.1 + 2), qI 0, qI 0], qRr 10 6 (qupR (fun _ => none) 0 (h.1 + 3)), qAr 0 6 (fun _ => 0)] ++ gWl (h.1 + 3)))) (n := (h.1 + 8)) rfl (Nat.le_trans h2 (Nat.le_add_right _ _))) ?_
  refine z_eq rfl rfl qap_ap ?_
  show qEx M_X3_init 51 [qR h.1, qI 1] [qR (h.1 + 8), qI 1, qR (h.1 + 1)] (qap h 296 (([qOb 3 [qR (h.1 + 1), qR (h.1 + 2), qI 0, qI 0], qRr 10 6 (qupR (fun _ => none) 0 (h.1 + 3)), qAr 0 6 (fun _ => 0)] ++ gWl (h.1 + 3)) ++ gWl (h.1 + 8))) none _
  refine z_aastore d_X3_init_51 (Or.inr ⟨rfl, rfl, rfl⟩) (qap_at (j := 1) rfl) (qap_at (j := 8) rfl) (by decide) (by decide) ?_
  refine z_eq rfl rfl (qap_set (j := 1) (Nat.le_of_ble_eq_true rfl)) ?_
  show qEx M_X3_init 52 [qR h.1, qI 1] [] (qap h 296 (([qOb 3 [qR (h.1 + 1), qR (h.1 + 2), qI 0, qI 0], qRr 10 6 (qupR (qupR (fun _ => none) 0 (h.1 + 3)) 1 (h.1 + 8)), qAr 0 6 (fun _ => 0)] ++ gWl (h.1 + 3)) ++ gWl (h.1 + 8))) none _
  refine z_iinc (ls' := [qR h.1, qI 2]) d_X3_init_52 rfl (by decide) (by decide) rfl ?_
  refine z_goto 33 d_X3_init_55 (by decide) ?_
  refine z_iload_n d_X3_init_33 rfl rfl ?_
  refine z_bipush d_X3_init_34 (by decide) ?_
  refine z_icmp_ge 58 d_X3_init_36 (by decide) (fun hc => absurd hc (by decide)) (fun hc => ?_)
  refine z_aload_n d_X3_init_39 rfl rfl ?_
  refine z_getf (v := qR (h.1 + 1)) d_X3_init_40 fl_X3_11 (qap_at (j := 0) rfl) rfl ?_
  refine z_iload_n d_X3_init_43 rfl rfl ?_
  refine z_new d_X3_init_44 nw_X3_9 ?_
  refine z_eq rfl rfl qap_one ?_
  show qEx M_X3_init 47 [qR h.1, qI 2] [qR (h.1 + 13), qI 2, qR (h.1 + 1)] (qap (qap h 296 (([qOb 3 [qR (h.1 + 1), qR (h.1 + 2), qI 0, qI 0], qRr 10 6 (qupR (qupR (fun _ => none) 0 (h.1 + 3)) 1 (h.1 + 8)), qAr 0 6 (fun _ => 0)] ++ gWl (h.1 + 3)) ++ gWl (h.1 + 8))) 12 [qOb 10 [qI 0, qI 0, qN, qN, qN, qN, qI 0, qI 0, qI 0, qI 0, qI 0, qI 0]]) none _
  refine z_dup d_X3_init_47 rfl ?_
  refine z_callI (M1 := M_X10_init) d_X3_init_48 li_X3_26 k_X10_init rfl [] rfl rfl (Nat.le_of_ble_eq_true rfl) (by decide) (by decide) (Nat.le_of_ble_eq_true rfl) (i_gWl (h := (qap h 296 (([qOb 3 [qR (h.1 + 1), qR (h.1 + 2), qI 0, qI 0], qRr 10 6 (qupR (qupR (fun _ => none) 0 (h.1 + 3)) 1 (h.1 + 8)), qAr 0 6 (fun _ => 0)] ++ gWl (h.1 + 3)) ++ gWl (h.1 + 8)))) (n := (h.1 + 13)) rfl (Nat.le_trans h2 (Nat.le_add_right _ _))) ?_
  refine z_eq rfl rfl qap_ap ?_
  show qEx M_X3_init 51 [qR h.1, qI 2] [qR (h.1 + 13), qI 2, qR (h.1 + 1)] (qap h 436 ((([qOb 3 [qR (h.1 + 1), qR (h.1 + 2), qI 0, qI 0], qRr 10 6 (qupR (qupR (fun _ => none) 0 (h.1 + 3)) 1 (h.1 + 8)), qAr 0 6 (fun _ => 0)] ++ gWl (h.1 + 3)) ++ gWl (h.1 + 8)) ++ gWl (h.1 + 13))) none _
  refine z_aastore d_X3_init_51 (Or.inr ⟨rfl, rfl, rfl⟩) (qap_at (j := 1) rfl) (qap_at (j := 13) rfl) (by decide) (by decide) ?_
  refine z_eq rfl rfl (qap_set (j := 1) (Nat.le_of_ble_eq_true rfl)) ?_
  show qEx M_X3_init 52 [qR h.1, qI 2] [] (qap h 436 ((([qOb 3 [qR (h.1 + 1), qR (h.1 + 2), qI 0, qI 0], qRr 10 6 (qupR (qupR (qupR (fun _ => none) 0 (h.1 + 3)) 1 (h.1 + 8)) 2 (h.1 + 13)), qAr 0 6 (fun _ => 0)] ++ gWl (h.1 + 3)) ++ gWl (h.1 + 8)) ++ gWl (h.1 + 13))) none _
  refine z_iinc (ls' := [qR h.1, qI 3]) d_X3_init_52 rfl (by decide) (by decide) rfl ?_
  refine z_goto 33 d_X3_init_55 (by decide) ?_
  refine z_iload_n d_X3_init_33 rfl rfl ?_
  refine z_bipush d_X3_init_34 (by decide) ?_
  refine z_icmp_ge 58 d_X3_init_36 (by decide) (fun hc => absurd hc (by decide)) (fun hc => ?_)
  refine z_aload_n d_X3_init_39 rfl rfl ?_
  refine z_getf (v := qR (h.1 + 1)) d_X3_init_40 fl_X3_11 (qap_at (j := 0) rfl) rfl ?_
  refine z_iload_n d_X3_init_43 rfl rfl ?_
  refine z_new d_X3_init_44 nw_X3_9 ?_
  refine z_eq rfl rfl qap_one ?_
  show qEx M_X3_init 47 [qR h.1, qI 3] [qR (h.1 + 18), qI 3, qR (h.1 + 1)] (qap (qap h 436 ((([qOb 3 [qR (h.1 + 1), qR (h.1 + 2), qI 0, qI 0], qRr 10 6 (qupR (qupR (qupR (fun _ => none) 0 (h.1 + 3)) 1 (h.1 + 8)) 2 (h.1 + 13)), qAr 0 6 (fun _ => 0)] ++ gWl (h.1 + 3)) ++ gWl (h.1 + 8)) ++ gWl (h.1 + 13))) 12 [qOb 10 [qI 0, qI 0, qN, qN, qN, qN, qI 0, qI 0, qI 0, qI 0, qI 0, qI 0]]) none _
  refine z_dup d_X3_init_47 rfl ?_
  refine z_callI (M1 := M_X10_init) d_X3_init_48 li_X3_26 k_X10_init rfl [] rfl rfl (Nat.le_of_ble_eq_true rfl) (by decide) (by decide) (Nat.le_of_ble_eq_true rfl) (i_gWl (h := (qap h 436 ((([qOb 3 [qR (h.1 + 1), qR (h.1 + 2), qI 0, qI 0], qRr 10 6 (qupR (qupR (qupR (fun _ => none) 0 (h.1 + 3)) 1 (h.1 + 8)) 2 (h.1 + 13)), qAr 0 6 (fun _ => 0)] ++ gWl (h.1 + 3)) ++ gWl (h.1 + 8)) ++ gWl (h.1 + 13)))) (n := (h.1 + 18)) rfl (Nat.le_trans h2 (Nat.le_add_right _ _))) ?_
  refine z_eq rfl rfl qap_ap ?_
  show qEx M_X3_init 51 [qR h.1, qI 3] [qR (h.1 + 18), qI 3, qR (h.1 + 1)] (qap h 576 (((([qOb 3 [qR (h.1 + 1), qR (h.1 + 2), qI 0, qI 0], qRr 10 6 (qupR (qupR (qupR (fun _ => none) 0 (h.1 + 3)) 1 (h.1 + 8)) 2 (h.1 + 13)), qAr 0 6 (fun _ => 0)] ++ gWl (h.1 + 3)) ++ gWl (h.1 + 8)) ++ gWl (h.1 + 13)) ++ gWl (h.1 + 18))) none _
  refine z_aastore d_X3_init_51 (Or.inr ⟨rfl, rfl, rfl⟩) (qap_at (j := 1) rfl) (qap_at (j := 18) rfl) (by decide) (by decide) ?_
  refine z_eq rfl rfl (qap_set (j := 1) (Nat.le_of_ble_eq_true rfl)) ?_
  show qEx M_X3_init 52 [qR h.1, qI 3] [] (qap h 576 (((([qOb 3 [qR (h.1 + 1), qR (h.1 + 2), qI 0, qI 0], qRr 10 6 (qupR (qupR (qupR (qupR (fun _ => none) 0 (h.1 + 3)) 1 (h.1 + 8)) 2 (h.1 + 13)) 3 (h.1 + 18)), qAr 0 6 (fun _ => 0)] ++ gWl (h.1 + 3)) ++ gWl (h.1 + 8)) ++ gWl (h.1 + 13)) ++ gWl (h.1 + 18))) none _
  refine z_iinc (ls' := [qR h.1, qI 4]) d_X3_init_52 rfl (by decide) (by decide) rfl ?_
  refine z_goto 33 d_X3_init_55 (by decide) ?_
  refine z_iload_n d_X3_init_33 rfl rfl ?_
  refine z_bipush d_X3_init_34 (by decide) ?_
  refine z_icmp_ge 58 d_X3_init_36 (by decide) (fun hc => absurd hc (by decide)) (fun hc => ?_)
  refine z_aload_n d_X3_init_39 rfl rfl ?_
  refine z_getf (v := qR (h.1 + 1)) d_X3_init_40 fl_X3_11 (qap_at (j := 0) rfl) rfl ?_
  refine z_iload_n d_X3_init_43 rfl rfl ?_
  refine z_new d_X3_init_44 nw_X3_9 ?_
  refine z_eq rfl rfl qap_one ?_
  show qEx M_X3_init 47 [qR h.1, qI 4] [qR (h.1 + 23), qI 4, qR (h.1 + 1)] (qap (qap h 576 (((([qOb 3 [qR (h.1 + 1), qR (h.1 + 2), qI 0, qI 0], qRr 10 6 (qupR (qupR (qupR (qupR (fun _ => none) 0 (h.1 + 3)) 1 (h.1 + 8)) 2 (h.1 + 13)) 3 (h.1 + 18)), qAr 0 6 (fun _ => 0)] ++ gWl (h.1 + 3)) ++ gWl (h.1 + 8)) ++ gWl (h.1 + 13)) ++ gWl (h.1 + 18))) 12 [qOb 10 [qI 0, qI 0, qN, qN, qN, qN, qI 0, qI 0, qI 0, qI 0, qI 0, qI 0]]) none _
  refine z_dup d_X3_init_47 rfl ?_
  refine z_callI (M1 := M_X10_init) d_X3_init_48 li_X3_26 k_X10_init rfl [] rfl rfl (Nat.le_of_ble_eq_true rfl) (by decide) (by decide) (Nat.le_of_ble_eq_true rfl) (i_gWl (h := (qap h 576 (((([qOb 3 [qR (h.1 + 1), qR (h.1 + 2), qI 0, qI 0], qRr 10 6 (qupR (qupR (qupR (qupR (fun _ => none) 0 (h.1 + 3)) 1 (h.1 + 8)) 2 (h.1 + 13)) 3 (h.1 + 18)), qAr 0 6 (fun _ => 0)] ++ gWl (h.1 + 3)) ++ gWl (h.1 + 8)) ++ gWl (h.1 + 13)) ++ gWl (h.1 + 18)))) (n := (h.1 + 23)) rfl (Nat.le_trans h2 (Nat.le_add_right _ _))) ?_
  refine z_eq rfl rfl qap_ap ?_
  show qEx M_X3_init 51 [qR h.1, qI 4] [qR (h.1 + 23), qI 4, qR (h.1 + 1)] (qap h 716 ((((([qOb 3 [qR (h.1 + 1), qR (h.1 + 2), qI 0, qI 0], qRr 10 6 (qupR (qupR (qupR (qupR (fun _ => none) 0 (h.1 + 3)) 1 (h.1 + 8)) 2 (h.1 + 13)) 3 (h.1 + 18)), qAr 0 6 (fun _ => 0)] ++ gWl (h.1 + 3)) ++ gWl (h.1 + 8)) ++ gWl (h.1 + 13)) ++ gWl (h.1 + 18)) ++ gWl (h.1 + 23))) none _
  refine z_aastore d_X3_init_51 (Or.inr ⟨rfl, rfl, rfl⟩) (qap_at (j := 1) rfl) (qap_at (j := 23) rfl) (by decide) (by decide) ?_
  refine z_eq rfl rfl (qap_set (j := 1) (Nat.le_of_ble_eq_true rfl)) ?_
  show qEx M_X3_init 52 [qR h.1, qI 4] [] (qap h 716 ((((([qOb 3 [qR (h.1 + 1), qR (h.1 + 2), qI 0, qI 0], qRr 10 6 (qupR (qupR (qupR (qupR (qupR (fun _ => none) 0 (h.1 + 3)) 1 (h.1 + 8)) 2 (h.1 + 13)) 3 (h.1 + 18)) 4 (h.1 + 23)), qAr 0 6 (fun _ => 0)] ++ gWl (h.1 + 3)) ++ gWl (h.1 + 8)) ++ gWl (h.1 + 13)) ++ gWl (h.1 + 18)) ++ gWl (h.1 + 23))) none _
  refine z_iinc (ls' := [qR h.1, qI 5]) d_X3_init_52 rfl (by decide) (by decide) rfl ?_
  refine z_goto 33 d_X3_init_55 (by decide) ?_
  refine z_iload_n d_X3_init_33 rfl rfl ?_
  refine z_bipush d_X3_init_34 (by decide) ?_
  refine z_icmp_ge 58 d_X3_init_36 (by decide) (fun hc => absurd hc (by decide)) (fun hc => ?_)
  refine z_aload_n d_X3_init_39 rfl rfl ?_
  refine z_getf (v := qR (h.1 + 1)) d_X3_init_40 fl_X3_11 (qap_at (j := 0) rfl) rfl ?_
  refine z_iload_n d_X3_init_43 rfl rfl ?_
  refine z_new d_X3_init_44 nw_X3_9 ?_
  refine z_eq rfl rfl qap_one ?_
  show qEx M_X3_init 47 [qR h.1, qI 5] [qR (h.1 + 28), qI 5, qR (h.1 + 1)] (qap (qap h 716 ((((([qOb 3 [qR (h.1 + 1), qR (h.1 + 2), qI 0, qI 0], qRr 10 6 (qupR (qupR (qupR (qupR (qupR (fun _ => none) 0 (h.1 + 3)) 1 (h.1 + 8)) 2 (h.1 + 13)) 3 (h.1 + 18)) 4 (h.1 + 23)), qAr 0 6 (fun _ => 0)] ++ gWl (h.1 + 3)) ++ gWl (h.1 + 8)) ++ gWl (h.1 + 13)) ++ gWl (h.1 + 18)) ++ gWl (h.1 + 23))) 12 [qOb 10 [qI 0, qI 0, qN, qN, qN, qN, qI 0, qI 0, qI 0, qI 0, qI 0, qI 0]]) none _
  refine z_dup d_X3_init_47 rfl ?_
  refine z_callI (M1 := M_X10_init) d_X3_init_48 li_X3_26 k_X10_init rfl [] rfl rfl (Nat.le_of_ble_eq_true rfl) (by decide) (by decide) (Nat.le_of_ble_eq_true rfl) (i_gWl (h := (qap h 716 ((((([qOb 3 [qR (h.1 + 1), qR (h.1 + 2), qI 0, qI 0], qRr 10 6 (qupR (qupR (qupR (qupR (qupR (fun _ => none) 0 (h.1 + 3)) 1 (h.1 + 8)) 2 (h.1 + 13)) 3 (h.1 + 18)) 4 (h.1 + 23)), qAr 0 6 (fun _ => 0)] ++ gWl (h.1 + 3)) ++ gWl (h.1 + 8)) ++ gWl (h.1 + 13)) ++ gWl (h.1 + 18)) ++ gWl (h.1 + 23)))) (n := (h.1 + 28)) rfl (Nat.le_trans h2 (Nat.le_add_right _ _))) ?_
  refine z_eq rfl rfl qap_ap ?_
  show qEx M_X3_init 51 [qR h.1, qI 5] [qR (h.1 + 28), qI 5, qR (h.1 + 1)] (qap h 856 (((((([qOb 3 [qR (h.1 + 1), qR (h.1 + 2), qI 0, qI 0], qRr 10 6 (qupR (qupR (qupR (qupR (qupR (fun _ => none) 0 (h.1 + 3)) 1 (h.1 + 8)) 2 (h.1 + 13)) 3 (h.1 + 18)) 4 (h.1 + 23)), qAr 0 6 (fun _ => 0)] ++ gWl (h.1 + 3)) ++ gWl (h.1 + 8)) ++ gWl (h.1 + 13)) ++ gWl (h.1 + 18)) ++ gWl (h.1 + 23)) ++ gWl (h.1 + 28))) none _
  refine z_aastore d_X3_init_51 (Or.inr ⟨rfl, rfl, rfl⟩) (qap_at (j := 1) rfl) (qap_at (j := 28) rfl) (by decide) (by decide) ?_
  refine z_eq rfl rfl (qap_set (j := 1) (Nat.le_of_ble_eq_true rfl)) ?_
  show qEx M_X3_init 52 [qR h.1, qI 5] [] (qap h 856 (((((([qOb 3 [qR (h.1 + 1), qR (h.1 + 2), qI 0, qI 0], qRr 10 6 (qupR (qupR (qupR (qupR (qupR (qupR (fun _ => none) 0 (h.1 + 3)) 1 (h.1 + 8)) 2 (h.1 + 13)) 3 (h.1 + 18)) 4 (h.1 + 23)) 5 (h.1 + 28)), qAr 0 6 (fun _ => 0)] ++ gWl (h.1 + 3)) ++ gWl (h.1 + 8)) ++ gWl (h.1 + 13)) ++ gWl (h.1 + 18)) ++ gWl (h.1 + 23)) ++ gWl (h.1 + 28))) none _
  refine z_iinc (ls' := [qR h.1, qI 6]) d_X3_init_52 rfl (by decide) (by decide) rfl ?_
  refine z_goto 33 d_X3_init_55 (by decide) ?_
  refine z_iload_n d_X3_init_33 rfl rfl ?_
  refine z_bipush d_X3_init_34 (by decide) ?_
  refine z_icmp_ge 58 d_X3_init_36 (by decide) (fun hc => ?_) (fun hc => absurd (by decide) hc)
  refine z_eq rfl rfl (show qap h 856 _ = (qap h 856 (((((([qOb 3 [qR (h.1 + 1), qR (h.1 + 2), qI 0, qI 0], qRr 10 6 (paA h.1), qAr 0 6 (fun _ => 0)] ++ gWl (h.1 + 3)) ++ gWl (h.1 + 8)) ++ gWl (h.1 + 13)) ++ gWl (h.1 + 18)) ++ gWl (h.1 + 23)) ++ gWl (h.1 + 28))) by rw [← paA_of]) ?_
  exact z_vret d_X3_init_58 rfl rfl rfl
theorem l_gPa {n : Nat} : (gPa n).length = 33 := by simp only [gPa, List.length_append, List.length_cons, List.length_nil, l_gPg, l_gFb, l_gRw16, l_gRw150, l_gRw8, l_gRu, l_gWl, l_gBk]
def gRd (n : Nat) : List qC := (qOb 4 [qR (n + 1), qI 0, qR (n + 2), qR (n + 3), qR (n + 4), qI 0, qI 0, qI 0, qI (-1), qR (n + 5), qR (n + 10)] :: ((((([qAr 0 400 (fun _ => 0)] ++ [qAr 0 401 (fun _ => 0)]) ++ [qAr 0 401 (fun _ => 0)]) ++ [qAr 0 401 (fun _ => 0)]) ++ gPg (n + 5)) ++ gRw16 (n + 10)))
theorem i_gRd {h : qH} {n : Nat} (hn : h.1 = n) (h2 : 2 ≤ h.1) : qEx M_X4_init 0 [qR n] [] (qap h 11 (qOb 4 [qN, qI 0, qN, qN, qN, qI 0, qI 0, qI 0, qI 0, qN, qN] :: [])) none (qap h 1737 (gRd n)) := by
  subst hn
  show qEx _ _ _ _ _ _ (qap h 1737 (qOb 4 [qR (h.1 + 1), qI 0, qR (h.1 + 2), qR (h.1 + 3), qR (h.1 + 4), qI 0, qI 0, qI 0, qI (-1), qR (h.1 + 5), qR (h.1 + 10)] :: ((((([qAr 0 400 (fun _ => 0)] ++ [qAr 0 401 (fun _ => 0)]) ++ [qAr 0 401 (fun _ => 0)]) ++ [qAr 0 401 (fun _ => 0)]) ++ gPg (h.1 + 5)) ++ gRw16 (h.1 + 10))))
  refine z_aload_n d_X4_init_0 rfl rfl ?_
  refine z_objinit d_X4_init_1 lo_X4_3 lo_i lo_c (by decide) (Nat.le_of_ble_eq_true rfl) ?_
  refine z_aload_n d_X4_init_4 rfl rfl ?_
  refine z_sipush d_X4_init_5 (by decide) ?_
  refine z_newI d_X4_init_8 ac_int (by decide) (by decide) ?_
  refine z_eq rfl (qc (congrArg qR (show _ = (h.1 + 1) from (qap_ln (by simp only [List.length_append, List.length_cons, List.length_nil, l_gPg, l_gFb, l_gRw16, l_gRw150, l_gRw8, l_gRu, l_gWl, l_gBk, l_gPa])))) rfl) qap_nwc ?_
  show qEx M_X4_init 10 [qR h.1] [qR (h.1 + 1), qR h.1] (qap h 411 (qOb 4 [qN, qI 0, qN, qN, qN, qI 0, qI 0, qI 0, qI 0, qN, qN] :: [qAr 0 400 (fun _ => 0)])) none _
  refine z_putF (fs' := [qR (h.1 + 1), qI 0, qN, qN, qN, qI 0, qI 0, qI 0, qI 0, qN, qN]) d_X4_init_10 fp_X4_11 rfl qap_hd (fun _ => rfl) (fun _ => rfl) (Nat.le_of_ble_eq_true rfl) rfl ?_
  refine z_eq rfl rfl qap_sh ?_
  show qEx M_X4_init 13 [qR h.1] [] (qap h 411 (qOb 4 [qR (h.1 + 1), qI 0, qN, qN, qN, qI 0, qI 0, qI 0, qI 0, qN, qN] :: [qAr 0 400 (fun _ => 0)])) none _
  refine z_aload_n d_X4_init_13 rfl rfl ?_
  refine z_iconst d_X4_init_14 (by decide) ?_
  refine z_putf (fs' := [qR (h.1 + 1), qI 0, qN, qN, qN, qI 0, qI 0, qI 0, qI 0, qN, qN]) d_X4_init_15 fp_X4_15 qap_hd (fun _ => rfl) (fun _ => rfl) (Nat.le_of_ble_eq_true rfl) rfl ?_
  refine z_eq rfl rfl qap_sh ?_
  show qEx M_X4_init 18 [qR h.1] [] (qap h 411 (qOb 4 [qR (h.1 + 1), qI 0, qN, qN, qN, qI 0, qI 0, qI 0, qI 0, qN, qN] :: [qAr 0 400 (fun _ => 0)])) none _
  refine z_aload_n d_X4_init_18 rfl rfl ?_
  refine z_sipush d_X4_init_19 (by decide) ?_
  refine z_newI d_X4_init_22 ac_int (by decide) (by decide) ?_
  refine z_eq rfl (qc (congrArg qR (show _ = (h.1 + 2) from (qap_ln (by simp only [List.length_append, List.length_cons, List.length_nil, l_gPg, l_gFb, l_gRw16, l_gRw150, l_gRw8, l_gRu, l_gWl, l_gBk, l_gPa])))) rfl) qap_nwc ?_
  show qEx M_X4_init 24 [qR h.1] [qR (h.1 + 2), qR h.1] (qap h 812 (qOb 4 [qR (h.1 + 1), qI 0, qN, qN, qN, qI 0, qI 0, qI 0, qI 0, qN, qN] :: ([qAr 0 400 (fun _ => 0)] ++ [qAr 0 401 (fun _ => 0)]))) none _
  refine z_putF (fs' := [qR (h.1 + 1), qI 0, qR (h.1 + 2), qN, qN, qI 0, qI 0, qI 0, qI 0, qN, qN]) d_X4_init_24 fp_X4_19 rfl qap_hd (fun _ => rfl) (fun _ => rfl) (Nat.le_of_ble_eq_true rfl) rfl ?_
  refine z_eq rfl rfl qap_sh ?_
  show qEx M_X4_init 27 [qR h.1] [] (qap h 812 (qOb 4 [qR (h.1 + 1), qI 0, qR (h.1 + 2), qN, qN, qI 0, qI 0, qI 0, qI 0, qN, qN] :: ([qAr 0 400 (fun _ => 0)] ++ [qAr 0 401 (fun _ => 0)]))) none _
  refine z_aload_n d_X4_init_27 rfl rfl ?_
  refine z_sipush d_X4_init_28 (by decide) ?_
  refine z_newI d_X4_init_31 ac_int (by decide) (by decide) ?_
  refine z_eq rfl (qc (congrArg qR (show _ = (h.1 + 3) from (qap_ln (by simp only [List.length_append, List.length_cons, List.length_nil, l_gPg, l_gFb, l_gRw16, l_gRw150, l_gRw8, l_gRu, l_gWl, l_gBk, l_gPa])))) rfl) qap_nwc ?_
  show qEx M_X4_init 33 [qR h.1] [qR (h.1 + 3), qR h.1] (qap h 1213 (qOb 4 [qR (h.1 + 1), qI 0, qR (h.1 + 2), qN, qN, qI 0, qI 0, qI 0, qI 0, qN, qN] :: (([qAr 0 400 (fun _ => 0)] ++ [qAr 0 401 (fun _ => 0)]) ++ [qAr 0 401 (fun _ => 0)]))) none _
  refine z_putF (fs' := [qR (h.1 + 1), qI 0, qR (h.1 + 2), qR (h.1 + 3), qN, qI 0, qI 0, qI 0, qI 0, qN, qN]) d_X4_init_33 fp_X4_22 rfl qap_hd (fun _ => rfl) (fun _ => rfl) (Nat.le_of_ble_eq_true rfl) rfl ?_
  refine z_eq rfl rfl qap_sh ?_
  show qEx M_X4_init 36 [qR h.1] [] (qap h 1213 (qOb 4 [qR (h.1 + 1), qI 0, qR (h.1 + 2), qR (h.1 + 3), qN, qI 0, qI 0, qI 0, qI 0, qN, qN] :: (([qAr 0 400 (fun _ => 0)] ++ [qAr 0 401 (fun _ => 0)]) ++ [qAr 0 401 (fun _ => 0)]))) none _
  refine z_aload_n d_X4_init_36 rfl rfl ?_
  refine z_sipush d_X4_init_37 (by decide) ?_
  refine z_newI d_X4_init_40 ac_int (by decide) (by decide) ?_
  refine z_eq rfl (qc (congrArg qR (show _ = (h.1 + 4) from (qap_ln (by simp only [List.length_append, List.length_cons, List.length_nil, l_gPg, l_gFb, l_gRw16, l_gRw150, l_gRw8, l_gRu, l_gWl, l_gBk, l_gPa])))) rfl) qap_nwc ?_
  show qEx M_X4_init 42 [qR h.1] [qR (h.1 + 4), qR h.1] (qap h 1614 (qOb 4 [qR (h.1 + 1), qI 0, qR (h.1 + 2), qR (h.1 + 3), qN, qI 0, qI 0, qI 0, qI 0, qN, qN] :: ((([qAr 0 400 (fun _ => 0)] ++ [qAr 0 401 (fun _ => 0)]) ++ [qAr 0 401 (fun _ => 0)]) ++ [qAr 0 401 (fun _ => 0)]))) none _
  refine z_putF (fs' := [qR (h.1 + 1), qI 0, qR (h.1 + 2), qR (h.1 + 3), qR (h.1 + 4), qI 0, qI 0, qI 0, qI 0, qN, qN]) d_X4_init_42 fp_X4_25 rfl qap_hd (fun _ => rfl) (fun _ => rfl) (Nat.le_of_ble_eq_true rfl) rfl ?_
  refine z_eq rfl rfl qap_sh ?_
  show qEx M_X4_init 45 [qR h.1] [] (qap h 1614 (qOb 4 [qR (h.1 + 1), qI 0, qR (h.1 + 2), qR (h.1 + 3), qR (h.1 + 4), qI 0, qI 0, qI 0, qI 0, qN, qN] :: ((([qAr 0 400 (fun _ => 0)] ++ [qAr 0 401 (fun _ => 0)]) ++ [qAr 0 401 (fun _ => 0)]) ++ [qAr 0 401 (fun _ => 0)]))) none _
  refine z_aload_n d_X4_init_45 rfl rfl ?_
  refine z_iconst d_X4_init_46 (by decide) ?_
  refine z_putf (fs' := [qR (h.1 + 1), qI 0, qR (h.1 + 2), qR (h.1 + 3), qR (h.1 + 4), qI 0, qI 0, qI 0, qI 0, qN, qN]) d_X4_init_47 fp_X4_28 qap_hd (fun _ => rfl) (fun _ => rfl) (Nat.le_of_ble_eq_true rfl) rfl ?_
  refine z_eq rfl rfl qap_sh ?_
  show qEx M_X4_init 50 [qR h.1] [] (qap h 1614 (qOb 4 [qR (h.1 + 1), qI 0, qR (h.1 + 2), qR (h.1 + 3), qR (h.1 + 4), qI 0, qI 0, qI 0, qI 0, qN, qN] :: ((([qAr 0 400 (fun _ => 0)] ++ [qAr 0 401 (fun _ => 0)]) ++ [qAr 0 401 (fun _ => 0)]) ++ [qAr 0 401 (fun _ => 0)]))) none _
  refine z_aload_n d_X4_init_50 rfl rfl ?_
  refine z_iconst d_X4_init_51 (by decide) ?_
  refine z_putf (fs' := [qR (h.1 + 1), qI 0, qR (h.1 + 2), qR (h.1 + 3), qR (h.1 + 4), qI 0, qI 0, qI 0, qI 0, qN, qN]) d_X4_init_52 fp_X4_31 qap_hd (fun _ => rfl) (fun _ => rfl) (Nat.le_of_ble_eq_true rfl) rfl ?_
  refine z_eq rfl rfl qap_sh ?_
  show qEx M_X4_init 55 [qR h.1] [] (qap h 1614 (qOb 4 [qR (h.1 + 1), qI 0, qR (h.1 + 2), qR (h.1 + 3), qR (h.1 + 4), qI 0, qI 0, qI 0, qI 0, qN, qN] :: ((([qAr 0 400 (fun _ => 0)] ++ [qAr 0 401 (fun _ => 0)]) ++ [qAr 0 401 (fun _ => 0)]) ++ [qAr 0 401 (fun _ => 0)]))) none _
  refine z_aload_n d_X4_init_55 rfl rfl ?_
  refine z_iconst d_X4_init_56 (by decide) ?_
  refine z_putf (fs' := [qR (h.1 + 1), qI 0, qR (h.1 + 2), qR (h.1 + 3), qR (h.1 + 4), qI 0, qI 0, qI 0, qI 0, qN, qN]) d_X4_init_57 fp_X4_34 qap_hd (fun _ => rfl) (fun _ => rfl) (Nat.le_of_ble_eq_true rfl) rfl ?_
  refine z_eq rfl rfl qap_sh ?_
  show qEx M_X4_init 60 [qR h.1] [] (qap h 1614 (qOb 4 [qR (h.1 + 1), qI 0, qR (h.1 + 2), qR (h.1 + 3), qR (h.1 + 4), qI 0, qI 0, qI 0, qI 0, qN, qN] :: ((([qAr 0 400 (fun _ => 0)] ++ [qAr 0 401 (fun _ => 0)]) ++ [qAr 0 401 (fun _ => 0)]) ++ [qAr 0 401 (fun _ => 0)]))) none _
  refine z_aload_n d_X4_init_60 rfl rfl ?_
  refine z_iconst d_X4_init_61 (by decide) ?_
  refine z_putf (fs' := [qR (h.1 + 1), qI 0, qR (h.1 + 2), qR (h.1 + 3), qR (h.1 + 4), qI 0, qI 0, qI 0, qI (-1), qN, qN]) d_X4_init_62 fp_X4_37 qap_hd (fun _ => rfl) (fun _ => rfl) (Nat.le_of_ble_eq_true rfl) rfl ?_
  refine z_eq rfl rfl qap_sh ?_
  show qEx M_X4_init 65 [qR h.1] [] (qap h 1614 (qOb 4 [qR (h.1 + 1), qI 0, qR (h.1 + 2), qR (h.1 + 3), qR (h.1 + 4), qI 0, qI 0, qI 0, qI (-1), qN, qN] :: ((([qAr 0 400 (fun _ => 0)] ++ [qAr 0 401 (fun _ => 0)]) ++ [qAr 0 401 (fun _ => 0)]) ++ [qAr 0 401 (fun _ => 0)]))) none _
  refine z_aload_n d_X4_init_65 rfl rfl ?_
  refine z_new d_X4_init_66 nw_X4_40 ?_
  refine z_eq rfl (qc (congrArg qR (show _ = (h.1 + 5) from (qap_ln (by simp only [List.length_append, List.length_cons, List.length_nil, l_gPg, l_gFb, l_gRw16, l_gRw150, l_gRw8, l_gRu, l_gWl, l_gBk, l_gPa])))) rfl) qap_one ?_
  show qEx M_X4_init 69 [qR h.1] [qR (h.1 + 5), qR h.1] (qap (qap h 1614 (qOb 4 [qR (h.1 + 1), qI 0, qR (h.1 + 2), qR (h.1 + 3), qR (h.1 + 4), qI 0, qI 0, qI 0, qI (-1), qN, qN] :: ((([qAr 0 400 (fun _ => 0)] ++ [qAr 0 401 (fun _ => 0)]) ++ [qAr 0 401 (fun _ => 0)]) ++ [qAr 0 401 (fun _ => 0)]))) 5 [qOb 2 [qN, qN, qN, qN, qI 0]]) none _
  refine z_dup d_X4_init_69 rfl ?_
  refine z_callI (M1 := M_X2_init) d_X4_init_70 li_X4_42 k_X2_init rfl [] rfl rfl (Nat.le_of_ble_eq_true rfl) (by decide) (by decide) (Nat.le_of_ble_eq_true rfl) (i_gPg (h := (qap h 1614 (qOb 4 [qR (h.1 + 1), qI 0, qR (h.1 + 2), qR (h.1 + 3), qR (h.1 + 4), qI 0, qI 0, qI 0, qI (-1), qN, qN] :: ((([qAr 0 400 (fun _ => 0)] ++ [qAr 0 401 (fun _ => 0)]) ++ [qAr 0 401 (fun _ => 0)]) ++ [qAr 0 401 (fun _ => 0)])))) (n := (h.1 + 5)) (qap_ln (by simp only [List.length_append, List.length_cons, List.length_nil, l_gPg, l_gFb, l_gRw16, l_gRw150, l_gRw8, l_gRu, l_gWl, l_gBk, l_gPa])) (Nat.le_trans h2 (Nat.le_add_right _ _))) ?_
  refine z_eq rfl rfl qap_apc ?_
  show qEx M_X4_init 73 [qR h.1] [qR (h.1 + 5), qR h.1] (qap h 1670 (qOb 4 [qR (h.1 + 1), qI 0, qR (h.1 + 2), qR (h.1 + 3), qR (h.1 + 4), qI 0, qI 0, qI 0, qI (-1), qN, qN] :: (((([qAr 0 400 (fun _ => 0)] ++ [qAr 0 401 (fun _ => 0)]) ++ [qAr 0 401 (fun _ => 0)]) ++ [qAr 0 401 (fun _ => 0)]) ++ gPg (h.1 + 5)))) none _
  refine z_putF (fs' := [qR (h.1 + 1), qI 0, qR (h.1 + 2), qR (h.1 + 3), qR (h.1 + 4), qI 0, qI 0, qI 0, qI (-1), qR (h.1 + 5), qN]) d_X4_init_73 fp_X4_43 rfl qap_hd (fun _ => rfl) (fun _ => rfl) (Nat.le_of_ble_eq_true rfl) rfl ?_
  refine z_eq rfl rfl qap_sh ?_
  show qEx M_X4_init 76 [qR h.1] [] (qap h 1670 (qOb 4 [qR (h.1 + 1), qI 0, qR (h.1 + 2), qR (h.1 + 3), qR (h.1 + 4), qI 0, qI 0, qI 0, qI (-1), qR (h.1 + 5), qN] :: (((([qAr 0 400 (fun _ => 0)] ++ [qAr 0 401 (fun _ => 0)]) ++ [qAr 0 401 (fun _ => 0)]) ++ [qAr 0 401 (fun _ => 0)]) ++ gPg (h.1 + 5)))) none _
  refine z_aload_n d_X4_init_76 rfl rfl ?_
  refine z_new d_X4_init_77 nw_X4_47 ?_
  refine z_eq rfl (qc (congrArg qR (show _ = (h.1 + 10) from (qap_ln (by simp only [List.length_append, List.length_cons, List.length_nil, l_gPg, l_gFb, l_gRw16, l_gRw150, l_gRw8, l_gRu, l_gWl, l_gBk, l_gPa])))) rfl) qap_one ?_
  show qEx M_X4_init 80 [qR h.1] [qR (h.1 + 10), qR h.1] (qap (qap h 1670 (qOb 4 [qR (h.1 + 1), qI 0, qR (h.1 + 2), qR (h.1 + 3), qR (h.1 + 4), qI 0, qI 0, qI 0, qI (-1), qR (h.1 + 5), qN] :: (((([qAr 0 400 (fun _ => 0)] ++ [qAr 0 401 (fun _ => 0)]) ++ [qAr 0 401 (fun _ => 0)]) ++ [qAr 0 401 (fun _ => 0)]) ++ gPg (h.1 + 5)))) 3 [qOb 6 [qN, qI 0, qI 0]]) none _
  refine z_dup d_X4_init_80 rfl ?_
  refine z_bipush d_X4_init_81 (by decide) ?_
  refine z_callI (M1 := M_X6_init) d_X4_init_83 li_X4_49 k_X6_init rfl [qI 16] rfl rfl (Nat.le_of_ble_eq_true rfl) (by decide) (by decide) (Nat.le_of_ble_eq_true rfl) (i_gRw16 (h := (qap h 1670 (qOb 4 [qR (h.1 + 1), qI 0, qR (h.1 + 2), qR (h.1 + 3), qR (h.1 + 4), qI 0, qI 0, qI 0, qI (-1), qR (h.1 + 5), qN] :: (((([qAr 0 400 (fun _ => 0)] ++ [qAr 0 401 (fun _ => 0)]) ++ [qAr 0 401 (fun _ => 0)]) ++ [qAr 0 401 (fun _ => 0)]) ++ gPg (h.1 + 5))))) (n := (h.1 + 10)) (qap_ln (by simp only [List.length_append, List.length_cons, List.length_nil, l_gPg, l_gFb, l_gRw16, l_gRw150, l_gRw8, l_gRu, l_gWl, l_gBk, l_gPa])) (Nat.le_trans h2 (Nat.le_add_right _ _))) ?_
  refine z_eq rfl rfl qap_apc ?_
  show qEx M_X4_init 86 [qR h.1] [qR (h.1 + 10), qR h.1] (qap h 1737 (qOb 4 [qR (h.1 + 1), qI 0, qR (h.1 + 2), qR (h.1 + 3), qR (h.1 + 4), qI 0, qI 0, qI 0, qI (-1), qR (h.1 + 5), qN] :: ((((([qAr 0 400 (fun _ => 0)] ++ [qAr 0 401 (fun _ => 0)]) ++ [qAr 0 401 (fun _ => 0)]) ++ [qAr 0 401 (fun _ => 0)]) ++ gPg (h.1 + 5)) ++ gRw16 (h.1 + 10)))) none _
  refine z_putF (fs' := [qR (h.1 + 1), qI 0, qR (h.1 + 2), qR (h.1 + 3), qR (h.1 + 4), qI 0, qI 0, qI 0, qI (-1), qR (h.1 + 5), qR (h.1 + 10)]) d_X4_init_86 fp_X4_52 rfl qap_hd (fun _ => rfl) (fun _ => rfl) (Nat.le_of_ble_eq_true rfl) rfl ?_
  refine z_eq rfl rfl qap_sh ?_
  show qEx M_X4_init 89 [qR h.1] [] (qap h 1737 (qOb 4 [qR (h.1 + 1), qI 0, qR (h.1 + 2), qR (h.1 + 3), qR (h.1 + 4), qI 0, qI 0, qI 0, qI (-1), qR (h.1 + 5), qR (h.1 + 10)] :: ((((([qAr 0 400 (fun _ => 0)] ++ [qAr 0 401 (fun _ => 0)]) ++ [qAr 0 401 (fun _ => 0)]) ++ [qAr 0 401 (fun _ => 0)]) ++ gPg (h.1 + 5)) ++ gRw16 (h.1 + 10)))) none _
  exact z_vret d_X4_init_89 rfl rfl rfl
theorem l_gRd {n : Nat} : (gRd n).length = 12 := by simp only [gRd, List.length_append, List.length_cons, List.length_nil, l_gPg, l_gFb, l_gRw16, l_gRw150, l_gRw8, l_gRu, l_gWl, l_gBk, l_gPa]
def gRo (n : Nat) : List qC := (qOb 5 [qR (n + 1), qR (n + 6), qR (n + 7), qR (n + 8), qR (n + 9), qI (-1), qI (-1)] :: (((((gWl (n + 1)) ++ [qAr 1 2002 (fun _ => 0)]) ++ [qAr 1 2002 (fun _ => 0)]) ++ [qAr 0 1024 (fun _ => 0)]) ++ [qAr 0 2001 (fun _ => 0)]))
theorem i_gRo {h : qH} {n : Nat} (hn : h.1 = n) (h2 : 2 ≤ h.1) : qEx M_X5_init 0 [qR n] [] (qap h 7 (qOb 5 [qN, qN, qN, qN, qN, qI 0, qI 0] :: [])) none (qap h 7176 (gRo n)) := by
  subst hn
  show qEx _ _ _ _ _ _ (qap h 7176 (qOb 5 [qR (h.1 + 1), qR (h.1 + 6), qR (h.1 + 7), qR (h.1 + 8), qR (h.1 + 9), qI (-1), qI (-1)] :: (((((gWl (h.1 + 1)) ++ [qAr 1 2002 (fun _ => 0)]) ++ [qAr 1 2002 (fun _ => 0)]) ++ [qAr 0 1024 (fun _ => 0)]) ++ [qAr 0 2001 (fun _ => 0)])))
  refine z_aload_n d_X5_init_0 rfl rfl ?_
  refine z_objinit d_X5_init_1 lo_X5_3 lo_i lo_c (by decide) (Nat.le_of_ble_eq_true rfl) ?_
  refine z_aload_n d_X5_init_4 rfl rfl ?_
  refine z_new d_X5_init_5 nw_X5_9 ?_
  refine z_eq rfl (qc (congrArg qR (show _ = (h.1 + 1) from (qap_ln (by simp only [List.length_append, List.length_cons, List.length_nil, l_gPg, l_gFb, l_gRw16, l_gRw150, l_gRw8, l_gRu, l_gWl, l_gBk, l_gPa, l_gRd])))) rfl) qap_one ?_
  show qEx M_X5_init 8 [qR h.1] [qR (h.1 + 1), qR h.1] (qap (qap h 7 (qOb 5 [qN, qN, qN, qN, qN, qI 0, qI 0] :: [])) 12 [qOb 10 [qI 0, qI 0, qN, qN, qN, qN, qI 0, qI 0, qI 0, qI 0, qI 0, qI 0]]) none _
  refine z_dup d_X5_init_8 rfl ?_
  refine z_callI (M1 := M_X10_init) d_X5_init_9 li_X5_11 k_X10_init rfl [] rfl rfl (Nat.le_of_ble_eq_true rfl) (by decide) (by decide) (Nat.le_of_ble_eq_true rfl) (i_gWl (h := (qap h 7 (qOb 5 [qN, qN, qN, qN, qN, qI 0, qI 0] :: []))) (n := (h.1 + 1)) (qap_ln (by simp only [List.length_append, List.length_cons, List.length_nil, l_gPg, l_gFb, l_gRw16, l_gRw150, l_gRw8, l_gRu, l_gWl, l_gBk, l_gPa, l_gRd])) (Nat.le_trans h2 (Nat.le_add_right _ _))) ?_
  refine z_eq rfl rfl qap_apc ?_
  show qEx M_X5_init 12 [qR h.1] [qR (h.1 + 1), qR h.1] (qap h 147 (qOb 5 [qN, qN, qN, qN, qN, qI 0, qI 0] :: (gWl (h.1 + 1)))) none _
  refine z_putF (fs' := [qR (h.1 + 1), qN, qN, qN, qN, qI 0, qI 0]) d_X5_init_12 fp_X5_12 rfl qap_hd (fun _ => rfl) (fun _ => rfl) (Nat.le_of_ble_eq_true rfl) rfl ?_
  refine z_eq rfl rfl qap_sh ?_
  show qEx M_X5_init 15 [qR h.1] [] (qap h 147 (qOb 5 [qR (h.1 + 1), qN, qN, qN, qN, qI 0, qI 0] :: (gWl (h.1 + 1)))) none _
  refine z_aload_n d_X5_init_15 rfl rfl ?_
  refine z_sipush d_X5_init_16 (by decide) ?_
  refine z_newJ d_X5_init_19 ac_long (by decide) (by decide) ?_
  refine z_eq rfl (qc (congrArg qR (show _ = (h.1 + 6) from (qap_ln (by simp only [List.length_append, List.length_cons, List.length_nil, l_gPg, l_gFb, l_gRw16, l_gRw150, l_gRw8, l_gRu, l_gWl, l_gBk, l_gPa, l_gRd])))) rfl) qap_nwc ?_
  show qEx M_X5_init 21 [qR h.1] [qR (h.1 + 6), qR h.1] (qap h 2149 (qOb 5 [qR (h.1 + 1), qN, qN, qN, qN, qI 0, qI 0] :: ((gWl (h.1 + 1)) ++ [qAr 1 2002 (fun _ => 0)]))) none _
  refine z_putF (fs' := [qR (h.1 + 1), qR (h.1 + 6), qN, qN, qN, qI 0, qI 0]) d_X5_init_21 fp_X5_18 rfl qap_hd (fun _ => rfl) (fun _ => rfl) (Nat.le_of_ble_eq_true rfl) rfl ?_
  refine z_eq rfl rfl qap_sh ?_
  show qEx M_X5_init 24 [qR h.1] [] (qap h 2149 (qOb 5 [qR (h.1 + 1), qR (h.1 + 6), qN, qN, qN, qI 0, qI 0] :: ((gWl (h.1 + 1)) ++ [qAr 1 2002 (fun _ => 0)]))) none _
  refine z_aload_n d_X5_init_24 rfl rfl ?_
  refine z_sipush d_X5_init_25 (by decide) ?_
  refine z_newJ d_X5_init_28 ac_long (by decide) (by decide) ?_
  refine z_eq rfl (qc (congrArg qR (show _ = (h.1 + 7) from (qap_ln (by simp only [List.length_append, List.length_cons, List.length_nil, l_gPg, l_gFb, l_gRw16, l_gRw150, l_gRw8, l_gRu, l_gWl, l_gBk, l_gPa, l_gRd])))) rfl) qap_nwc ?_
  show qEx M_X5_init 30 [qR h.1] [qR (h.1 + 7), qR h.1] (qap h 4151 (qOb 5 [qR (h.1 + 1), qR (h.1 + 6), qN, qN, qN, qI 0, qI 0] :: (((gWl (h.1 + 1)) ++ [qAr 1 2002 (fun _ => 0)]) ++ [qAr 1 2002 (fun _ => 0)]))) none _
  refine z_putF (fs' := [qR (h.1 + 1), qR (h.1 + 6), qR (h.1 + 7), qN, qN, qI 0, qI 0]) d_X5_init_30 fp_X5_22 rfl qap_hd (fun _ => rfl) (fun _ => rfl) (Nat.le_of_ble_eq_true rfl) rfl ?_
  refine z_eq rfl rfl qap_sh ?_
  show qEx M_X5_init 33 [qR h.1] [] (qap h 4151 (qOb 5 [qR (h.1 + 1), qR (h.1 + 6), qR (h.1 + 7), qN, qN, qI 0, qI 0] :: (((gWl (h.1 + 1)) ++ [qAr 1 2002 (fun _ => 0)]) ++ [qAr 1 2002 (fun _ => 0)]))) none _
  refine z_aload_n d_X5_init_33 rfl rfl ?_
  refine z_sipush d_X5_init_34 (by decide) ?_
  refine z_newI d_X5_init_37 ac_int (by decide) (by decide) ?_
  refine z_eq rfl (qc (congrArg qR (show _ = (h.1 + 8) from (qap_ln (by simp only [List.length_append, List.length_cons, List.length_nil, l_gPg, l_gFb, l_gRw16, l_gRw150, l_gRw8, l_gRu, l_gWl, l_gBk, l_gPa, l_gRd])))) rfl) qap_nwc ?_
  show qEx M_X5_init 39 [qR h.1] [qR (h.1 + 8), qR h.1] (qap h 5175 (qOb 5 [qR (h.1 + 1), qR (h.1 + 6), qR (h.1 + 7), qN, qN, qI 0, qI 0] :: ((((gWl (h.1 + 1)) ++ [qAr 1 2002 (fun _ => 0)]) ++ [qAr 1 2002 (fun _ => 0)]) ++ [qAr 0 1024 (fun _ => 0)]))) none _
  refine z_putF (fs' := [qR (h.1 + 1), qR (h.1 + 6), qR (h.1 + 7), qR (h.1 + 8), qN, qI 0, qI 0]) d_X5_init_39 fp_X5_25 rfl qap_hd (fun _ => rfl) (fun _ => rfl) (Nat.le_of_ble_eq_true rfl) rfl ?_
  refine z_eq rfl rfl qap_sh ?_
  show qEx M_X5_init 42 [qR h.1] [] (qap h 5175 (qOb 5 [qR (h.1 + 1), qR (h.1 + 6), qR (h.1 + 7), qR (h.1 + 8), qN, qI 0, qI 0] :: ((((gWl (h.1 + 1)) ++ [qAr 1 2002 (fun _ => 0)]) ++ [qAr 1 2002 (fun _ => 0)]) ++ [qAr 0 1024 (fun _ => 0)]))) none _
  refine z_aload_n d_X5_init_42 rfl rfl ?_
  refine z_sipush d_X5_init_43 (by decide) ?_
  refine z_newI d_X5_init_46 ac_int (by decide) (by decide) ?_
  refine z_eq rfl (qc (congrArg qR (show _ = (h.1 + 9) from (qap_ln (by simp only [List.length_append, List.length_cons, List.length_nil, l_gPg, l_gFb, l_gRw16, l_gRw150, l_gRw8, l_gRu, l_gWl, l_gBk, l_gPa, l_gRd])))) rfl) qap_nwc ?_
  show qEx M_X5_init 48 [qR h.1] [qR (h.1 + 9), qR h.1] (qap h 7176 (qOb 5 [qR (h.1 + 1), qR (h.1 + 6), qR (h.1 + 7), qR (h.1 + 8), qN, qI 0, qI 0] :: (((((gWl (h.1 + 1)) ++ [qAr 1 2002 (fun _ => 0)]) ++ [qAr 1 2002 (fun _ => 0)]) ++ [qAr 0 1024 (fun _ => 0)]) ++ [qAr 0 2001 (fun _ => 0)]))) none _
  refine z_putF (fs' := [qR (h.1 + 1), qR (h.1 + 6), qR (h.1 + 7), qR (h.1 + 8), qR (h.1 + 9), qI 0, qI 0]) d_X5_init_48 fp_X5_29 rfl qap_hd (fun _ => rfl) (fun _ => rfl) (Nat.le_of_ble_eq_true rfl) rfl ?_
  refine z_eq rfl rfl qap_sh ?_
  show qEx M_X5_init 51 [qR h.1] [] (qap h 7176 (qOb 5 [qR (h.1 + 1), qR (h.1 + 6), qR (h.1 + 7), qR (h.1 + 8), qR (h.1 + 9), qI 0, qI 0] :: (((((gWl (h.1 + 1)) ++ [qAr 1 2002 (fun _ => 0)]) ++ [qAr 1 2002 (fun _ => 0)]) ++ [qAr 0 1024 (fun _ => 0)]) ++ [qAr 0 2001 (fun _ => 0)]))) none _
  refine z_aload_n d_X5_init_51 rfl rfl ?_
  refine z_iconst d_X5_init_52 (by decide) ?_
  refine z_putf (fs' := [qR (h.1 + 1), qR (h.1 + 6), qR (h.1 + 7), qR (h.1 + 8), qR (h.1 + 9), qI (-1), qI 0]) d_X5_init_53 fp_X5_32 qap_hd (fun _ => rfl) (fun _ => rfl) (Nat.le_of_ble_eq_true rfl) rfl ?_
  refine z_eq rfl rfl qap_sh ?_
  show qEx M_X5_init 56 [qR h.1] [] (qap h 7176 (qOb 5 [qR (h.1 + 1), qR (h.1 + 6), qR (h.1 + 7), qR (h.1 + 8), qR (h.1 + 9), qI (-1), qI 0] :: (((((gWl (h.1 + 1)) ++ [qAr 1 2002 (fun _ => 0)]) ++ [qAr 1 2002 (fun _ => 0)]) ++ [qAr 0 1024 (fun _ => 0)]) ++ [qAr 0 2001 (fun _ => 0)]))) none _
  refine z_aload_n d_X5_init_56 rfl rfl ?_
  refine z_iconst d_X5_init_57 (by decide) ?_
  refine z_putf (fs' := [qR (h.1 + 1), qR (h.1 + 6), qR (h.1 + 7), qR (h.1 + 8), qR (h.1 + 9), qI (-1), qI (-1)]) d_X5_init_58 fp_X5_36 qap_hd (fun _ => rfl) (fun _ => rfl) (Nat.le_of_ble_eq_true rfl) rfl ?_
  refine z_eq rfl rfl qap_sh ?_
  show qEx M_X5_init 61 [qR h.1] [] (qap h 7176 (qOb 5 [qR (h.1 + 1), qR (h.1 + 6), qR (h.1 + 7), qR (h.1 + 8), qR (h.1 + 9), qI (-1), qI (-1)] :: (((((gWl (h.1 + 1)) ++ [qAr 1 2002 (fun _ => 0)]) ++ [qAr 1 2002 (fun _ => 0)]) ++ [qAr 0 1024 (fun _ => 0)]) ++ [qAr 0 2001 (fun _ => 0)]))) none _
  exact z_vret d_X5_init_61 rfl rfl rfl
theorem l_gRo {n : Nat} : (gRo n).length = 10 := by simp only [gRo, List.length_append, List.length_cons, List.length_nil, l_gPg, l_gFb, l_gRw16, l_gRw150, l_gRw8, l_gRu, l_gWl, l_gBk, l_gPa, l_gRd]
def gSt (n : Nat) : List qC := (qOb 8 [qR (n + 1), qR (n + 25), qR (n + 49), qR (n + 51), qR (n + 53), qR (n + 58), qR (n + 60)] :: (((((((gBk (n + 1)) ++ gBk (n + 25)) ++ gRw16 (n + 49)) ++ gRw16 (n + 51)) ++ gWl (n + 53)) ++ gRw150 (n + 58)) ++ gRw8 (n + 60)))
theorem i_gSt {h : qH} {n : Nat} (hn : h.1 = n) (h2 : 2 ≤ h.1) : qEx M_X8_init 0 [qR n] [] (qap h 7 (qOb 8 [qN, qN, qN, qN, qN, qN, qN] :: [])) none (qap h 3973 (gSt n)) := by
  subst hn
  show qEx _ _ _ _ _ _ (qap h 3973 (qOb 8 [qR (h.1 + 1), qR (h.1 + 25), qR (h.1 + 49), qR (h.1 + 51), qR (h.1 + 53), qR (h.1 + 58), qR (h.1 + 60)] :: (((((((gBk (h.1 + 1)) ++ gBk (h.1 + 25)) ++ gRw16 (h.1 + 49)) ++ gRw16 (h.1 + 51)) ++ gWl (h.1 + 53)) ++ gRw150 (h.1 + 58)) ++ gRw8 (h.1 + 60))))
  refine z_aload_n d_X8_init_0 rfl rfl ?_
  refine z_objinit d_X8_init_1 lo_X8_3 lo_i lo_c (by decide) (Nat.le_of_ble_eq_true rfl) ?_
  refine z_aload_n d_X8_init_4 rfl rfl ?_
  refine z_new d_X8_init_5 nw_X8_9 ?_
  refine z_eq rfl (qc (congrArg qR (show _ = (h.1 + 1) from (qap_ln (by simp only [List.length_append, List.length_cons, List.length_nil, l_gPg, l_gFb, l_gRw16, l_gRw150, l_gRw8, l_gRu, l_gWl, l_gBk, l_gPa, l_gRd, l_gRo])))) rfl) qap_one ?_
  show qEx M_X8_init 8 [qR h.1] [qR (h.1 + 1), qR h.1] (qap (qap h 7 (qOb 8 [qN, qN, qN, qN, qN, qN, qN] :: [])) 3 [qOb 0 [qN, qN, qN]]) none _
  refine z_dup d_X8_init_8 rfl ?_
  refine z_callI (M1 := M_X0_init) d_X8_init_9 li_X8_11 k_X0_init rfl [] rfl rfl (Nat.le_of_ble_eq_true rfl) (by decide) (by decide) (Nat.le_of_ble_eq_true rfl) (i_gBk (h := (qap h 7 (qOb 8 [qN, qN, qN, qN, qN, qN, qN] :: []))) (n := (h.1 + 1)) (qap_ln (by simp only [List.length_append, List.length_cons, List.length_nil, l_gPg, l_gFb, l_gRw16, l_gRw150, l_gRw8, l_gRu, l_gWl, l_gBk, l_gPa, l_gRd, l_gRo])) (Nat.le_trans h2 (Nat.le_add_right _ _))) ?_
  refine z_eq rfl rfl qap_apc ?_
  show qEx M_X8_init 12 [qR h.1] [qR (h.1 + 1), qR h.1] (qap h 1534 (qOb 8 [qN, qN, qN, qN, qN, qN, qN] :: (gBk (h.1 + 1)))) none _
  refine z_putF (fs' := [qR (h.1 + 1), qN, qN, qN, qN, qN, qN]) d_X8_init_12 fp_X8_12 rfl qap_hd (fun _ => rfl) (fun _ => rfl) (Nat.le_of_ble_eq_true rfl) rfl ?_
  refine z_eq rfl rfl qap_sh ?_
  show qEx M_X8_init 15 [qR h.1] [] (qap h 1534 (qOb 8 [qR (h.1 + 1), qN, qN, qN, qN, qN, qN] :: (gBk (h.1 + 1)))) none _
  refine z_aload_n d_X8_init_15 rfl rfl ?_
  refine z_new d_X8_init_16 nw_X8_9 ?_
  refine z_eq rfl (qc (congrArg qR (show _ = (h.1 + 25) from (qap_ln (by simp only [List.length_append, List.length_cons, List.length_nil, l_gPg, l_gFb, l_gRw16, l_gRw150, l_gRw8, l_gRu, l_gWl, l_gBk, l_gPa, l_gRd, l_gRo])))) rfl) qap_one ?_
  show qEx M_X8_init 19 [qR h.1] [qR (h.1 + 25), qR h.1] (qap (qap h 1534 (qOb 8 [qR (h.1 + 1), qN, qN, qN, qN, qN, qN] :: (gBk (h.1 + 1)))) 3 [qOb 0 [qN, qN, qN]]) none _
  refine z_dup d_X8_init_19 rfl ?_
  refine z_callI (M1 := M_X0_init) d_X8_init_20 li_X8_11 k_X0_init rfl [] rfl rfl (Nat.le_of_ble_eq_true rfl) (by decide) (by decide) (Nat.le_of_ble_eq_true rfl) (i_gBk (h := (qap h 1534 (qOb 8 [qR (h.1 + 1), qN, qN, qN, qN, qN, qN] :: (gBk (h.1 + 1))))) (n := (h.1 + 25)) (qap_ln (by simp only [List.length_append, List.length_cons, List.length_nil, l_gPg, l_gFb, l_gRw16, l_gRw150, l_gRw8, l_gRu, l_gWl, l_gBk, l_gPa, l_gRd, l_gRo])) (Nat.le_trans h2 (Nat.le_add_right _ _))) ?_
  refine z_eq rfl rfl qap_apc ?_
  show qEx M_X8_init 23 [qR h.1] [qR (h.1 + 25), qR h.1] (qap h 3061 (qOb 8 [qR (h.1 + 1), qN, qN, qN, qN, qN, qN] :: ((gBk (h.1 + 1)) ++ gBk (h.1 + 25)))) none _
  refine z_putF (fs' := [qR (h.1 + 1), qR (h.1 + 25), qN, qN, qN, qN, qN]) d_X8_init_23 fp_X8_18 rfl qap_hd (fun _ => rfl) (fun _ => rfl) (Nat.le_of_ble_eq_true rfl) rfl ?_
  refine z_eq rfl rfl qap_sh ?_
  show qEx M_X8_init 26 [qR h.1] [] (qap h 3061 (qOb 8 [qR (h.1 + 1), qR (h.1 + 25), qN, qN, qN, qN, qN] :: ((gBk (h.1 + 1)) ++ gBk (h.1 + 25)))) none _
  refine z_aload_n d_X8_init_26 rfl rfl ?_
  refine z_new d_X8_init_27 nw_X8_21 ?_
  refine z_eq rfl (qc (congrArg qR (show _ = (h.1 + 49) from (qap_ln (by simp only [List.length_append, List.length_cons, List.length_nil, l_gPg, l_gFb, l_gRw16, l_gRw150, l_gRw8, l_gRu, l_gWl, l_gBk, l_gPa, l_gRd, l_gRo])))) rfl) qap_one ?_
  show qEx M_X8_init 30 [qR h.1] [qR (h.1 + 49), qR h.1] (qap (qap h 3061 (qOb 8 [qR (h.1 + 1), qR (h.1 + 25), qN, qN, qN, qN, qN] :: ((gBk (h.1 + 1)) ++ gBk (h.1 + 25)))) 3 [qOb 6 [qN, qI 0, qI 0]]) none _
  refine z_dup d_X8_init_30 rfl ?_
  refine z_bipush d_X8_init_31 (by decide) ?_
  refine z_callI (M1 := M_X6_init) d_X8_init_33 li_X8_23 k_X6_init rfl [qI 16] rfl rfl (Nat.le_of_ble_eq_true rfl) (by decide) (by decide) (Nat.le_of_ble_eq_true rfl) (i_gRw16 (h := (qap h 3061 (qOb 8 [qR (h.1 + 1), qR (h.1 + 25), qN, qN, qN, qN, qN] :: ((gBk (h.1 + 1)) ++ gBk (h.1 + 25))))) (n := (h.1 + 49)) (qap_ln (by simp only [List.length_append, List.length_cons, List.length_nil, l_gPg, l_gFb, l_gRw16, l_gRw150, l_gRw8, l_gRu, l_gWl, l_gBk, l_gPa, l_gRd, l_gRo])) (Nat.le_trans h2 (Nat.le_add_right _ _))) ?_
  refine z_eq rfl rfl qap_apc ?_
  show qEx M_X8_init 36 [qR h.1] [qR (h.1 + 49), qR h.1] (qap h 3128 (qOb 8 [qR (h.1 + 1), qR (h.1 + 25), qN, qN, qN, qN, qN] :: (((gBk (h.1 + 1)) ++ gBk (h.1 + 25)) ++ gRw16 (h.1 + 49)))) none _
  refine z_putF (fs' := [qR (h.1 + 1), qR (h.1 + 25), qR (h.1 + 49), qN, qN, qN, qN]) d_X8_init_36 fp_X8_26 rfl qap_hd (fun _ => rfl) (fun _ => rfl) (Nat.le_of_ble_eq_true rfl) rfl ?_
  refine z_eq rfl rfl qap_sh ?_
  show qEx M_X8_init 39 [qR h.1] [] (qap h 3128 (qOb 8 [qR (h.1 + 1), qR (h.1 + 25), qR (h.1 + 49), qN, qN, qN, qN] :: (((gBk (h.1 + 1)) ++ gBk (h.1 + 25)) ++ gRw16 (h.1 + 49)))) none _
  refine z_aload_n d_X8_init_39 rfl rfl ?_
  refine z_new d_X8_init_40 nw_X8_21 ?_
  refine z_eq rfl (qc (congrArg qR (show _ = (h.1 + 51) from (qap_ln (by simp only [List.length_append, List.length_cons, List.length_nil, l_gPg, l_gFb, l_gRw16, l_gRw150, l_gRw8, l_gRu, l_gWl, l_gBk, l_gPa, l_gRd, l_gRo])))) rfl) qap_one ?_
  show qEx M_X8_init 43 [qR h.1] [qR (h.1 + 51), qR h.1] (qap (qap h 3128 (qOb 8 [qR (h.1 + 1), qR (h.1 + 25), qR (h.1 + 49), qN, qN, qN, qN] :: (((gBk (h.1 + 1)) ++ gBk (h.1 + 25)) ++ gRw16 (h.1 + 49)))) 3 [qOb 6 [qN, qI 0, qI 0]]) none _
  refine z_dup d_X8_init_43 rfl ?_
  refine z_bipush d_X8_init_44 (by decide) ?_
  refine z_callI (M1 := M_X6_init) d_X8_init_46 li_X8_23 k_X6_init rfl [qI 16] rfl rfl (Nat.le_of_ble_eq_true rfl) (by decide) (by decide) (Nat.le_of_ble_eq_true rfl) (i_gRw16 (h := (qap h 3128 (qOb 8 [qR (h.1 + 1), qR (h.1 + 25), qR (h.1 + 49), qN, qN, qN, qN] :: (((gBk (h.1 + 1)) ++ gBk (h.1 + 25)) ++ gRw16 (h.1 + 49))))) (n := (h.1 + 51)) (qap_ln (by simp only [List.length_append, List.length_cons, List.length_nil, l_gPg, l_gFb, l_gRw16, l_gRw150, l_gRw8, l_gRu, l_gWl, l_gBk, l_gPa, l_gRd, l_gRo])) (Nat.le_trans h2 (Nat.le_add_right _ _))) ?_
  refine z_eq rfl rfl qap_apc ?_
  show qEx M_X8_init 49 [qR h.1] [qR (h.1 + 51), qR h.1] (qap h 3195 (qOb 8 [qR (h.1 + 1), qR (h.1 + 25), qR (h.1 + 49), qN, qN, qN, qN] :: ((((gBk (h.1 + 1)) ++ gBk (h.1 + 25)) ++ gRw16 (h.1 + 49)) ++ gRw16 (h.1 + 51)))) none _
  refine z_putF (fs' := [qR (h.1 + 1), qR (h.1 + 25), qR (h.1 + 49), qR (h.1 + 51), qN, qN, qN]) d_X8_init_49 fp_X8_30 rfl qap_hd (fun _ => rfl) (fun _ => rfl) (Nat.le_of_ble_eq_true rfl) rfl ?_
  refine z_eq rfl rfl qap_sh ?_
  show qEx M_X8_init 52 [qR h.1] [] (qap h 3195 (qOb 8 [qR (h.1 + 1), qR (h.1 + 25), qR (h.1 + 49), qR (h.1 + 51), qN, qN, qN] :: ((((gBk (h.1 + 1)) ++ gBk (h.1 + 25)) ++ gRw16 (h.1 + 49)) ++ gRw16 (h.1 + 51)))) none _
  refine z_aload_n d_X8_init_52 rfl rfl ?_
  refine z_new d_X8_init_53 nw_X8_33 ?_
  refine z_eq rfl (qc (congrArg qR (show _ = (h.1 + 53) from (qap_ln (by simp only [List.length_append, List.length_cons, List.length_nil, l_gPg, l_gFb, l_gRw16, l_gRw150, l_gRw8, l_gRu, l_gWl, l_gBk, l_gPa, l_gRd, l_gRo])))) rfl) qap_one ?_
  show qEx M_X8_init 56 [qR h.1] [qR (h.1 + 53), qR h.1] (qap (qap h 3195 (qOb 8 [qR (h.1 + 1), qR (h.1 + 25), qR (h.1 + 49), qR (h.1 + 51), qN, qN, qN] :: ((((gBk (h.1 + 1)) ++ gBk (h.1 + 25)) ++ gRw16 (h.1 + 49)) ++ gRw16 (h.1 + 51)))) 12 [qOb 10 [qI 0, qI 0, qN, qN, qN, qN, qI 0, qI 0, qI 0, qI 0, qI 0, qI 0]]) none _
  refine z_dup d_X8_init_56 rfl ?_
  refine z_callI (M1 := M_X10_init) d_X8_init_57 li_X8_35 k_X10_init rfl [] rfl rfl (Nat.le_of_ble_eq_true rfl) (by decide) (by decide) (Nat.le_of_ble_eq_true rfl) (i_gWl (h := (qap h 3195 (qOb 8 [qR (h.1 + 1), qR (h.1 + 25), qR (h.1 + 49), qR (h.1 + 51), qN, qN, qN] :: ((((gBk (h.1 + 1)) ++ gBk (h.1 + 25)) ++ gRw16 (h.1 + 49)) ++ gRw16 (h.1 + 51))))) (n := (h.1 + 53)) (qap_ln (by simp only [List.length_append, List.length_cons, List.length_nil, l_gPg, l_gFb, l_gRw16, l_gRw150, l_gRw8, l_gRu, l_gWl, l_gBk, l_gPa, l_gRd, l_gRo])) (Nat.le_trans h2 (Nat.le_add_right _ _))) ?_
  refine z_eq rfl rfl qap_apc ?_
  show qEx M_X8_init 60 [qR h.1] [qR (h.1 + 53), qR h.1] (qap h 3335 (qOb 8 [qR (h.1 + 1), qR (h.1 + 25), qR (h.1 + 49), qR (h.1 + 51), qN, qN, qN] :: (((((gBk (h.1 + 1)) ++ gBk (h.1 + 25)) ++ gRw16 (h.1 + 49)) ++ gRw16 (h.1 + 51)) ++ gWl (h.1 + 53)))) none _
  refine z_putF (fs' := [qR (h.1 + 1), qR (h.1 + 25), qR (h.1 + 49), qR (h.1 + 51), qR (h.1 + 53), qN, qN]) d_X8_init_60 fp_X8_36 rfl qap_hd (fun _ => rfl) (fun _ => rfl) (Nat.le_of_ble_eq_true rfl) rfl ?_
  refine z_eq rfl rfl qap_sh ?_
  show qEx M_X8_init 63 [qR h.1] [] (qap h 3335 (qOb 8 [qR (h.1 + 1), qR (h.1 + 25), qR (h.1 + 49), qR (h.1 + 51), qR (h.1 + 53), qN, qN] :: (((((gBk (h.1 + 1)) ++ gBk (h.1 + 25)) ++ gRw16 (h.1 + 49)) ++ gRw16 (h.1 + 51)) ++ gWl (h.1 + 53)))) none _
  refine z_aload_n d_X8_init_63 rfl rfl ?_
  refine z_new d_X8_init_64 nw_X8_21 ?_
  refine z_eq rfl (qc (congrArg qR (show _ = (h.1 + 58) from (qap_ln (by simp only [List.length_append, List.length_cons, List.length_nil, l_gPg, l_gFb, l_gRw16, l_gRw150, l_gRw8, l_gRu, l_gWl, l_gBk, l_gPa, l_gRd, l_gRo])))) rfl) qap_one ?_
  show qEx M_X8_init 67 [qR h.1] [qR (h.1 + 58), qR h.1] (qap (qap h 3335 (qOb 8 [qR (h.1 + 1), qR (h.1 + 25), qR (h.1 + 49), qR (h.1 + 51), qR (h.1 + 53), qN, qN] :: (((((gBk (h.1 + 1)) ++ gBk (h.1 + 25)) ++ gRw16 (h.1 + 49)) ++ gRw16 (h.1 + 51)) ++ gWl (h.1 + 53)))) 3 [qOb 6 [qN, qI 0, qI 0]]) none _
  refine z_dup d_X8_init_67 rfl ?_
  refine z_sipush d_X8_init_68 (by decide) ?_
  refine z_callI (M1 := M_X6_init) d_X8_init_71 li_X8_23 k_X6_init rfl [qI 150] rfl rfl (Nat.le_of_ble_eq_true rfl) (by decide) (by decide) (Nat.le_of_ble_eq_true rfl) (i_gRw150 (h := (qap h 3335 (qOb 8 [qR (h.1 + 1), qR (h.1 + 25), qR (h.1 + 49), qR (h.1 + 51), qR (h.1 + 53), qN, qN] :: (((((gBk (h.1 + 1)) ++ gBk (h.1 + 25)) ++ gRw16 (h.1 + 49)) ++ gRw16 (h.1 + 51)) ++ gWl (h.1 + 53))))) (n := (h.1 + 58)) (qap_ln (by simp only [List.length_append, List.length_cons, List.length_nil, l_gPg, l_gFb, l_gRw16, l_gRw150, l_gRw8, l_gRu, l_gWl, l_gBk, l_gPa, l_gRd, l_gRo])) (Nat.le_trans h2 (Nat.le_add_right _ _))) ?_
  refine z_eq rfl rfl qap_apc ?_
  show qEx M_X8_init 74 [qR h.1] [qR (h.1 + 58), qR h.1] (qap h 3938 (qOb 8 [qR (h.1 + 1), qR (h.1 + 25), qR (h.1 + 49), qR (h.1 + 51), qR (h.1 + 53), qN, qN] :: ((((((gBk (h.1 + 1)) ++ gBk (h.1 + 25)) ++ gRw16 (h.1 + 49)) ++ gRw16 (h.1 + 51)) ++ gWl (h.1 + 53)) ++ gRw150 (h.1 + 58)))) none _
  refine z_putF (fs' := [qR (h.1 + 1), qR (h.1 + 25), qR (h.1 + 49), qR (h.1 + 51), qR (h.1 + 53), qR (h.1 + 58), qN]) d_X8_init_74 fp_X8_40 rfl qap_hd (fun _ => rfl) (fun _ => rfl) (Nat.le_of_ble_eq_true rfl) rfl ?_
  refine z_eq rfl rfl qap_sh ?_
  show qEx M_X8_init 77 [qR h.1] [] (qap h 3938 (qOb 8 [qR (h.1 + 1), qR (h.1 + 25), qR (h.1 + 49), qR (h.1 + 51), qR (h.1 + 53), qR (h.1 + 58), qN] :: ((((((gBk (h.1 + 1)) ++ gBk (h.1 + 25)) ++ gRw16 (h.1 + 49)) ++ gRw16 (h.1 + 51)) ++ gWl (h.1 + 53)) ++ gRw150 (h.1 + 58)))) none _
  refine z_aload_n d_X8_init_77 rfl rfl ?_
  refine z_new d_X8_init_78 nw_X8_21 ?_
  refine z_eq rfl (qc (congrArg qR (show _ = (h.1 + 60) from (qap_ln (by simp only [List.length_append, List.length_cons, List.length_nil, l_gPg, l_gFb, l_gRw16, l_gRw150, l_gRw8, l_gRu, l_gWl, l_gBk, l_gPa, l_gRd, l_gRo])))) rfl) qap_one ?_
  show qEx M_X8_init 81 [qR h.1] [qR (h.1 + 60), qR h.1] (qap (qap h 3938 (qOb 8 [qR (h.1 + 1), qR (h.1 + 25), qR (h.1 + 49), qR (h.1 + 51), qR (h.1 + 53), qR (h.1 + 58), qN] :: ((((((gBk (h.1 + 1)) ++ gBk (h.1 + 25)) ++ gRw16 (h.1 + 49)) ++ gRw16 (h.1 + 51)) ++ gWl (h.1 + 53)) ++ gRw150 (h.1 + 58)))) 3 [qOb 6 [qN, qI 0, qI 0]]) none _
  refine z_dup d_X8_init_81 rfl ?_
  refine z_bipush d_X8_init_82 (by decide) ?_
  refine z_callI (M1 := M_X6_init) d_X8_init_84 li_X8_23 k_X6_init rfl [qI 8] rfl rfl (Nat.le_of_ble_eq_true rfl) (by decide) (by decide) (Nat.le_of_ble_eq_true rfl) (i_gRw8 (h := (qap h 3938 (qOb 8 [qR (h.1 + 1), qR (h.1 + 25), qR (h.1 + 49), qR (h.1 + 51), qR (h.1 + 53), qR (h.1 + 58), qN] :: ((((((gBk (h.1 + 1)) ++ gBk (h.1 + 25)) ++ gRw16 (h.1 + 49)) ++ gRw16 (h.1 + 51)) ++ gWl (h.1 + 53)) ++ gRw150 (h.1 + 58))))) (n := (h.1 + 60)) (qap_ln (by simp only [List.length_append, List.length_cons, List.length_nil, l_gPg, l_gFb, l_gRw16, l_gRw150, l_gRw8, l_gRu, l_gWl, l_gBk, l_gPa, l_gRd, l_gRo])) (Nat.le_trans h2 (Nat.le_add_right _ _))) ?_
  refine z_eq rfl rfl qap_apc ?_
  show qEx M_X8_init 87 [qR h.1] [qR (h.1 + 60), qR h.1] (qap h 3973 (qOb 8 [qR (h.1 + 1), qR (h.1 + 25), qR (h.1 + 49), qR (h.1 + 51), qR (h.1 + 53), qR (h.1 + 58), qN] :: (((((((gBk (h.1 + 1)) ++ gBk (h.1 + 25)) ++ gRw16 (h.1 + 49)) ++ gRw16 (h.1 + 51)) ++ gWl (h.1 + 53)) ++ gRw150 (h.1 + 58)) ++ gRw8 (h.1 + 60)))) none _
  refine z_putF (fs' := [qR (h.1 + 1), qR (h.1 + 25), qR (h.1 + 49), qR (h.1 + 51), qR (h.1 + 53), qR (h.1 + 58), qR (h.1 + 60)]) d_X8_init_87 fp_X8_43 rfl qap_hd (fun _ => rfl) (fun _ => rfl) (Nat.le_of_ble_eq_true rfl) rfl ?_
  refine z_eq rfl rfl qap_sh ?_
  show qEx M_X8_init 90 [qR h.1] [] (qap h 3973 (qOb 8 [qR (h.1 + 1), qR (h.1 + 25), qR (h.1 + 49), qR (h.1 + 51), qR (h.1 + 53), qR (h.1 + 58), qR (h.1 + 60)] :: (((((((gBk (h.1 + 1)) ++ gBk (h.1 + 25)) ++ gRw16 (h.1 + 49)) ++ gRw16 (h.1 + 51)) ++ gWl (h.1 + 53)) ++ gRw150 (h.1 + 58)) ++ gRw8 (h.1 + 60)))) none _
  exact z_vret d_X8_init_90 rfl rfl rfl
theorem l_gSt {n : Nat} : (gSt n).length = 62 := by simp only [gSt, List.length_append, List.length_cons, List.length_nil, l_gPg, l_gFb, l_gRw16, l_gRw150, l_gRw8, l_gRu, l_gWl, l_gBk, l_gPa, l_gRd, l_gRo]
def gTr (n : Nat) : List qC := (qOb 9 [qR (n + 1), qR (n + 5), qR (n + 9), qR (n + 33), qI 0, qI 0, qI (-1)] :: ((((gRu (n + 1)) ++ gRu (n + 5)) ++ gBk (n + 9)) ++ [qAr 0 648 (fun _ => 0)]))
theorem i_gTr {h : qH} {n : Nat} (hn : h.1 = n) (h2 : 2 ≤ h.1) : qEx M_X9_init 0 [qR n] [] (qap h 7 (qOb 9 [qN, qN, qN, qN, qI 0, qI 0, qI 0] :: [])) none (qap h 2396 (gTr n)) := by
  subst hn
  show qEx _ _ _ _ _ _ (qap h 2396 (qOb 9 [qR (h.1 + 1), qR (h.1 + 5), qR (h.1 + 9), qR (h.1 + 33), qI 0, qI 0, qI (-1)] :: ((((gRu (h.1 + 1)) ++ gRu (h.1 + 5)) ++ gBk (h.1 + 9)) ++ [qAr 0 648 (fun _ => 0)])))
  refine z_aload_n d_X9_init_0 rfl rfl ?_
  refine z_objinit d_X9_init_1 lo_X9_3 lo_i lo_c (by decide) (Nat.le_of_ble_eq_true rfl) ?_
  refine z_aload_n d_X9_init_4 rfl rfl ?_
  refine z_new d_X9_init_5 nw_X9_9 ?_
  refine z_eq rfl (qc (congrArg qR (show _ = (h.1 + 1) from (qap_ln (by simp only [List.length_append, List.length_cons, List.length_nil, l_gPg, l_gFb, l_gRw16, l_gRw150, l_gRw8, l_gRu, l_gWl, l_gBk, l_gPa, l_gRd, l_gRo, l_gSt])))) rfl) qap_one ?_
  show qEx M_X9_init 8 [qR h.1] [qR (h.1 + 1), qR h.1] (qap (qap h 7 (qOb 9 [qN, qN, qN, qN, qI 0, qI 0, qI 0] :: [])) 11 [qOb 7 [qN, qN, qN, qI 0, qI 0, qI 0, qI 0, qI 0, qI 0, qI 0, qI 0]]) none _
  refine z_dup d_X9_init_8 rfl ?_
  refine z_callI (M1 := M_X7_init) d_X9_init_9 li_X9_11 k_X7_init rfl [] rfl rfl (Nat.le_of_ble_eq_true rfl) (by decide) (by decide) (Nat.le_of_ble_eq_true rfl) (i_gRu (h := (qap h 7 (qOb 9 [qN, qN, qN, qN, qI 0, qI 0, qI 0] :: []))) (n := (h.1 + 1)) (qap_ln (by simp only [List.length_append, List.length_cons, List.length_nil, l_gPg, l_gFb, l_gRw16, l_gRw150, l_gRw8, l_gRu, l_gWl, l_gBk, l_gPa, l_gRd, l_gRo, l_gSt])) (Nat.le_trans h2 (Nat.le_add_right _ _))) ?_
  refine z_eq rfl rfl qap_apc ?_
  show qEx M_X9_init 12 [qR h.1] [qR (h.1 + 1), qR h.1] (qap h 114 (qOb 9 [qN, qN, qN, qN, qI 0, qI 0, qI 0] :: (gRu (h.1 + 1)))) none _
  refine z_putF (fs' := [qR (h.1 + 1), qN, qN, qN, qI 0, qI 0, qI 0]) d_X9_init_12 fp_X9_12 rfl qap_hd (fun _ => rfl) (fun _ => rfl) (Nat.le_of_ble_eq_true rfl) rfl ?_
  refine z_eq rfl rfl qap_sh ?_
  show qEx M_X9_init 15 [qR h.1] [] (qap h 114 (qOb 9 [qR (h.1 + 1), qN, qN, qN, qI 0, qI 0, qI 0] :: (gRu (h.1 + 1)))) none _
  refine z_aload_n d_X9_init_15 rfl rfl ?_
  refine z_new d_X9_init_16 nw_X9_9 ?_
  refine z_eq rfl (qc (congrArg qR (show _ = (h.1 + 5) from (qap_ln (by simp only [List.length_append, List.length_cons, List.length_nil, l_gPg, l_gFb, l_gRw16, l_gRw150, l_gRw8, l_gRu, l_gWl, l_gBk, l_gPa, l_gRd, l_gRo, l_gSt])))) rfl) qap_one ?_
  show qEx M_X9_init 19 [qR h.1] [qR (h.1 + 5), qR h.1] (qap (qap h 114 (qOb 9 [qR (h.1 + 1), qN, qN, qN, qI 0, qI 0, qI 0] :: (gRu (h.1 + 1)))) 11 [qOb 7 [qN, qN, qN, qI 0, qI 0, qI 0, qI 0, qI 0, qI 0, qI 0, qI 0]]) none _
  refine z_dup d_X9_init_19 rfl ?_
  refine z_callI (M1 := M_X7_init) d_X9_init_20 li_X9_11 k_X7_init rfl [] rfl rfl (Nat.le_of_ble_eq_true rfl) (by decide) (by decide) (Nat.le_of_ble_eq_true rfl) (i_gRu (h := (qap h 114 (qOb 9 [qR (h.1 + 1), qN, qN, qN, qI 0, qI 0, qI 0] :: (gRu (h.1 + 1))))) (n := (h.1 + 5)) (qap_ln (by simp only [List.length_append, List.length_cons, List.length_nil, l_gPg, l_gFb, l_gRw16, l_gRw150, l_gRw8, l_gRu, l_gWl, l_gBk, l_gPa, l_gRd, l_gRo, l_gSt])) (Nat.le_trans h2 (Nat.le_add_right _ _))) ?_
  refine z_eq rfl rfl qap_apc ?_
  show qEx M_X9_init 23 [qR h.1] [qR (h.1 + 5), qR h.1] (qap h 221 (qOb 9 [qR (h.1 + 1), qN, qN, qN, qI 0, qI 0, qI 0] :: ((gRu (h.1 + 1)) ++ gRu (h.1 + 5)))) none _
  refine z_putF (fs' := [qR (h.1 + 1), qR (h.1 + 5), qN, qN, qI 0, qI 0, qI 0]) d_X9_init_23 fp_X9_18 rfl qap_hd (fun _ => rfl) (fun _ => rfl) (Nat.le_of_ble_eq_true rfl) rfl ?_
  refine z_eq rfl rfl qap_sh ?_
  show qEx M_X9_init 26 [qR h.1] [] (qap h 221 (qOb 9 [qR (h.1 + 1), qR (h.1 + 5), qN, qN, qI 0, qI 0, qI 0] :: ((gRu (h.1 + 1)) ++ gRu (h.1 + 5)))) none _
  refine z_aload_n d_X9_init_26 rfl rfl ?_
  refine z_new d_X9_init_27 nw_X9_21 ?_
  refine z_eq rfl (qc (congrArg qR (show _ = (h.1 + 9) from (qap_ln (by simp only [List.length_append, List.length_cons, List.length_nil, l_gPg, l_gFb, l_gRw16, l_gRw150, l_gRw8, l_gRu, l_gWl, l_gBk, l_gPa, l_gRd, l_gRo, l_gSt])))) rfl) qap_one ?_
  show qEx M_X9_init 30 [qR h.1] [qR (h.1 + 9), qR h.1] (qap (qap h 221 (qOb 9 [qR (h.1 + 1), qR (h.1 + 5), qN, qN, qI 0, qI 0, qI 0] :: ((gRu (h.1 + 1)) ++ gRu (h.1 + 5)))) 3 [qOb 0 [qN, qN, qN]]) none _
  refine z_dup d_X9_init_30 rfl ?_
  refine z_callI (M1 := M_X0_init) d_X9_init_31 li_X9_23 k_X0_init rfl [] rfl rfl (Nat.le_of_ble_eq_true rfl) (by decide) (by decide) (Nat.le_of_ble_eq_true rfl) (i_gBk (h := (qap h 221 (qOb 9 [qR (h.1 + 1), qR (h.1 + 5), qN, qN, qI 0, qI 0, qI 0] :: ((gRu (h.1 + 1)) ++ gRu (h.1 + 5))))) (n := (h.1 + 9)) (qap_ln (by simp only [List.length_append, List.length_cons, List.length_nil, l_gPg, l_gFb, l_gRw16, l_gRw150, l_gRw8, l_gRu, l_gWl, l_gBk, l_gPa, l_gRd, l_gRo, l_gSt])) (Nat.le_trans h2 (Nat.le_add_right _ _))) ?_
  refine z_eq rfl rfl qap_apc ?_
  show qEx M_X9_init 34 [qR h.1] [qR (h.1 + 9), qR h.1] (qap h 1748 (qOb 9 [qR (h.1 + 1), qR (h.1 + 5), qN, qN, qI 0, qI 0, qI 0] :: (((gRu (h.1 + 1)) ++ gRu (h.1 + 5)) ++ gBk (h.1 + 9)))) none _
  refine z_putF (fs' := [qR (h.1 + 1), qR (h.1 + 5), qR (h.1 + 9), qN, qI 0, qI 0, qI 0]) d_X9_init_34 fp_X9_24 rfl qap_hd (fun _ => rfl) (fun _ => rfl) (Nat.le_of_ble_eq_true rfl) rfl ?_
  refine z_eq rfl rfl qap_sh ?_
  show qEx M_X9_init 37 [qR h.1] [] (qap h 1748 (qOb 9 [qR (h.1 + 1), qR (h.1 + 5), qR (h.1 + 9), qN, qI 0, qI 0, qI 0] :: (((gRu (h.1 + 1)) ++ gRu (h.1 + 5)) ++ gBk (h.1 + 9)))) none _
  refine z_aload_n d_X9_init_37 rfl rfl ?_
  refine z_sipush d_X9_init_38 (by decide) ?_
  refine z_newI d_X9_init_41 ac_int (by decide) (by decide) ?_
  refine z_eq rfl (qc (congrArg qR (show _ = (h.1 + 33) from (qap_ln (by simp only [List.length_append, List.length_cons, List.length_nil, l_gPg, l_gFb, l_gRw16, l_gRw150, l_gRw8, l_gRu, l_gWl, l_gBk, l_gPa, l_gRd, l_gRo, l_gSt])))) rfl) qap_nwc ?_
  show qEx M_X9_init 43 [qR h.1] [qR (h.1 + 33), qR h.1] (qap h 2396 (qOb 9 [qR (h.1 + 1), qR (h.1 + 5), qR (h.1 + 9), qN, qI 0, qI 0, qI 0] :: ((((gRu (h.1 + 1)) ++ gRu (h.1 + 5)) ++ gBk (h.1 + 9)) ++ [qAr 0 648 (fun _ => 0)]))) none _
  refine z_putF (fs' := [qR (h.1 + 1), qR (h.1 + 5), qR (h.1 + 9), qR (h.1 + 33), qI 0, qI 0, qI 0]) d_X9_init_43 fp_X9_28 rfl qap_hd (fun _ => rfl) (fun _ => rfl) (Nat.le_of_ble_eq_true rfl) rfl ?_
  refine z_eq rfl rfl qap_sh ?_
  show qEx M_X9_init 46 [qR h.1] [] (qap h 2396 (qOb 9 [qR (h.1 + 1), qR (h.1 + 5), qR (h.1 + 9), qR (h.1 + 33), qI 0, qI 0, qI 0] :: ((((gRu (h.1 + 1)) ++ gRu (h.1 + 5)) ++ gBk (h.1 + 9)) ++ [qAr 0 648 (fun _ => 0)]))) none _
  refine z_aload_n d_X9_init_46 rfl rfl ?_
  refine z_iconst d_X9_init_47 (by decide) ?_
  refine z_putf (fs' := [qR (h.1 + 1), qR (h.1 + 5), qR (h.1 + 9), qR (h.1 + 33), qI 0, qI 0, qI 0]) d_X9_init_48 fp_X9_32 qap_hd (fun _ => rfl) (fun _ => rfl) (Nat.le_of_ble_eq_true rfl) rfl ?_
  refine z_eq rfl rfl qap_sh ?_
  show qEx M_X9_init 51 [qR h.1] [] (qap h 2396 (qOb 9 [qR (h.1 + 1), qR (h.1 + 5), qR (h.1 + 9), qR (h.1 + 33), qI 0, qI 0, qI 0] :: ((((gRu (h.1 + 1)) ++ gRu (h.1 + 5)) ++ gBk (h.1 + 9)) ++ [qAr 0 648 (fun _ => 0)]))) none _
  refine z_aload_n d_X9_init_51 rfl rfl ?_
  refine z_iconst d_X9_init_52 (by decide) ?_
  refine z_putf (fs' := [qR (h.1 + 1), qR (h.1 + 5), qR (h.1 + 9), qR (h.1 + 33), qI 0, qI 0, qI 0]) d_X9_init_53 fp_X9_36 qap_hd (fun _ => rfl) (fun _ => rfl) (Nat.le_of_ble_eq_true rfl) rfl ?_
  refine z_eq rfl rfl qap_sh ?_
  show qEx M_X9_init 56 [qR h.1] [] (qap h 2396 (qOb 9 [qR (h.1 + 1), qR (h.1 + 5), qR (h.1 + 9), qR (h.1 + 33), qI 0, qI 0, qI 0] :: ((((gRu (h.1 + 1)) ++ gRu (h.1 + 5)) ++ gBk (h.1 + 9)) ++ [qAr 0 648 (fun _ => 0)]))) none _
  refine z_aload_n d_X9_init_56 rfl rfl ?_
  refine z_iconst d_X9_init_57 (by decide) ?_
  refine z_putf (fs' := [qR (h.1 + 1), qR (h.1 + 5), qR (h.1 + 9), qR (h.1 + 33), qI 0, qI 0, qI (-1)]) d_X9_init_58 fp_X9_39 qap_hd (fun _ => rfl) (fun _ => rfl) (Nat.le_of_ble_eq_true rfl) rfl ?_
  refine z_eq rfl rfl qap_sh ?_
  show qEx M_X9_init 61 [qR h.1] [] (qap h 2396 (qOb 9 [qR (h.1 + 1), qR (h.1 + 5), qR (h.1 + 9), qR (h.1 + 33), qI 0, qI 0, qI (-1)] :: ((((gRu (h.1 + 1)) ++ gRu (h.1 + 5)) ++ gBk (h.1 + 9)) ++ [qAr 0 648 (fun _ => 0)]))) none _
  exact z_vret d_X9_init_61 rfl rfl rfl
theorem l_gTr {n : Nat} : (gTr n).length = 34 := by simp only [gTr, List.length_append, List.length_cons, List.length_nil, l_gPg, l_gFb, l_gRw16, l_gRw150, l_gRw8, l_gRu, l_gWl, l_gBk, l_gPa, l_gRd, l_gRo, l_gSt]
def gCo (n : Nat) : List qC := (qOb 11 [qR (n + 1), qR (n + 63), qI 0, qR (n + 125), qR (n + 158), qR (n + 170), qR (n + 204), qR (n + 214), qR (n + 217)] :: ((((((((gSt (n + 1)) ++ gSt (n + 63)) ++ gPa (n + 125)) ++ gRd (n + 158)) ++ gTr (n + 170)) ++ gRo (n + 204)) ++ gFb (n + 214)) ++ [qAr 0 32 (fun _ => 0)]))
theorem i_gCo {h : qH} {n : Nat} (hn : h.1 = n) (h2 : 2 ≤ h.1) : qEx M_X11_init 0 [qR n] [] (qap h 9 (qOb 11 [qN, qN, qI 0, qN, qN, qN, qN, qN, qN] :: [])) none (qap h 20298 (gCo n)) := by
  subst hn
  show qEx _ _ _ _ _ _ (qap h 20298 (qOb 11 [qR (h.1 + 1), qR (h.1 + 63), qI 0, qR (h.1 + 125), qR (h.1 + 158), qR (h.1 + 170), qR (h.1 + 204), qR (h.1 + 214), qR (h.1 + 217)] :: ((((((((gSt (h.1 + 1)) ++ gSt (h.1 + 63)) ++ gPa (h.1 + 125)) ++ gRd (h.1 + 158)) ++ gTr (h.1 + 170)) ++ gRo (h.1 + 204)) ++ gFb (h.1 + 214)) ++ [qAr 0 32 (fun _ => 0)])))
  refine z_aload_n d_X11_init_0 rfl rfl ?_
  refine z_objinit d_X11_init_1 lo_X11_3 lo_i lo_c (by decide) (Nat.le_of_ble_eq_true rfl) ?_
  refine z_aload_n d_X11_init_4 rfl rfl ?_
  refine z_new d_X11_init_5 nw_X11_9 ?_
  refine z_eq rfl (qc (congrArg qR (show _ = (h.1 + 1) from (qap_ln (by simp only [List.length_append, List.length_cons, List.length_nil, l_gPg, l_gFb, l_gRw16, l_gRw150, l_gRw8, l_gRu, l_gWl, l_gBk, l_gPa, l_gRd, l_gRo, l_gSt, l_gTr])))) rfl) qap_one ?_
  show qEx M_X11_init 8 [qR h.1] [qR (h.1 + 1), qR h.1] (qap (qap h 9 (qOb 11 [qN, qN, qI 0, qN, qN, qN, qN, qN, qN] :: [])) 7 [qOb 8 [qN, qN, qN, qN, qN, qN, qN]]) none _
  refine z_dup d_X11_init_8 rfl ?_
  refine z_callI (M1 := M_X8_init) d_X11_init_9 li_X11_11 k_X8_init rfl [] rfl rfl (Nat.le_of_ble_eq_true rfl) (by decide) (by decide) (Nat.le_of_ble_eq_true rfl) (i_gSt (h := (qap h 9 (qOb 11 [qN, qN, qI 0, qN, qN, qN, qN, qN, qN] :: []))) (n := (h.1 + 1)) (qap_ln (by simp only [List.length_append, List.length_cons, List.length_nil, l_gPg, l_gFb, l_gRw16, l_gRw150, l_gRw8, l_gRu, l_gWl, l_gBk, l_gPa, l_gRd, l_gRo, l_gSt, l_gTr])) (Nat.le_trans h2 (Nat.le_add_right _ _))) ?_
  refine z_eq rfl rfl qap_apc ?_
  show qEx M_X11_init 12 [qR h.1] [qR (h.1 + 1), qR h.1] (qap h 3982 (qOb 11 [qN, qN, qI 0, qN, qN, qN, qN, qN, qN] :: (gSt (h.1 + 1)))) none _
  refine z_putF (fs' := [qR (h.1 + 1), qN, qI 0, qN, qN, qN, qN, qN, qN]) d_X11_init_12 fp_X11_12 rfl qap_hd (fun _ => rfl) (fun _ => rfl) (Nat.le_of_ble_eq_true rfl) rfl ?_
  refine z_eq rfl rfl qap_sh ?_
  show qEx M_X11_init 15 [qR h.1] [] (qap h 3982 (qOb 11 [qR (h.1 + 1), qN, qI 0, qN, qN, qN, qN, qN, qN] :: (gSt (h.1 + 1)))) none _
  refine z_aload_n d_X11_init_15 rfl rfl ?_
  refine z_new d_X11_init_16 nw_X11_9 ?_
  refine z_eq rfl (qc (congrArg qR (show _ = (h.1 + 63) from (qap_ln (by simp only [List.length_append, List.length_cons, List.length_nil, l_gPg, l_gFb, l_gRw16, l_gRw150, l_gRw8, l_gRu, l_gWl, l_gBk, l_gPa, l_gRd, l_gRo, l_gSt, l_gTr])))) rfl) qap_one ?_
  show qEx M_X11_init 19 [qR h.1] [qR (h.1 + 63), qR h.1] (qap (qap h 3982 (qOb 11 [qR (h.1 + 1), qN, qI 0, qN, qN, qN, qN, qN, qN] :: (gSt (h.1 + 1)))) 7 [qOb 8 [qN, qN, qN, qN, qN, qN, qN]]) none _
  refine z_dup d_X11_init_19 rfl ?_
  refine z_callI (M1 := M_X8_init) d_X11_init_20 li_X11_11 k_X8_init rfl [] rfl rfl (Nat.le_of_ble_eq_true rfl) (by decide) (by decide) (Nat.le_of_ble_eq_true rfl) (i_gSt (h := (qap h 3982 (qOb 11 [qR (h.1 + 1), qN, qI 0, qN, qN, qN, qN, qN, qN] :: (gSt (h.1 + 1))))) (n := (h.1 + 63)) (qap_ln (by simp only [List.length_append, List.length_cons, List.length_nil, l_gPg, l_gFb, l_gRw16, l_gRw150, l_gRw8, l_gRu, l_gWl, l_gBk, l_gPa, l_gRd, l_gRo, l_gSt, l_gTr])) (Nat.le_trans h2 (Nat.le_add_right _ _))) ?_
  refine z_eq rfl rfl qap_apc ?_
  show qEx M_X11_init 23 [qR h.1] [qR (h.1 + 63), qR h.1] (qap h 7955 (qOb 11 [qR (h.1 + 1), qN, qI 0, qN, qN, qN, qN, qN, qN] :: ((gSt (h.1 + 1)) ++ gSt (h.1 + 63)))) none _
  refine z_putF (fs' := [qR (h.1 + 1), qR (h.1 + 63), qI 0, qN, qN, qN, qN, qN, qN]) d_X11_init_23 fp_X11_16 rfl qap_hd (fun _ => rfl) (fun _ => rfl) (Nat.le_of_ble_eq_true rfl) rfl ?_
  refine z_eq rfl rfl qap_sh ?_
  show qEx M_X11_init 26 [qR h.1] [] (qap h 7955 (qOb 11 [qR (h.1 + 1), qR (h.1 + 63), qI 0, qN, qN, qN, qN, qN, qN] :: ((gSt (h.1 + 1)) ++ gSt (h.1 + 63)))) none _
  refine z_aload_n d_X11_init_26 rfl rfl ?_
  refine z_iconst d_X11_init_27 (by decide) ?_
  refine z_putf (fs' := [qR (h.1 + 1), qR (h.1 + 63), qI 0, qN, qN, qN, qN, qN, qN]) d_X11_init_28 fp_X11_19 qap_hd (fun _ => rfl) (fun _ => rfl) (Nat.le_of_ble_eq_true rfl) rfl ?_
  refine z_eq rfl rfl qap_sh ?_
  show qEx M_X11_init 31 [qR h.1] [] (qap h 7955 (qOb 11 [qR (h.1 + 1), qR (h.1 + 63), qI 0, qN, qN, qN, qN, qN, qN] :: ((gSt (h.1 + 1)) ++ gSt (h.1 + 63)))) none _
  refine z_aload_n d_X11_init_31 rfl rfl ?_
  refine z_new d_X11_init_32 nw_X11_23 ?_
  refine z_eq rfl (qc (congrArg qR (show _ = (h.1 + 125) from (qap_ln (by simp only [List.length_append, List.length_cons, List.length_nil, l_gPg, l_gFb, l_gRw16, l_gRw150, l_gRw8, l_gRu, l_gWl, l_gBk, l_gPa, l_gRd, l_gRo, l_gSt, l_gTr])))) rfl) qap_one ?_
  show qEx M_X11_init 35 [qR h.1] [qR (h.1 + 125), qR h.1] (qap (qap h 7955 (qOb 11 [qR (h.1 + 1), qR (h.1 + 63), qI 0, qN, qN, qN, qN, qN, qN] :: ((gSt (h.1 + 1)) ++ gSt (h.1 + 63)))) 4 [qOb 3 [qN, qN, qI 0, qI 0]]) none _
  refine z_dup d_X11_init_35 rfl ?_
  refine z_callI (M1 := M_X3_init) d_X11_init_36 li_X11_25 k_X3_init rfl [] rfl rfl (Nat.le_of_ble_eq_true rfl) (by decide) (by decide) (Nat.le_of_ble_eq_true rfl) (i_gPa (h := (qap h 7955 (qOb 11 [qR (h.1 + 1), qR (h.1 + 63), qI 0, qN, qN, qN, qN, qN, qN] :: ((gSt (h.1 + 1)) ++ gSt (h.1 + 63))))) (n := (h.1 + 125)) (qap_ln (by simp only [List.length_append, List.length_cons, List.length_nil, l_gPg, l_gFb, l_gRw16, l_gRw150, l_gRw8, l_gRu, l_gWl, l_gBk, l_gPa, l_gRd, l_gRo, l_gSt, l_gTr])) (Nat.le_trans h2 (Nat.le_add_right _ _))) ?_
  refine z_eq rfl rfl qap_apc ?_
  show qEx M_X11_init 39 [qR h.1] [qR (h.1 + 125), qR h.1] (qap h 8811 (qOb 11 [qR (h.1 + 1), qR (h.1 + 63), qI 0, qN, qN, qN, qN, qN, qN] :: (((gSt (h.1 + 1)) ++ gSt (h.1 + 63)) ++ gPa (h.1 + 125)))) none _
  refine z_putF (fs' := [qR (h.1 + 1), qR (h.1 + 63), qI 0, qR (h.1 + 125), qN, qN, qN, qN, qN]) d_X11_init_39 fp_X11_26 rfl qap_hd (fun _ => rfl) (fun _ => rfl) (Nat.le_of_ble_eq_true rfl) rfl ?_
  refine z_eq rfl rfl qap_sh ?_
  show qEx M_X11_init 42 [qR h.1] [] (qap h 8811 (qOb 11 [qR (h.1 + 1), qR (h.1 + 63), qI 0, qR (h.1 + 125), qN, qN, qN, qN, qN] :: (((gSt (h.1 + 1)) ++ gSt (h.1 + 63)) ++ gPa (h.1 + 125)))) none _
  refine z_aload_n d_X11_init_42 rfl rfl ?_
  refine z_new d_X11_init_43 nw_X11_30 ?_
  refine z_eq rfl (qc (congrArg qR (show _ = (h.1 + 158) from (qap_ln (by simp only [List.length_append, List.length_cons, List.length_nil, l_gPg, l_gFb, l_gRw16, l_gRw150, l_gRw8, l_gRu, l_gWl, l_gBk, l_gPa, l_gRd, l_gRo, l_gSt, l_gTr])))) rfl) qap_one ?_
  show qEx M_X11_init 46 [qR h.1] [qR (h.1 + 158), qR h.1] (qap (qap h 8811 (qOb 11 [qR (h.1 + 1), qR (h.1 + 63), qI 0, qR (h.1 + 125), qN, qN, qN, qN, qN] :: (((gSt (h.1 + 1)) ++ gSt (h.1 + 63)) ++ gPa (h.1 + 125)))) 11 [qOb 4 [qN, qI 0, qN, qN, qN, qI 0, qI 0, qI 0, qI 0, qN, qN]]) none _
  refine z_dup d_X11_init_46 rfl ?_
  refine z_callI (M1 := M_X4_init) d_X11_init_47 li_X11_32 k_X4_init rfl [] rfl rfl (Nat.le_of_ble_eq_true rfl) (by decide) (by decide) (Nat.le_of_ble_eq_true rfl) (i_gRd (h := (qap h 8811 (qOb 11 [qR (h.1 + 1), qR (h.1 + 63), qI 0, qR (h.1 + 125), qN, qN, qN, qN, qN] :: (((gSt (h.1 + 1)) ++ gSt (h.1 + 63)) ++ gPa (h.1 + 125))))) (n := (h.1 + 158)) (qap_ln (by simp only [List.length_append, List.length_cons, List.length_nil, l_gPg, l_gFb, l_gRw16, l_gRw150, l_gRw8, l_gRu, l_gWl, l_gBk, l_gPa, l_gRd, l_gRo, l_gSt, l_gTr])) (Nat.le_trans h2 (Nat.le_add_right _ _))) ?_
  refine z_eq rfl rfl qap_apc ?_
  show qEx M_X11_init 50 [qR h.1] [qR (h.1 + 158), qR h.1] (qap h 10548 (qOb 11 [qR (h.1 + 1), qR (h.1 + 63), qI 0, qR (h.1 + 125), qN, qN, qN, qN, qN] :: ((((gSt (h.1 + 1)) ++ gSt (h.1 + 63)) ++ gPa (h.1 + 125)) ++ gRd (h.1 + 158)))) none _
  refine z_putF (fs' := [qR (h.1 + 1), qR (h.1 + 63), qI 0, qR (h.1 + 125), qR (h.1 + 158), qN, qN, qN, qN]) d_X11_init_50 fp_X11_33 rfl qap_hd (fun _ => rfl) (fun _ => rfl) (Nat.le_of_ble_eq_true rfl) rfl ?_
  refine z_eq rfl rfl qap_sh ?_
  show qEx M_X11_init 53 [qR h.1] [] (qap h 10548 (qOb 11 [qR (h.1 + 1), qR (h.1 + 63), qI 0, qR (h.1 + 125), qR (h.1 + 158), qN, qN, qN, qN] :: ((((gSt (h.1 + 1)) ++ gSt (h.1 + 63)) ++ gPa (h.1 + 125)) ++ gRd (h.1 + 158)))) none _
  refine z_aload_n d_X11_init_53 rfl rfl ?_
  refine z_new d_X11_init_54 nw_X11_37 ?_
  refine z_eq rfl (qc (congrArg qR (show _ = (h.1 + 170) from (qap_ln (by simp only [List.length_append, List.length_cons, List.length_nil, l_gPg, l_gFb, l_gRw16, l_gRw150, l_gRw8, l_gRu, l_gWl, l_gBk, l_gPa, l_gRd, l_gRo, l_gSt, l_gTr])))) rfl) qap_one ?_
  show qEx M_X11_init 57 [qR h.1] [qR (h.1 + 170), qR h.1] (qap (qap h 10548 (qOb 11 [qR (h.1 + 1), qR (h.1 + 63), qI 0, qR (h.1 + 125), qR (h.1 + 158), qN, qN, qN, qN] :: ((((gSt (h.1 + 1)) ++ gSt (h.1 + 63)) ++ gPa (h.1 + 125)) ++ gRd (h.1 + 158)))) 7 [qOb 9 [qN, qN, qN, qN, qI 0, qI 0, qI 0]]) none _
  refine z_dup d_X11_init_57 rfl ?_
  refine z_callI (M1 := M_X9_init) d_X11_init_58 li_X11_39 k_X9_init rfl [] rfl rfl (Nat.le_of_ble_eq_true rfl) (by decide) (by decide) (Nat.le_of_ble_eq_true rfl) (i_gTr (h := (qap h 10548 (qOb 11 [qR (h.1 + 1), qR (h.1 + 63), qI 0, qR (h.1 + 125), qR (h.1 + 158), qN, qN, qN, qN] :: ((((gSt (h.1 + 1)) ++ gSt (h.1 + 63)) ++ gPa (h.1 + 125)) ++ gRd (h.1 + 158))))) (n := (h.1 + 170)) (qap_ln (by simp only [List.length_append, List.length_cons, List.length_nil, l_gPg, l_gFb, l_gRw16, l_gRw150, l_gRw8, l_gRu, l_gWl, l_gBk, l_gPa, l_gRd, l_gRo, l_gSt, l_gTr])) (Nat.le_trans h2 (Nat.le_add_right _ _))) ?_
  refine z_eq rfl rfl qap_apc ?_
  show qEx M_X11_init 61 [qR h.1] [qR (h.1 + 170), qR h.1] (qap h 12944 (qOb 11 [qR (h.1 + 1), qR (h.1 + 63), qI 0, qR (h.1 + 125), qR (h.1 + 158), qN, qN, qN, qN] :: (((((gSt (h.1 + 1)) ++ gSt (h.1 + 63)) ++ gPa (h.1 + 125)) ++ gRd (h.1 + 158)) ++ gTr (h.1 + 170)))) none _
  refine z_putF (fs' := [qR (h.1 + 1), qR (h.1 + 63), qI 0, qR (h.1 + 125), qR (h.1 + 158), qR (h.1 + 170), qN, qN, qN]) d_X11_init_61 fp_X11_40 rfl qap_hd (fun _ => rfl) (fun _ => rfl) (Nat.le_of_ble_eq_true rfl) rfl ?_
  refine z_eq rfl rfl qap_sh ?_
  show qEx M_X11_init 64 [qR h.1] [] (qap h 12944 (qOb 11 [qR (h.1 + 1), qR (h.1 + 63), qI 0, qR (h.1 + 125), qR (h.1 + 158), qR (h.1 + 170), qN, qN, qN] :: (((((gSt (h.1 + 1)) ++ gSt (h.1 + 63)) ++ gPa (h.1 + 125)) ++ gRd (h.1 + 158)) ++ gTr (h.1 + 170)))) none _
  refine z_aload_n d_X11_init_64 rfl rfl ?_
  refine z_new d_X11_init_65 nw_X11_44 ?_
  refine z_eq rfl (qc (congrArg qR (show _ = (h.1 + 204) from (qap_ln (by simp only [List.length_append, List.length_cons, List.length_nil, l_gPg, l_gFb, l_gRw16, l_gRw150, l_gRw8, l_gRu, l_gWl, l_gBk, l_gPa, l_gRd, l_gRo, l_gSt, l_gTr])))) rfl) qap_one ?_
  show qEx M_X11_init 68 [qR h.1] [qR (h.1 + 204), qR h.1] (qap (qap h 12944 (qOb 11 [qR (h.1 + 1), qR (h.1 + 63), qI 0, qR (h.1 + 125), qR (h.1 + 158), qR (h.1 + 170), qN, qN, qN] :: (((((gSt (h.1 + 1)) ++ gSt (h.1 + 63)) ++ gPa (h.1 + 125)) ++ gRd (h.1 + 158)) ++ gTr (h.1 + 170)))) 7 [qOb 5 [qN, qN, qN, qN, qN, qI 0, qI 0]]) none _
  refine z_dup d_X11_init_68 rfl ?_
  refine z_callI (M1 := M_X5_init) d_X11_init_69 li_X11_46 k_X5_init rfl [] rfl rfl (Nat.le_of_ble_eq_true rfl) (by decide) (by decide) (Nat.le_of_ble_eq_true rfl) (i_gRo (h := (qap h 12944 (qOb 11 [qR (h.1 + 1), qR (h.1 + 63), qI 0, qR (h.1 + 125), qR (h.1 + 158), qR (h.1 + 170), qN, qN, qN] :: (((((gSt (h.1 + 1)) ++ gSt (h.1 + 63)) ++ gPa (h.1 + 125)) ++ gRd (h.1 + 158)) ++ gTr (h.1 + 170))))) (n := (h.1 + 204)) (qap_ln (by simp only [List.length_append, List.length_cons, List.length_nil, l_gPg, l_gFb, l_gRw16, l_gRw150, l_gRw8, l_gRu, l_gWl, l_gBk, l_gPa, l_gRd, l_gRo, l_gSt, l_gTr])) (Nat.le_trans h2 (Nat.le_add_right _ _))) ?_
  refine z_eq rfl rfl qap_apc ?_
  show qEx M_X11_init 72 [qR h.1] [qR (h.1 + 204), qR h.1] (qap h 20120 (qOb 11 [qR (h.1 + 1), qR (h.1 + 63), qI 0, qR (h.1 + 125), qR (h.1 + 158), qR (h.1 + 170), qN, qN, qN] :: ((((((gSt (h.1 + 1)) ++ gSt (h.1 + 63)) ++ gPa (h.1 + 125)) ++ gRd (h.1 + 158)) ++ gTr (h.1 + 170)) ++ gRo (h.1 + 204)))) none _
  refine z_putF (fs' := [qR (h.1 + 1), qR (h.1 + 63), qI 0, qR (h.1 + 125), qR (h.1 + 158), qR (h.1 + 170), qR (h.1 + 204), qN, qN]) d_X11_init_72 fp_X11_47 rfl qap_hd (fun _ => rfl) (fun _ => rfl) (Nat.le_of_ble_eq_true rfl) rfl ?_
  refine z_eq rfl rfl qap_sh ?_
  show qEx M_X11_init 75 [qR h.1] [] (qap h 20120 (qOb 11 [qR (h.1 + 1), qR (h.1 + 63), qI 0, qR (h.1 + 125), qR (h.1 + 158), qR (h.1 + 170), qR (h.1 + 204), qN, qN] :: ((((((gSt (h.1 + 1)) ++ gSt (h.1 + 63)) ++ gPa (h.1 + 125)) ++ gRd (h.1 + 158)) ++ gTr (h.1 + 170)) ++ gRo (h.1 + 204)))) none _
  refine z_aload_n d_X11_init_75 rfl rfl ?_
  refine z_new d_X11_init_76 nw_X11_51 ?_
  refine z_eq rfl (qc (congrArg qR (show _ = (h.1 + 214) from (qap_ln (by simp only [List.length_append, List.length_cons, List.length_nil, l_gPg, l_gFb, l_gRw16, l_gRw150, l_gRw8, l_gRu, l_gWl, l_gBk, l_gPa, l_gRd, l_gRo, l_gSt, l_gTr])))) rfl) qap_one ?_
  show qEx M_X11_init 79 [qR h.1] [qR (h.1 + 214), qR h.1] (qap (qap h 20120 (qOb 11 [qR (h.1 + 1), qR (h.1 + 63), qI 0, qR (h.1 + 125), qR (h.1 + 158), qR (h.1 + 170), qR (h.1 + 204), qN, qN] :: ((((((gSt (h.1 + 1)) ++ gSt (h.1 + 63)) ++ gPa (h.1 + 125)) ++ gRd (h.1 + 158)) ++ gTr (h.1 + 170)) ++ gRo (h.1 + 204)))) 2 [qOb 1 [qN, qN]]) none _
  refine z_dup d_X11_init_79 rfl ?_
  refine z_callI (M1 := M_X1_init) d_X11_init_80 li_X11_53 k_X1_init rfl [] rfl rfl (Nat.le_of_ble_eq_true rfl) (by decide) (by decide) (Nat.le_of_ble_eq_true rfl) (i_gFb (h := (qap h 20120 (qOb 11 [qR (h.1 + 1), qR (h.1 + 63), qI 0, qR (h.1 + 125), qR (h.1 + 158), qR (h.1 + 170), qR (h.1 + 204), qN, qN] :: ((((((gSt (h.1 + 1)) ++ gSt (h.1 + 63)) ++ gPa (h.1 + 125)) ++ gRd (h.1 + 158)) ++ gTr (h.1 + 170)) ++ gRo (h.1 + 204))))) (n := (h.1 + 214)) (qap_ln (by simp only [List.length_append, List.length_cons, List.length_nil, l_gPg, l_gFb, l_gRw16, l_gRw150, l_gRw8, l_gRu, l_gWl, l_gBk, l_gPa, l_gRd, l_gRo, l_gSt, l_gTr])) (Nat.le_trans h2 (Nat.le_add_right _ _))) ?_
  refine z_eq rfl rfl qap_apc ?_
  show qEx M_X11_init 83 [qR h.1] [qR (h.1 + 214), qR h.1] (qap h 20266 (qOb 11 [qR (h.1 + 1), qR (h.1 + 63), qI 0, qR (h.1 + 125), qR (h.1 + 158), qR (h.1 + 170), qR (h.1 + 204), qN, qN] :: (((((((gSt (h.1 + 1)) ++ gSt (h.1 + 63)) ++ gPa (h.1 + 125)) ++ gRd (h.1 + 158)) ++ gTr (h.1 + 170)) ++ gRo (h.1 + 204)) ++ gFb (h.1 + 214)))) none _
  refine z_putF (fs' := [qR (h.1 + 1), qR (h.1 + 63), qI 0, qR (h.1 + 125), qR (h.1 + 158), qR (h.1 + 170), qR (h.1 + 204), qR (h.1 + 214), qN]) d_X11_init_83 fp_X11_54 rfl qap_hd (fun _ => rfl) (fun _ => rfl) (Nat.le_of_ble_eq_true rfl) rfl ?_
  refine z_eq rfl rfl qap_sh ?_
  show qEx M_X11_init 86 [qR h.1] [] (qap h 20266 (qOb 11 [qR (h.1 + 1), qR (h.1 + 63), qI 0, qR (h.1 + 125), qR (h.1 + 158), qR (h.1 + 170), qR (h.1 + 204), qR (h.1 + 214), qN] :: (((((((gSt (h.1 + 1)) ++ gSt (h.1 + 63)) ++ gPa (h.1 + 125)) ++ gRd (h.1 + 158)) ++ gTr (h.1 + 170)) ++ gRo (h.1 + 204)) ++ gFb (h.1 + 214)))) none _
  refine z_aload_n d_X11_init_86 rfl rfl ?_
  refine z_bipush d_X11_init_87 (by decide) ?_
  refine z_newI d_X11_init_89 ac_int (by decide) (by decide) ?_
  refine z_eq rfl (qc (congrArg qR (show _ = (h.1 + 217) from (qap_ln (by simp only [List.length_append, List.length_cons, List.length_nil, l_gPg, l_gFb, l_gRw16, l_gRw150, l_gRw8, l_gRu, l_gWl, l_gBk, l_gPa, l_gRd, l_gRo, l_gSt, l_gTr])))) rfl) qap_nwc ?_
  show qEx M_X11_init 91 [qR h.1] [qR (h.1 + 217), qR h.1] (qap h 20298 (qOb 11 [qR (h.1 + 1), qR (h.1 + 63), qI 0, qR (h.1 + 125), qR (h.1 + 158), qR (h.1 + 170), qR (h.1 + 204), qR (h.1 + 214), qN] :: ((((((((gSt (h.1 + 1)) ++ gSt (h.1 + 63)) ++ gPa (h.1 + 125)) ++ gRd (h.1 + 158)) ++ gTr (h.1 + 170)) ++ gRo (h.1 + 204)) ++ gFb (h.1 + 214)) ++ [qAr 0 32 (fun _ => 0)]))) none _
  refine z_putF (fs' := [qR (h.1 + 1), qR (h.1 + 63), qI 0, qR (h.1 + 125), qR (h.1 + 158), qR (h.1 + 170), qR (h.1 + 204), qR (h.1 + 214), qR (h.1 + 217)]) d_X11_init_91 fp_X11_58 rfl qap_hd (fun _ => rfl) (fun _ => rfl) (Nat.le_of_ble_eq_true rfl) rfl ?_
  refine z_eq rfl rfl qap_sh ?_
  show qEx M_X11_init 94 [qR h.1] [] (qap h 20298 (qOb 11 [qR (h.1 + 1), qR (h.1 + 63), qI 0, qR (h.1 + 125), qR (h.1 + 158), qR (h.1 + 170), qR (h.1 + 204), qR (h.1 + 214), qR (h.1 + 217)] :: ((((((((gSt (h.1 + 1)) ++ gSt (h.1 + 63)) ++ gPa (h.1 + 125)) ++ gRd (h.1 + 158)) ++ gTr (h.1 + 170)) ++ gRo (h.1 + 204)) ++ gFb (h.1 + 214)) ++ [qAr 0 32 (fun _ => 0)]))) none _
  exact z_vret d_X11_init_94 rfl rfl rfl
theorem l_gCo {n : Nat} : (gCo n).length = 218 := by simp only [gCo, List.length_append, List.length_cons, List.length_nil, l_gPg, l_gFb, l_gRw16, l_gRw150, l_gRw8, l_gRu, l_gWl, l_gBk, l_gPa, l_gRd, l_gRo, l_gSt, l_gTr]
def gRf (n : Nat) : List qC := [qOb 12 [qI 0, qI 0, qI 0, qI 0, qI 0, qI 0, qI 0, qI (-1), qR (n + 1), qR (n + 2), qR (n + 3), qR (n + 4), qR (n + 5), qR (n + 6), qR (n + 7), qR (n + 8), qR (n + 9), qR (n + 10), qI 0, qI 0, qI 0, qR (n + 11), qR (n + 12), qR (n + 13), qR (n + 14), qI 0, qR (n + 15), qI 0, qR (n + 16), qR (n + 17), qR (n + 18), qR (n + 19), qR (n + 20), qR (n + 21), qR (n + 22), qR (n + 23), qR (n + 24), qI 0, qI 0, qI 0, qI 0, qR (n + 25), qR (n + 26), qR (n + 27), qR (n + 28), qR (n + 29), qR (n + 30), qR (n + 31), qI 0, qR (n + 32), qR (n + 33), qR (n + 34), qR (n + 35), qR (n + 36), qR (n + 37)], qAr 0 400 (fun _ => 0), qAr 0 384 (fun _ => 0), qAr 0 384 (fun _ => 0), qAr 0 96 (fun _ => 0), qAr 0 4 (fun _ => 0), qAr 0 4 (fun _ => 0), qAr 0 64 (fun _ => 0), qAr 0 64 (fun _ => 0), qAr 0 16 (fil dd0 16), qAr 0 16 (fun _ => 0), qAr 0 167 (qup (fun _ => 0) 164 (-1)), qAr 0 167 (fun _ => 0), qAr 0 600 (fun _ => 0), qAr 0 1002 (fun _ => 0), qAr 0 32 (fun _ => 0), qAr 0 167 (fun _ => 0), qAr 0 4 (fun _ => 0), qAr 0 4 (fun _ => 0), qAr 0 16 (fun _ => 0), qAr 0 600 (fun _ => 0), qAr 0 384 (fun _ => 0), qAr 0 384 (fun _ => 0), qAr 0 64 (fun _ => 0), qAr 0 32 (fun _ => 0), qAr 0 648 (fun _ => 0), qAr 0 648 (fun _ => 0), qAr 0 648 (fun _ => 0), qAr 0 32 (fun _ => 0), qAr 0 32 (fun _ => 0), qAr 0 32 (fun _ => 0), qAr 2 96 (fun _ => 0), qAr 1 81 (fun _ => 0), qAr 1 81 (fun _ => 0), qAr 1 8004 (fun _ => 0), qAr 0 384 (fun _ => 0), qAr 0 4 (fun _ => 0), qAr 0 32 (fun _ => 0)]
theorem i_gRf {h : qH} {n : Nat} (hn : h.1 = n) (h2 : 2 ≤ h.1) : qEx M_X12_init 0 [qR n, qU] [] (qap h 55 [qOb 12 [qI 0, qI 0, qI 0, qI 0, qI 0, qI 0, qI 0, qI 0, qN, qN, qN, qN, qN, qN, qN, qN, qN, qN, qI 0, qI 0, qI 0, qN, qN, qN, qN, qI 0, qN, qI 0, qN, qN, qN, qN, qN, qN, qN, qN, qN, qI 0, qI 0, qI 0, qI 0, qN, qN, qN, qN, qN, qN, qN, qI 0, qN, qN, qN, qN, qN, qN]]) none (qap h 15832 (gRf n)) := by
  subst hn
  show qEx _ _ _ _ _ _ (qap h 15832 [qOb 12 [qI 0, qI 0, qI 0, qI 0, qI 0, qI 0, qI 0, qI (-1), qR (h.1 + 1), qR (h.1 + 2), qR (h.1 + 3), qR (h.1 + 4), qR (h.1 + 5), qR (h.1 + 6), qR (h.1 + 7), qR (h.1 + 8), qR (h.1 + 9), qR (h.1 + 10), qI 0, qI 0, qI 0, qR (h.1 + 11), qR (h.1 + 12), qR (h.1 + 13), qR (h.1 + 14), qI 0, qR (h.1 + 15), qI 0, qR (h.1 + 16), qR (h.1 + 17), qR (h.1 + 18), qR (h.1 + 19), qR (h.1 + 20), qR (h.1 + 21), qR (h.1 + 22), qR (h.1 + 23), qR (h.1 + 24), qI 0, qI 0, qI 0, qI 0, qR (h.1 + 25), qR (h.1 + 26), qR (h.1 + 27), qR (h.1 + 28), qR (h.1 + 29), qR (h.1 + 30), qR (h.1 + 31), qI 0, qR (h.1 + 32), qR (h.1 + 33), qR (h.1 + 34), qR (h.1 + 35), qR (h.1 + 36), qR (h.1 + 37)], qAr 0 400 (fun _ => 0), qAr 0 384 (fun _ => 0), qAr 0 384 (fun _ => 0), qAr 0 96 (fun _ => 0), qAr 0 4 (fun _ => 0), qAr 0 4 (fun _ => 0), qAr 0 64 (fun _ => 0), qAr 0 64 (fun _ => 0), qAr 0 16 (fil dd0 16), qAr 0 16 (fun _ => 0), qAr 0 167 (qup (fun _ => 0) 164 (-1)), qAr 0 167 (fun _ => 0), qAr 0 600 (fun _ => 0), qAr 0 1002 (fun _ => 0), qAr 0 32 (fun _ => 0), qAr 0 167 (fun _ => 0), qAr 0 4 (fun _ => 0), qAr 0 4 (fun _ => 0), qAr 0 16 (fun _ => 0), qAr 0 600 (fun _ => 0), qAr 0 384 (fun _ => 0), qAr 0 384 (fun _ => 0), qAr 0 64 (fun _ => 0), qAr 0 32 (fun _ => 0), qAr 0 648 (fun _ => 0), qAr 0 648 (fun _ => 0), qAr 0 648 (fun _ => 0), qAr 0 32 (fun _ => 0), qAr 0 32 (fun _ => 0), qAr 0 32 (fun _ => 0), qAr 2 96 (fun _ => 0), qAr 1 81 (fun _ => 0), qAr 1 81 (fun _ => 0), qAr 1 8004 (fun _ => 0), qAr 0 384 (fun _ => 0), qAr 0 4 (fun _ => 0), qAr 0 32 (fun _ => 0)])
  refine z_aload_n d_X12_init_0 rfl rfl ?_
  refine z_objinit d_X12_init_1 lo_X12_1 lo_i lo_c (by decide) (Nat.le_of_ble_eq_true rfl) ?_
  refine z_aload_n d_X12_init_4 rfl rfl ?_
  refine z_iconst d_X12_init_5 (by decide) ?_
  refine z_putf (fs' := [qI 0, qI 0, qI 0, qI 0, qI 0, qI 0, qI 0, qI (-1), qN, qN, qN, qN, qN, qN, qN, qN, qN, qN, qI 0, qI 0, qI 0, qN, qN, qN, qN, qI 0, qN, qI 0, qN, qN, qN, qN, qN, qN, qN, qN, qN, qI 0, qI 0, qI 0, qI 0, qN, qN, qN, qN, qN, qN, qN, qI 0, qN, qN, qN, qN, qN, qN]) d_X12_init_6 fp_X12_9 (qap_at (j := 0) rfl) (fun _ => rfl) (fun _ => rfl) (Nat.le_of_ble_eq_true rfl) rfl ?_
  refine z_eq rfl rfl (qap_set (j := 0) (Nat.le_of_ble_eq_true rfl)) ?_
  show qEx M_X12_init 9 [qR h.1, qU] [] (qap h 55 [qOb 12 [qI 0, qI 0, qI 0, qI 0, qI 0, qI 0, qI 0, qI (-1), qN, qN, qN, qN, qN, qN, qN, qN, qN, qN, qI 0, qI 0, qI 0, qN, qN, qN, qN, qI 0, qN, qI 0, qN, qN, qN, qN, qN, qN, qN, qN, qN, qI 0, qI 0, qI 0, qI 0, qN, qN, qN, qN, qN, qN, qN, qI 0, qN, qN, qN, qN, qN, qN]]) none _
  refine z_aload_n d_X12_init_9 rfl rfl ?_
  refine z_sipush d_X12_init_10 (by decide) ?_
  refine z_newI d_X12_init_13 ac_int (by decide) (by decide) ?_
  refine z_eq rfl rfl qap_new ?_
  show qEx M_X12_init 15 [qR h.1, qU] [qR (h.1 + 1), qR h.1] (qap h 455 [qOb 12 [qI 0, qI 0, qI 0, qI 0, qI 0, qI 0, qI 0, qI (-1), qN, qN, qN, qN, qN, qN, qN, qN, qN, qN, qI 0, qI 0, qI 0, qN, qN, qN, qN, qI 0, qN, qI 0, qN, qN, qN, qN, qN, qN, qN, qN, qN, qI 0, qI 0, qI 0, qI 0, qN, qN, qN, qN, qN, qN, qN, qI 0, qN, qN, qN, qN, qN, qN], qAr 0 400 (fun _ => 0)]) none _
  refine z_putF (fs' := [qI 0, qI 0, qI 0, qI 0, qI 0, qI 0, qI 0, qI (-1), qR (h.1 + 1), qN, qN, qN, qN, qN, qN, qN, qN, qN, qI 0, qI 0, qI 0, qN, qN, qN, qN, qI 0, qN, qI 0, qN, qN, qN, qN, qN, qN, qN, qN, qN, qI 0, qI 0, qI 0, qI 0, qN, qN, qN, qN, qN, qN, qN, qI 0, qN, qN, qN, qN, qN, qN]) d_X12_init_15 fp_X12_13 rfl (qap_at (j := 0) rfl) (fun _ => rfl) (fun _ => rfl) (Nat.le_of_ble_eq_true rfl) rfl ?_
  refine z_eq rfl rfl (qap_set (j := 0) (Nat.le_of_ble_eq_true rfl)) ?_
  show qEx M_X12_init 18 [qR h.1, qU] [] (qap h 455 [qOb 12 [qI 0, qI 0, qI 0, qI 0, qI 0, qI 0, qI 0, qI (-1), qR (h.1 + 1), qN, qN, qN, qN, qN, qN, qN, qN, qN, qI 0, qI 0, qI 0, qN, qN, qN, qN, qI 0, qN, qI 0, qN, qN, qN, qN, qN, qN, qN, qN, qN, qI 0, qI 0, qI 0, qI 0, qN, qN, qN, qN, qN, qN, qN, qI 0, qN, qN, qN, qN, qN, qN], qAr 0 400 (fun _ => 0)]) none _
  refine z_aload_n d_X12_init_18 rfl rfl ?_
  refine z_sipush d_X12_init_19 (by decide) ?_
  refine z_newI d_X12_init_22 ac_int (by decide) (by decide) ?_
  refine z_eq rfl rfl qap_new ?_
  show qEx M_X12_init 24 [qR h.1, qU] [qR (h.1 + 2), qR h.1] (qap h 839 [qOb 12 [qI 0, qI 0, qI 0, qI 0, qI 0, qI 0, qI 0, qI (-1), qR (h.1 + 1), qN, qN, qN, qN, qN, qN, qN, qN, qN, qI 0, qI 0, qI 0, qN, qN, qN, qN, qI 0, qN, qI 0, qN, qN, qN, qN, qN, qN, qN, qN, qN, qI 0, qI 0, qI 0, qI 0, qN, qN, qN, qN, qN, qN, qN, qI 0, qN, qN, qN, qN, qN, qN], qAr 0 400 (fun _ => 0), qAr 0 384 (fun _ => 0)]) none _
  refine z_putF (fs' := [qI 0, qI 0, qI 0, qI 0, qI 0, qI 0, qI 0, qI (-1), qR (h.1 + 1), qR (h.1 + 2), qN, qN, qN, qN, qN, qN, qN, qN, qI 0, qI 0, qI 0, qN, qN, qN, qN, qI 0, qN, qI 0, qN, qN, qN, qN, qN, qN, qN, qN, qN, qI 0, qI 0, qI 0, qI 0, qN, qN, qN, qN, qN, qN, qN, qI 0, qN, qN, qN, qN, qN, qN]) d_X12_init_24 fp_X12_17 rfl (qap_at (j := 0) rfl) (fun _ => rfl) (fun _ => rfl) (Nat.le_of_ble_eq_true rfl) rfl ?_
  refine z_eq rfl rfl (qap_set (j := 0) (Nat.le_of_ble_eq_true rfl)) ?_
  show qEx M_X12_init 27 [qR h.1, qU] [] (qap h 839 [qOb 12 [qI 0, qI 0, qI 0, qI 0, qI 0, qI 0, qI 0, qI (-1), qR (h.1 + 1), qR (h.1 + 2), qN, qN, qN, qN, qN, qN, qN, qN, qI 0, qI 0, qI 0, qN, qN, qN, qN, qI 0, qN, qI 0, qN, qN, qN, qN, qN, qN, qN, qN, qN, qI 0, qI 0, qI 0, qI 0, qN, qN, qN, qN, qN, qN, qN, qI 0, qN, qN, qN, qN, qN, qN], qAr 0 400 (fun _ => 0), qAr 0 384 (fun _ => 0)]) none _
  refine z_aload_n d_X12_init_27 rfl rfl ?_
  refine z_sipush d_X12_init_28 (by decide) ?_
  refine z_newI d_X12_init_31 ac_int (by decide) (by decide) ?_
  refine z_eq rfl rfl qap_new ?_
  show qEx M_X12_init 33 [qR h.1, qU] [qR (h.1 + 3), qR h.1] (qap h 1223 [qOb 12 [qI 0, qI 0, qI 0, qI 0, qI 0, qI 0, qI 0, qI (-1), qR (h.1 + 1), qR (h.1 + 2), qN, qN, qN, qN, qN, qN, qN, qN, qI 0, qI 0, qI 0, qN, qN, qN, qN, qI 0, qN, qI 0, qN, qN, qN, qN, qN, qN, qN, qN, qN, qI 0, qI 0, qI 0, qI 0, qN, qN, qN, qN, qN, qN, qN, qI 0, qN, qN, qN, qN, qN, qN], qAr 0 400 (fun _ => 0), qAr 0 384 (fun _ => 0), qAr 0 384 (fun _ => 0)]) none _
  refine z_putF (fs' := [qI 0, qI 0, qI 0, qI 0, qI 0, qI 0, qI 0, qI (-1), qR (h.1 + 1), qR (h.1 + 2), qR (h.1 + 3), qN, qN, qN, qN, qN, qN, qN, qI 0, qI 0, qI 0, qN, qN, qN, qN, qI 0, qN, qI 0, qN, qN, qN, qN, qN, qN, qN, qN, qN, qI 0, qI 0, qI 0, qI 0, qN, qN, qN, qN, qN, qN, qN, qI 0, qN, qN, qN, qN, qN, qN]) d_X12_init_33 fp_X12_20 rfl (qap_at (j := 0) rfl) (fun _ => rfl) (fun _ => rfl) (Nat.le_of_ble_eq_true rfl) rfl ?_
  refine z_eq rfl rfl (qap_set (j := 0) (Nat.le_of_ble_eq_true rfl)) ?_
  show qEx M_X12_init 36 [qR h.1, qU] [] (qap h 1223 [qOb 12 [qI 0, qI 0, qI 0, qI 0, qI 0, qI 0, qI 0, qI (-1), qR (h.1 + 1), qR (h.1 + 2), qR (h.1 + 3), qN, qN, qN, qN, qN, qN, qN, qI 0, qI 0, qI 0, qN, qN, qN, qN, qI 0, qN, qI 0, qN, qN, qN, qN, qN, qN, qN, qN, qN, qI 0, qI 0, qI 0, qI 0, qN, qN, qN, qN, qN, qN, qN, qI 0, qN, qN, qN, qN, qN, qN], qAr 0 400 (fun _ => 0), qAr 0 384 (fun _ => 0), qAr 0 384 (fun _ => 0)]) none _
  refine z_aload_n d_X12_init_36 rfl rfl ?_
  refine z_bipush d_X12_init_37 (by decide) ?_
  refine z_newI d_X12_init_39 ac_int (by decide) (by decide) ?_
  refine z_eq rfl rfl qap_new ?_
  show qEx M_X12_init 41 [qR h.1, qU] [qR (h.1 + 4), qR h.1] (qap h 1319 [qOb 12 [qI 0, qI 0, qI 0, qI 0, qI 0, qI 0, qI 0, qI (-1), qR (h.1 + 1), qR (h.1 + 2), qR (h.1 + 3), qN, qN, qN, qN, qN, qN, qN, qI 0, qI 0, qI 0, qN, qN, qN, qN, qI 0, qN, qI 0, qN, qN, qN, qN, qN, qN, qN, qN, qN, qI 0, qI 0, qI 0, qI 0, qN, qN, qN, qN, qN, qN, qN, qI 0, qN, qN, qN, qN, qN, qN], qAr 0 400 (fun _ => 0), qAr 0 384 (fun _ => 0), qAr 0 384 (fun _ => 0), qAr 0 96 (fun _ => 0)]) none _
  refine z_putF (fs' := [qI 0, qI 0, qI 0, qI 0, qI 0, qI 0, qI 0, qI (-1), qR (h.1 + 1), qR (h.1 + 2), qR (h.1 + 3), qR (h.1 + 4), qN, qN, qN, qN, qN, qN, qI 0, qI 0, qI 0, qN, qN, qN, qN, qI 0, qN, qI 0, qN, qN, qN, qN, qN, qN, qN, qN, qN, qI 0, qI 0, qI 0, qI 0, qN, qN, qN, qN, qN, qN, qN, qI 0, qN, qN, qN, qN, qN, qN]) d_X12_init_41 fp_X12_23 rfl (qap_at (j := 0) rfl) (fun _ => rfl) (fun _ => rfl) (Nat.le_of_ble_eq_true rfl) rfl ?_
  refine z_eq rfl rfl (qap_set (j := 0) (Nat.le_of_ble_eq_true rfl)) ?_
  show qEx M_X12_init 44 [qR h.1, qU] [] (qap h 1319 [qOb 12 [qI 0, qI 0, qI 0, qI 0, qI 0, qI 0, qI 0, qI (-1), qR (h.1 + 1), qR (h.1 + 2), qR (h.1 + 3), qR (h.1 + 4), qN, qN, qN, qN, qN, qN, qI 0, qI 0, qI 0, qN, qN, qN, qN, qI 0, qN, qI 0, qN, qN, qN, qN, qN, qN, qN, qN, qN, qI 0, qI 0, qI 0, qI 0, qN, qN, qN, qN, qN, qN, qN, qI 0, qN, qN, qN, qN, qN, qN], qAr 0 400 (fun _ => 0), qAr 0 384 (fun _ => 0), qAr 0 384 (fun _ => 0), qAr 0 96 (fun _ => 0)]) none _
  refine z_aload_n d_X12_init_44 rfl rfl ?_
  refine z_iconst d_X12_init_45 (by decide) ?_
  refine z_newI d_X12_init_46 ac_int (by decide) (by decide) ?_
  refine z_eq rfl rfl qap_new ?_
  show qEx M_X12_init 48 [qR h.1, qU] [qR (h.1 + 5), qR h.1] (qap h 1323 [qOb 12 [qI 0, qI 0, qI 0, qI 0, qI 0, qI 0, qI 0, qI (-1), qR (h.1 + 1), qR (h.1 + 2), qR (h.1 + 3), qR (h.1 + 4), qN, qN, qN, qN, qN, qN, qI 0, qI 0, qI 0, qN, qN, qN, qN, qI 0, qN, qI 0, qN, qN, qN, qN, qN, qN, qN, qN, qN, qI 0, qI 0, qI 0, qI 0, qN, qN, qN, qN, qN, qN, qN, qI 0, qN, qN, qN, qN, qN, qN], qAr 0 400 (fun _ => 0), qAr 0 384 (fun _ => 0), qAr 0 384 (fun _ => 0), qAr 0 96 (fun _ => 0), qAr 0 4 (fun _ => 0)]) none _
  refine z_putF (fs' := [qI 0, qI 0, qI 0, qI 0, qI 0, qI 0, qI 0, qI (-1), qR (h.1 + 1), qR (h.1 + 2), qR (h.1 + 3), qR (h.1 + 4), qR (h.1 + 5), qN, qN, qN, qN, qN, qI 0, qI 0, qI 0, qN, qN, qN, qN, qI 0, qN, qI 0, qN, qN, qN, qN, qN, qN, qN, qN, qN, qI 0, qI 0, qI 0, qI 0, qN, qN, qN, qN, qN, qN, qN, qI 0, qN, qN, qN, qN, qN, qN]) d_X12_init_48 fp_X12_26 rfl (qap_at (j := 0) rfl) (fun _ => rfl) (fun _ => rfl) (Nat.le_of_ble_eq_true rfl) rfl ?_
  refine z_eq rfl rfl (qap_set (j := 0) (Nat.le_of_ble_eq_true rfl)) ?_
  show qEx M_X12_init 51 [qR h.1, qU] [] (qap h 1323 [qOb 12 [qI 0, qI 0, qI 0, qI 0, qI 0, qI 0, qI 0, qI (-1), qR (h.1 + 1), qR (h.1 + 2), qR (h.1 + 3), qR (h.1 + 4), qR (h.1 + 5), qN, qN, qN, qN, qN, qI 0, qI 0, qI 0, qN, qN, qN, qN, qI 0, qN, qI 0, qN, qN, qN, qN, qN, qN, qN, qN, qN, qI 0, qI 0, qI 0, qI 0, qN, qN, qN, qN, qN, qN, qN, qI 0, qN, qN, qN, qN, qN, qN], qAr 0 400 (fun _ => 0), qAr 0 384 (fun _ => 0), qAr 0 384 (fun _ => 0), qAr 0 96 (fun _ => 0), qAr 0 4 (fun _ => 0)]) none _
  refine z_aload_n d_X12_init_51 rfl rfl ?_
  refine z_iconst d_X12_init_52 (by decide) ?_
  refine z_newI d_X12_init_53 ac_int (by decide) (by decide) ?_
  refine z_eq rfl rfl qap_new ?_
  show qEx M_X12_init 55 [qR h.1, qU] [qR (h.1 + 6), qR h.1] (qap h 1327 [qOb 12 [qI 0, qI 0, qI 0, qI 0, qI 0, qI 0, qI 0, qI (-1), qR (h.1 + 1), qR (h.1 + 2), qR (h.1 + 3), qR (h.1 + 4), qR (h.1 + 5), qN, qN, qN, qN, qN, qI 0, qI 0, qI 0, qN, qN, qN, qN, qI 0, qN, qI 0, qN, qN, qN, qN, qN, qN, qN, qN, qN, qI 0, qI 0, qI 0, qI 0, qN, qN, qN, qN, qN, qN, qN, qI 0, qN, qN, qN, qN, qN, qN], qAr 0 400 (fun _ => 0), qAr 0 384 (fun _ => 0), qAr 0 384 (fun _ => 0), qAr 0 96 (fun _ => 0), qAr 0 4 (fun _ => 0), qAr 0 4 (fun _ => 0)]) none _
  refine z_putF (fs' := [qI 0, qI 0, qI 0, qI 0, qI 0, qI 0, qI 0, qI (-1), qR (h.1 + 1), qR (h.1 + 2), qR (h.1 + 3), qR (h.1 + 4), qR (h.1 + 5), qR (h.1 + 6), qN, qN, qN, qN, qI 0, qI 0, qI 0, qN, qN, qN, qN, qI 0, qN, qI 0, qN, qN, qN, qN, qN, qN, qN, qN, qN, qI 0, qI 0, qI 0, qI 0, qN, qN, qN, qN, qN, qN, qN, qI 0, qN, qN, qN, qN, qN, qN]) d_X12_init_55 fp_X12_29 rfl (qap_at (j := 0) rfl) (fun _ => rfl) (fun _ => rfl) (Nat.le_of_ble_eq_true rfl) rfl ?_
  refine z_eq rfl rfl (qap_set (j := 0) (Nat.le_of_ble_eq_true rfl)) ?_
  show qEx M_X12_init 58 [qR h.1, qU] [] (qap h 1327 [qOb 12 [qI 0, qI 0, qI 0, qI 0, qI 0, qI 0, qI 0, qI (-1), qR (h.1 + 1), qR (h.1 + 2), qR (h.1 + 3), qR (h.1 + 4), qR (h.1 + 5), qR (h.1 + 6), qN, qN, qN, qN, qI 0, qI 0, qI 0, qN, qN, qN, qN, qI 0, qN, qI 0, qN, qN, qN, qN, qN, qN, qN, qN, qN, qI 0, qI 0, qI 0, qI 0, qN, qN, qN, qN, qN, qN, qN, qI 0, qN, qN, qN, qN, qN, qN], qAr 0 400 (fun _ => 0), qAr 0 384 (fun _ => 0), qAr 0 384 (fun _ => 0), qAr 0 96 (fun _ => 0), qAr 0 4 (fun _ => 0), qAr 0 4 (fun _ => 0)]) none _
  refine z_aload_n d_X12_init_58 rfl rfl ?_
  refine z_bipush d_X12_init_59 (by decide) ?_
  refine z_newI d_X12_init_61 ac_int (by decide) (by decide) ?_
  refine z_eq rfl rfl qap_new ?_
  show qEx M_X12_init 63 [qR h.1, qU] [qR (h.1 + 7), qR h.1] (qap h 1391 [qOb 12 [qI 0, qI 0, qI 0, qI 0, qI 0, qI 0, qI 0, qI (-1), qR (h.1 + 1), qR (h.1 + 2), qR (h.1 + 3), qR (h.1 + 4), qR (h.1 + 5), qR (h.1 + 6), qN, qN, qN, qN, qI 0, qI 0, qI 0, qN, qN, qN, qN, qI 0, qN, qI 0, qN, qN, qN, qN, qN, qN, qN, qN, qN, qI 0, qI 0, qI 0, qI 0, qN, qN, qN, qN, qN, qN, qN, qI 0, qN, qN, qN, qN, qN, qN], qAr 0 400 (fun _ => 0), qAr 0 384 (fun _ => 0), qAr 0 384 (fun _ => 0), qAr 0 96 (fun _ => 0), qAr 0 4 (fun _ => 0), qAr 0 4 (fun _ => 0), qAr 0 64 (fun _ => 0)]) none _
  refine z_putF (fs' := [qI 0, qI 0, qI 0, qI 0, qI 0, qI 0, qI 0, qI (-1), qR (h.1 + 1), qR (h.1 + 2), qR (h.1 + 3), qR (h.1 + 4), qR (h.1 + 5), qR (h.1 + 6), qR (h.1 + 7), qN, qN, qN, qI 0, qI 0, qI 0, qN, qN, qN, qN, qI 0, qN, qI 0, qN, qN, qN, qN, qN, qN, qN, qN, qN, qI 0, qI 0, qI 0, qI 0, qN, qN, qN, qN, qN, qN, qN, qI 0, qN, qN, qN, qN, qN, qN]) d_X12_init_63 fp_X12_32 rfl (qap_at (j := 0) rfl) (fun _ => rfl) (fun _ => rfl) (Nat.le_of_ble_eq_true rfl) rfl ?_
  refine z_eq rfl rfl (qap_set (j := 0) (Nat.le_of_ble_eq_true rfl)) ?_
  show qEx M_X12_init 66 [qR h.1, qU] [] (qap h 1391 [qOb 12 [qI 0, qI 0, qI 0, qI 0, qI 0, qI 0, qI 0, qI (-1), qR (h.1 + 1), qR (h.1 + 2), qR (h.1 + 3), qR (h.1 + 4), qR (h.1 + 5), qR (h.1 + 6), qR (h.1 + 7), qN, qN, qN, qI 0, qI 0, qI 0, qN, qN, qN, qN, qI 0, qN, qI 0, qN, qN, qN, qN, qN, qN, qN, qN, qN, qI 0, qI 0, qI 0, qI 0, qN, qN, qN, qN, qN, qN, qN, qI 0, qN, qN, qN, qN, qN, qN], qAr 0 400 (fun _ => 0), qAr 0 384 (fun _ => 0), qAr 0 384 (fun _ => 0), qAr 0 96 (fun _ => 0), qAr 0 4 (fun _ => 0), qAr 0 4 (fun _ => 0), qAr 0 64 (fun _ => 0)]) none _
  refine z_aload_n d_X12_init_66 rfl rfl ?_
  refine z_bipush d_X12_init_67 (by decide) ?_
  refine z_newI d_X12_init_69 ac_int (by decide) (by decide) ?_
  refine z_eq rfl rfl qap_new ?_
  show qEx M_X12_init 71 [qR h.1, qU] [qR (h.1 + 8), qR h.1] (qap h 1455 [qOb 12 [qI 0, qI 0, qI 0, qI 0, qI 0, qI 0, qI 0, qI (-1), qR (h.1 + 1), qR (h.1 + 2), qR (h.1 + 3), qR (h.1 + 4), qR (h.1 + 5), qR (h.1 + 6), qR (h.1 + 7), qN, qN, qN, qI 0, qI 0, qI 0, qN, qN, qN, qN, qI 0, qN, qI 0, qN, qN, qN, qN, qN, qN, qN, qN, qN, qI 0, qI 0, qI 0, qI 0, qN, qN, qN, qN, qN, qN, qN, qI 0, qN, qN, qN, qN, qN, qN], qAr 0 400 (fun _ => 0), qAr 0 384 (fun _ => 0), qAr 0 384 (fun _ => 0), qAr 0 96 (fun _ => 0), qAr 0 4 (fun _ => 0), qAr 0 4 (fun _ => 0), qAr 0 64 (fun _ => 0), qAr 0 64 (fun _ => 0)]) none _
  refine z_putF (fs' := [qI 0, qI 0, qI 0, qI 0, qI 0, qI 0, qI 0, qI (-1), qR (h.1 + 1), qR (h.1 + 2), qR (h.1 + 3), qR (h.1 + 4), qR (h.1 + 5), qR (h.1 + 6), qR (h.1 + 7), qR (h.1 + 8), qN, qN, qI 0, qI 0, qI 0, qN, qN, qN, qN, qI 0, qN, qI 0, qN, qN, qN, qN, qN, qN, qN, qN, qN, qI 0, qI 0, qI 0, qI 0, qN, qN, qN, qN, qN, qN, qN, qI 0, qN, qN, qN, qN, qN, qN]) d_X12_init_71 fp_X12_35 rfl (qap_at (j := 0) rfl) (fun _ => rfl) (fun _ => rfl) (Nat.le_of_ble_eq_true rfl) rfl ?_
  refine z_eq rfl rfl (qap_set (j := 0) (Nat.le_of_ble_eq_true rfl)) ?_
  show qEx M_X12_init 74 [qR h.1, qU] [] (qap h 1455 [qOb 12 [qI 0, qI 0, qI 0, qI 0, qI 0, qI 0, qI 0, qI (-1), qR (h.1 + 1), qR (h.1 + 2), qR (h.1 + 3), qR (h.1 + 4), qR (h.1 + 5), qR (h.1 + 6), qR (h.1 + 7), qR (h.1 + 8), qN, qN, qI 0, qI 0, qI 0, qN, qN, qN, qN, qI 0, qN, qI 0, qN, qN, qN, qN, qN, qN, qN, qN, qN, qI 0, qI 0, qI 0, qI 0, qN, qN, qN, qN, qN, qN, qN, qI 0, qN, qN, qN, qN, qN, qN], qAr 0 400 (fun _ => 0), qAr 0 384 (fun _ => 0), qAr 0 384 (fun _ => 0), qAr 0 96 (fun _ => 0), qAr 0 4 (fun _ => 0), qAr 0 4 (fun _ => 0), qAr 0 64 (fun _ => 0), qAr 0 64 (fun _ => 0)]) none _
  refine z_aload_n d_X12_init_74 rfl rfl ?_
  refine z_bipush d_X12_init_75 (by decide) ?_
  refine z_newI d_X12_init_77 ac_int (by decide) (by decide) ?_
  refine z_eq rfl rfl qap_new ?_
  show qEx M_X12_init 79 [qR h.1, qU] [qR (h.1 + 9), qR h.1] (qap h 1471 [qOb 12 [qI 0, qI 0, qI 0, qI 0, qI 0, qI 0, qI 0, qI (-1), qR (h.1 + 1), qR (h.1 + 2), qR (h.1 + 3), qR (h.1 + 4), qR (h.1 + 5), qR (h.1 + 6), qR (h.1 + 7), qR (h.1 + 8), qN, qN, qI 0, qI 0, qI 0, qN, qN, qN, qN, qI 0, qN, qI 0, qN, qN, qN, qN, qN, qN, qN, qN, qN, qI 0, qI 0, qI 0, qI 0, qN, qN, qN, qN, qN, qN, qN, qI 0, qN, qN, qN, qN, qN, qN], qAr 0 400 (fun _ => 0), qAr 0 384 (fun _ => 0), qAr 0 384 (fun _ => 0), qAr 0 96 (fun _ => 0), qAr 0 4 (fun _ => 0), qAr 0 4 (fun _ => 0), qAr 0 64 (fun _ => 0), qAr 0 64 (fun _ => 0), qAr 0 16 (fun _ => 0)]) none _
  refine z_putF (fs' := [qI 0, qI 0, qI 0, qI 0, qI 0, qI 0, qI 0, qI (-1), qR (h.1 + 1), qR (h.1 + 2), qR (h.1 + 3), qR (h.1 + 4), qR (h.1 + 5), qR (h.1 + 6), qR (h.1 + 7), qR (h.1 + 8), qR (h.1 + 9), qN, qI 0, qI 0, qI 0, qN, qN, qN, qN, qI 0, qN, qI 0, qN, qN, qN, qN, qN, qN, qN, qN, qN, qI 0, qI 0, qI 0, qI 0, qN, qN, qN, qN, qN, qN, qN, qI 0, qN, qN, qN, qN, qN, qN]) d_X12_init_79 fp_X12_38 rfl (qap_at (j := 0) rfl) (fun _ => rfl) (fun _ => rfl) (Nat.le_of_ble_eq_true rfl) rfl ?_
  refine z_eq rfl rfl (qap_set (j := 0) (Nat.le_of_ble_eq_true rfl)) ?_
  show qEx M_X12_init 82 [qR h.1, qU] [] (qap h 1471 [qOb 12 [qI 0, qI 0, qI 0, qI 0, qI 0, qI 0, qI 0, qI (-1), qR (h.1 + 1), qR (h.1 + 2), qR (h.1 + 3), qR (h.1 + 4), qR (h.1 + 5), qR (h.1 + 6), qR (h.1 + 7), qR (h.1 + 8), qR (h.1 + 9), qN, qI 0, qI 0, qI 0, qN, qN, qN, qN, qI 0, qN, qI 0, qN, qN, qN, qN, qN, qN, qN, qN, qN, qI 0, qI 0, qI 0, qI 0, qN, qN, qN, qN, qN, qN, qN, qI 0, qN, qN, qN, qN, qN, qN], qAr 0 400 (fun _ => 0), qAr 0 384 (fun _ => 0), qAr 0 384 (fun _ => 0), qAr 0 96 (fun _ => 0), qAr 0 4 (fun _ => 0), qAr 0 4 (fun _ => 0), qAr 0 64 (fun _ => 0), qAr 0 64 (fun _ => 0), qAr 0 16 (fun _ => 0)]) none _
  refine z_aload_n d_X12_init_82 rfl rfl ?_
  refine z_bipush d_X12_init_83 (by decide) ?_
  refine z_newI d_X12_init_85 ac_int (by decide) (by decide) ?_
  refine z_eq rfl rfl qap_new ?_
  show qEx M_X12_init 87 [qR h.1, qU] [qR (h.1 + 10), qR h.1] (qap h 1487 [qOb 12 [qI 0, qI 0, qI 0, qI 0, qI 0, qI 0, qI 0, qI (-1), qR (h.1 + 1), qR (h.1 + 2), qR (h.1 + 3), qR (h.1 + 4), qR (h.1 + 5), qR (h.1 + 6), qR (h.1 + 7), qR (h.1 + 8), qR (h.1 + 9), qN, qI 0, qI 0, qI 0, qN, qN, qN, qN, qI 0, qN, qI 0, qN, qN, qN, qN, qN, qN, qN, qN, qN, qI 0, qI 0, qI 0, qI 0, qN, qN, qN, qN, qN, qN, qN, qI 0, qN, qN, qN, qN, qN, qN], qAr 0 400 (fun _ => 0), qAr 0 384 (fun _ => 0), qAr 0 384 (fun _ => 0), qAr 0 96 (fun _ => 0), qAr 0 4 (fun _ => 0), qAr 0 4 (fun _ => 0), qAr 0 64 (fun _ => 0), qAr 0 64 (fun _ => 0), qAr 0 16 (fun _ => 0), qAr 0 16 (fun _ => 0)]) none _
  refine z_putF (fs' := [qI 0, qI 0, qI 0, qI 0, qI 0, qI 0, qI 0, qI (-1), qR (h.1 + 1), qR (h.1 + 2), qR (h.1 + 3), qR (h.1 + 4), qR (h.1 + 5), qR (h.1 + 6), qR (h.1 + 7), qR (h.1 + 8), qR (h.1 + 9), qR (h.1 + 10), qI 0, qI 0, qI 0, qN, qN, qN, qN, qI 0, qN, qI 0, qN, qN, qN, qN, qN, qN, qN, qN, qN, qI 0, qI 0, qI 0, qI 0, qN, qN, qN, qN, qN, qN, qN, qI 0, qN, qN, qN, qN, qN, qN]) d_X12_init_87 fp_X12_41 rfl (qap_at (j := 0) rfl) (fun _ => rfl) (fun _ => rfl) (Nat.le_of_ble_eq_true rfl) rfl ?_
  refine z_eq rfl rfl (qap_set (j := 0) (Nat.le_of_ble_eq_true rfl)) ?_
  show qEx M_X12_init 90 [qR h.1, qU] [] (qap h 1487 [qOb 12 [qI 0, qI 0, qI 0, qI 0, qI 0, qI 0, qI 0, qI (-1), qR (h.1 + 1), qR (h.1 + 2), qR (h.1 + 3), qR (h.1 + 4), qR (h.1 + 5), qR (h.1 + 6), qR (h.1 + 7), qR (h.1 + 8), qR (h.1 + 9), qR (h.1 + 10), qI 0, qI 0, qI 0, qN, qN, qN, qN, qI 0, qN, qI 0, qN, qN, qN, qN, qN, qN, qN, qN, qN, qI 0, qI 0, qI 0, qI 0, qN, qN, qN, qN, qN, qN, qN, qI 0, qN, qN, qN, qN, qN, qN], qAr 0 400 (fun _ => 0), qAr 0 384 (fun _ => 0), qAr 0 384 (fun _ => 0), qAr 0 96 (fun _ => 0), qAr 0 4 (fun _ => 0), qAr 0 4 (fun _ => 0), qAr 0 64 (fun _ => 0), qAr 0 64 (fun _ => 0), qAr 0 16 (fun _ => 0), qAr 0 16 (fun _ => 0)]) none _
  refine z_aload_n d_X12_init_90 rfl rfl ?_
  refine z_sipush d_X12_init_91 (by decide) ?_
  refine z_newI d_X12_init_94 ac_int (by decide) (by decide) ?_
  refine z_eq rfl rfl qap_new ?_
  show qEx M_X12_init 96 [qR h.1, qU] [qR (h.1 + 11), qR h.1] (qap h 1654 [qOb 12 [qI 0, qI 0, qI 0, qI 0, qI 0, qI 0, qI 0, qI (-1), qR (h.1 + 1), qR (h.1 + 2), qR (h.1 + 3), qR (h.1 + 4), qR (h.1 + 5), qR (h.1 + 6), qR (h.1 + 7), qR (h.1 + 8), qR (h.1 + 9), qR (h.1 + 10), qI 0, qI 0, qI 0, qN, qN, qN, qN, qI 0, qN, qI 0, qN, qN, qN, qN, qN, qN, qN, qN, qN, qI 0, qI 0, qI 0, qI 0, qN, qN, qN, qN, qN, qN, qN, qI 0, qN, qN, qN, qN, qN, qN], qAr 0 400 (fun _ => 0), qAr 0 384 (fun _ => 0), qAr 0 384 (fun _ => 0), qAr 0 96 (fun _ => 0), qAr 0 4 (fun _ => 0), qAr 0 4 (fun _ => 0), qAr 0 64 (fun _ => 0), qAr 0 64 (fun _ => 0), qAr 0 16 (fun _ => 0), qAr 0 16 (fun _ => 0), qAr 0 167 (fun _ => 0)]) none _
  refine z_putF (fs' := [qI 0, qI 0, qI 0, qI 0, qI 0, qI 0, qI 0, qI (-1), qR (h.1 + 1), qR (h.1 + 2), qR (h.1 + 3), qR (h.1 + 4), qR (h.1 + 5), qR (h.1 + 6), qR (h.1 + 7), qR (h.1 + 8), qR (h.1 + 9), qR (h.1 + 10), qI 0, qI 0, qI 0, qR (h.1 + 11), qN, qN, qN, qI 0, qN, qI 0, qN, qN, qN, qN, qN, qN, qN, qN, qN, qI 0, qI 0, qI 0, qI 0, qN, qN, qN, qN, qN, qN, qN, qI 0, qN, qN, qN, qN, qN, qN]) d_X12_init_96 fp_X12_44 rfl (qap_at (j := 0) rfl) (fun _ => rfl) (fun _ => rfl) (Nat.le_of_ble_eq_true rfl) rfl ?_
  refine z_eq rfl rfl (qap_set (j := 0) (Nat.le_of_ble_eq_true rfl)) ?_
  show qEx M_X12_init 99 [qR h.1, qU] [] (qap h 1654 [qOb 12 [qI 0, qI 0, qI 0, qI 0, qI 0, qI 0, qI 0, qI (-1), qR (h.1 + 1), qR (h.1 + 2), qR (h.1 + 3), qR (h.1 + 4), qR (h.1 + 5), qR (h.1 + 6), qR (h.1 + 7), qR (h.1 + 8), qR (h.1 + 9), qR (h.1 + 10), qI 0, qI 0, qI 0, qR (h.1 + 11), qN, qN, qN, qI 0, qN, qI 0, qN, qN, qN, qN, qN, qN, qN, qN, qN, qI 0, qI 0, qI 0, qI 0, qN, qN, qN, qN, qN, qN, qN, qI 0, qN, qN, qN, qN, qN, qN], qAr 0 400 (fun _ => 0), qAr 0 384 (fun _ => 0), qAr 0 384 (fun _ => 0), qAr 0 96 (fun _ => 0), qAr 0 4 (fun _ => 0), qAr 0 4 (fun _ => 0), qAr 0 64 (fun _ => 0), qAr 0 64 (fun _ => 0), qAr 0 16 (fun _ => 0), qAr 0 16 (fun _ => 0), qAr 0 167 (fun _ => 0)]) none _
  refine z_aload_n d_X12_init_99 rfl rfl ?_
  refine z_sipush d_X12_init_100 (by decide) ?_
  refine z_newI d_X12_init_103 ac_int (by decide) (by decide) ?_
  refine z_eq rfl rfl qap_new ?_
  show qEx M_X12_init 105 [qR h.1, qU] [qR (h.1 + 12), qR h.1] (qap h 1821 [qOb 12 [qI 0, qI 0, qI 0, qI 0, qI 0, qI 0, qI 0, qI (-1), qR (h.1 + 1), qR (h.1 + 2), qR (h.1 + 3), qR (h.1 + 4), qR (h.1 + 5), qR (h.1 + 6), qR (h.1 + 7), qR (h.1 + 8), qR (h.1 + 9), qR (h.1 + 10), qI 0, qI 0, qI 0, qR (h.1 + 11), qN, qN, qN, qI 0, qN, qI 0, qN, qN, qN, qN, qN, qN, qN, qN, qN, qI 0, qI 0, qI 0, qI 0, qN, qN, qN, qN, qN, qN, qN, qI 0, qN, qN, qN, qN, qN, qN], qAr 0 400 (fun _ => 0), qAr 0 384 (fun _ => 0), qAr 0 384 (fun _ => 0), qAr 0 96 (fun _ => 0), qAr 0 4 (fun _ => 0), qAr 0 4 (fun _ => 0), qAr 0 64 (fun _ => 0), qAr 0 64 (fun _ => 0), qAr 0 16 (fun _ => 0), qAr 0 16 (fun _ => 0), qAr 0 167 (fun _ => 0), qAr 0 167 (fun _ => 0)]) none _
  refine z_putF (fs' := [qI 0, qI 0, qI 0, qI 0, qI 0, qI 0, qI 0, qI (-1), qR (h.1 + 1), qR (h.1 + 2), qR (h.1 + 3), qR (h.1 + 4), qR (h.1 + 5), qR (h.1 + 6), qR (h.1 + 7), qR (h.1 + 8), qR (h.1 + 9), qR (h.1 + 10), qI 0, qI 0, qI 0, qR (h.1 + 11), qR (h.1 + 12), qN, qN, qI 0, qN, qI 0, qN, qN, qN, qN, qN, qN, qN, qN, qN, qI 0, qI 0, qI 0, qI 0, qN, qN, qN, qN, qN, qN, qN, qI 0, qN, qN, qN, qN, qN, qN]) d_X12_init_105 fp_X12_47 rfl (qap_at (j := 0) rfl) (fun _ => rfl) (fun _ => rfl) (Nat.le_of_ble_eq_true rfl) rfl ?_
  refine z_eq rfl rfl (qap_set (j := 0) (Nat.le_of_ble_eq_true rfl)) ?_
  show qEx M_X12_init 108 [qR h.1, qU] [] (qap h 1821 [qOb 12 [qI 0, qI 0, qI 0, qI 0, qI 0, qI 0, qI 0, qI (-1), qR (h.1 + 1), qR (h.1 + 2), qR (h.1 + 3), qR (h.1 + 4), qR (h.1 + 5), qR (h.1 + 6), qR (h.1 + 7), qR (h.1 + 8), qR (h.1 + 9), qR (h.1 + 10), qI 0, qI 0, qI 0, qR (h.1 + 11), qR (h.1 + 12), qN, qN, qI 0, qN, qI 0, qN, qN, qN, qN, qN, qN, qN, qN, qN, qI 0, qI 0, qI 0, qI 0, qN, qN, qN, qN, qN, qN, qN, qI 0, qN, qN, qN, qN, qN, qN], qAr 0 400 (fun _ => 0), qAr 0 384 (fun _ => 0), qAr 0 384 (fun _ => 0), qAr 0 96 (fun _ => 0), qAr 0 4 (fun _ => 0), qAr 0 4 (fun _ => 0), qAr 0 64 (fun _ => 0), qAr 0 64 (fun _ => 0), qAr 0 16 (fun _ => 0), qAr 0 16 (fun _ => 0), qAr 0 167 (fun _ => 0), qAr 0 167 (fun _ => 0)]) none _
  refine z_aload_n d_X12_init_108 rfl rfl ?_
  refine z_sipush d_X12_init_109 (by decide) ?_
  refine z_newI d_X12_init_112 ac_int (by decide) (by decide) ?_
  refine z_eq rfl rfl qap_new ?_
  show qEx M_X12_init 114 [qR h.1, qU] [qR (h.1 + 13), qR h.1] (qap h 2421 [qOb 12 [qI 0, qI 0, qI 0, qI 0, qI 0, qI 0, qI 0, qI (-1), qR (h.1 + 1), qR (h.1 + 2), qR (h.1 + 3), qR (h.1 + 4), qR (h.1 + 5), qR (h.1 + 6), qR (h.1 + 7), qR (h.1 + 8), qR (h.1 + 9), qR (h.1 + 10), qI 0, qI 0, qI 0, qR (h.1 + 11), qR (h.1 + 12), qN, qN, qI 0, qN, qI 0, qN, qN, qN, qN, qN, qN, qN, qN, qN, qI 0, qI 0, qI 0, qI 0, qN, qN, qN, qN, qN, qN, qN, qI 0, qN, qN, qN, qN, qN, qN], qAr 0 400 (fun _ => 0), qAr 0 384 (fun _ => 0), qAr 0 384 (fun _ => 0), qAr 0 96 (fun _ => 0), qAr 0 4 (fun _ => 0), qAr 0 4 (fun _ => 0), qAr 0 64 (fun _ => 0), qAr 0 64 (fun _ => 0), qAr 0 16 (fun _ => 0), qAr 0 16 (fun _ => 0), qAr 0 167 (fun _ => 0), qAr 0 167 (fun _ => 0), qAr 0 600 (fun _ => 0)]) none _
  refine z_putF (fs' := [qI 0, qI 0, qI 0, qI 0, qI 0, qI 0, qI 0, qI (-1), qR (h.1 + 1), qR (h.1 + 2), qR (h.1 + 3), qR (h.1 + 4), qR (h.1 + 5), qR (h.1 + 6), qR (h.1 + 7), qR (h.1 + 8), qR (h.1 + 9), qR (h.1 + 10), qI 0, qI 0, qI 0, qR (h.1 + 11), qR (h.1 + 12), qR (h.1 + 13), qN, qI 0, qN, qI 0, qN, qN, qN, qN, qN, qN, qN, qN, qN, qI 0, qI 0, qI 0, qI 0, qN, qN, qN, qN, qN, qN, qN, qI 0, qN, qN, qN, qN, qN, qN]) d_X12_init_114 fp_X12_50 rfl (qap_at (j := 0) rfl) (fun _ => rfl) (fun _ => rfl) (Nat.le_of_ble_eq_true rfl) rfl ?_
  refine z_eq rfl rfl (qap_set (j := 0) (Nat.le_of_ble_eq_true rfl)) ?_
  show qEx M_X12_init 117 [qR h.1, qU] [] (qap h 2421 [qOb 12 [qI 0, qI 0, qI 0, qI 0, qI 0, qI 0, qI 0, qI (-1), qR (h.1 + 1), qR (h.1 + 2), qR (h.1 + 3), qR (h.1 + 4), qR (h.1 + 5), qR (h.1 + 6), qR (h.1 + 7), qR (h.1 + 8), qR (h.1 + 9), qR (h.1 + 10), qI 0, qI 0, qI 0, qR (h.1 + 11), qR (h.1 + 12), qR (h.1 + 13), qN, qI 0, qN, qI 0, qN, qN, qN, qN, qN, qN, qN, qN, qN, qI 0, qI 0, qI 0, qI 0, qN, qN, qN, qN, qN, qN, qN, qI 0, qN, qN, qN, qN, qN, qN], qAr 0 400 (fun _ => 0), qAr 0 384 (fun _ => 0), qAr 0 384 (fun _ => 0), qAr 0 96 (fun _ => 0), qAr 0 4 (fun _ => 0), qAr 0 4 (fun _ => 0), qAr 0 64 (fun _ => 0), qAr 0 64 (fun _ => 0), qAr 0 16 (fun _ => 0), qAr 0 16 (fun _ => 0), qAr 0 167 (fun _ => 0), qAr 0 167 (fun _ => 0), qAr 0 600 (fun _ => 0)]) none _
  refine z_aload_n d_X12_init_117 rfl rfl ?_
  refine z_sipush d_X12_init_118 (by decide) ?_
  refine z_newI d_X12_init_121 ac_int (by decide) (by decide) ?_
  refine z_eq rfl rfl qap_new ?_
  show qEx M_X12_init 123 [qR h.1, qU] [qR (h.1 + 14), qR h.1] (qap h 3423 [qOb 12 [qI 0, qI 0, qI 0, qI 0, qI 0, qI 0, qI 0, qI (-1), qR (h.1 + 1), qR (h.1 + 2), qR (h.1 + 3), qR (h.1 + 4), qR (h.1 + 5), qR (h.1 + 6), qR (h.1 + 7), qR (h.1 + 8), qR (h.1 + 9), qR (h.1 + 10), qI 0, qI 0, qI 0, qR (h.1 + 11), qR (h.1 + 12), qR (h.1 + 13), qN, qI 0, qN, qI 0, qN, qN, qN, qN, qN, qN, qN, qN, qN, qI 0, qI 0, qI 0, qI 0, qN, qN, qN, qN, qN, qN, qN, qI 0, qN, qN, qN, qN, qN, qN], qAr 0 400 (fun _ => 0), qAr 0 384 (fun _ => 0), qAr 0 384 (fun _ => 0), qAr 0 96 (fun _ => 0), qAr 0 4 (fun _ => 0), qAr 0 4 (fun _ => 0), qAr 0 64 (fun _ => 0), qAr 0 64 (fun _ => 0), qAr 0 16 (fun _ => 0), qAr 0 16 (fun _ => 0), qAr 0 167 (fun _ => 0), qAr 0 167 (fun _ => 0), qAr 0 600 (fun _ => 0), qAr 0 1002 (fun _ => 0)]) none _
  refine z_putF (fs' := [qI 0, qI 0, qI 0, qI 0, qI 0, qI 0, qI 0, qI (-1), qR (h.1 + 1), qR (h.1 + 2), qR (h.1 + 3), qR (h.1 + 4), qR (h.1 + 5), qR (h.1 + 6), qR (h.1 + 7), qR (h.1 + 8), qR (h.1 + 9), qR (h.1 + 10), qI 0, qI 0, qI 0, qR (h.1 + 11), qR (h.1 + 12), qR (h.1 + 13), qR (h.1 + 14), qI 0, qN, qI 0, qN, qN, qN, qN, qN, qN, qN, qN, qN, qI 0, qI 0, qI 0, qI 0, qN, qN, qN, qN, qN, qN, qN, qI 0, qN, qN, qN, qN, qN, qN]) d_X12_init_123 fp_X12_53 rfl (qap_at (j := 0) rfl) (fun _ => rfl) (fun _ => rfl) (Nat.le_of_ble_eq_true rfl) rfl ?_
  refine z_eq rfl rfl (qap_set (j := 0) (Nat.le_of_ble_eq_true rfl)) ?_
  show qEx M_X12_init 126 [qR h.1, qU] [] (qap h 3423 [qOb 12 [qI 0, qI 0, qI 0, qI 0, qI 0, qI 0, qI 0, qI (-1), qR (h.1 + 1), qR (h.1 + 2), qR (h.1 + 3), qR (h.1 + 4), qR (h.1 + 5), qR (h.1 + 6), qR (h.1 + 7), qR (h.1 + 8), qR (h.1 + 9), qR (h.1 + 10), qI 0, qI 0, qI 0, qR (h.1 + 11), qR (h.1 + 12), qR (h.1 + 13), qR (h.1 + 14), qI 0, qN, qI 0, qN, qN, qN, qN, qN, qN, qN, qN, qN, qI 0, qI 0, qI 0, qI 0, qN, qN, qN, qN, qN, qN, qN, qI 0, qN, qN, qN, qN, qN, qN], qAr 0 400 (fun _ => 0), qAr 0 384 (fun _ => 0), qAr 0 384 (fun _ => 0), qAr 0 96 (fun _ => 0), qAr 0 4 (fun _ => 0), qAr 0 4 (fun _ => 0), qAr 0 64 (fun _ => 0), qAr 0 64 (fun _ => 0), qAr 0 16 (fun _ => 0), qAr 0 16 (fun _ => 0), qAr 0 167 (fun _ => 0), qAr 0 167 (fun _ => 0), qAr 0 600 (fun _ => 0), qAr 0 1002 (fun _ => 0)]) none _
  refine z_aload_n d_X12_init_126 rfl rfl ?_
  refine z_bipush d_X12_init_127 (by decide) ?_
  refine z_newI d_X12_init_129 ac_int (by decide) (by decide) ?_
  refine z_eq rfl rfl qap_new ?_
  show qEx M_X12_init 131 [qR h.1, qU] [qR (h.1 + 15), qR h.1] (qap h 3455 [qOb 12 [qI 0, qI 0, qI 0, qI 0, qI 0, qI 0, qI 0, qI (-1), qR (h.1 + 1), qR (h.1 + 2), qR (h.1 + 3), qR (h.1 + 4), qR (h.1 + 5), qR (h.1 + 6), qR (h.1 + 7), qR (h.1 + 8), qR (h.1 + 9), qR (h.1 + 10), qI 0, qI 0, qI 0, qR (h.1 + 11), qR (h.1 + 12), qR (h.1 + 13), qR (h.1 + 14), qI 0, qN, qI 0, qN, qN, qN, qN, qN, qN, qN, qN, qN, qI 0, qI 0, qI 0, qI 0, qN, qN, qN, qN, qN, qN, qN, qI 0, qN, qN, qN, qN, qN, qN], qAr 0 400 (fun _ => 0), qAr 0 384 (fun _ => 0), qAr 0 384 (fun _ => 0), qAr 0 96 (fun _ => 0), qAr 0 4 (fun _ => 0), qAr 0 4 (fun _ => 0), qAr 0 64 (fun _ => 0), qAr 0 64 (fun _ => 0), qAr 0 16 (fun _ => 0), qAr 0 16 (fun _ => 0), qAr 0 167 (fun _ => 0), qAr 0 167 (fun _ => 0), qAr 0 600 (fun _ => 0), qAr 0 1002 (fun _ => 0), qAr 0 32 (fun _ => 0)]) none _
  refine z_putF (fs' := [qI 0, qI 0, qI 0, qI 0, qI 0, qI 0, qI 0, qI (-1), qR (h.1 + 1), qR (h.1 + 2), qR (h.1 + 3), qR (h.1 + 4), qR (h.1 + 5), qR (h.1 + 6), qR (h.1 + 7), qR (h.1 + 8), qR (h.1 + 9), qR (h.1 + 10), qI 0, qI 0, qI 0, qR (h.1 + 11), qR (h.1 + 12), qR (h.1 + 13), qR (h.1 + 14), qI 0, qR (h.1 + 15), qI 0, qN, qN, qN, qN, qN, qN, qN, qN, qN, qI 0, qI 0, qI 0, qI 0, qN, qN, qN, qN, qN, qN, qN, qI 0, qN, qN, qN, qN, qN, qN]) d_X12_init_131 fp_X12_56 rfl (qap_at (j := 0) rfl) (fun _ => rfl) (fun _ => rfl) (Nat.le_of_ble_eq_true rfl) rfl ?_
  refine z_eq rfl rfl (qap_set (j := 0) (Nat.le_of_ble_eq_true rfl)) ?_
  show qEx M_X12_init 134 [qR h.1, qU] [] (qap h 3455 [qOb 12 [qI 0, qI 0, qI 0, qI 0, qI 0, qI 0, qI 0, qI (-1), qR (h.1 + 1), qR (h.1 + 2), qR (h.1 + 3), qR (h.1 + 4), qR (h.1 + 5), qR (h.1 + 6), qR (h.1 + 7), qR (h.1 + 8), qR (h.1 + 9), qR (h.1 + 10), qI 0, qI 0, qI 0, qR (h.1 + 11), qR (h.1 + 12), qR (h.1 + 13), qR (h.1 + 14), qI 0, qR (h.1 + 15), qI 0, qN, qN, qN, qN, qN, qN, qN, qN, qN, qI 0, qI 0, qI 0, qI 0, qN, qN, qN, qN, qN, qN, qN, qI 0, qN, qN, qN, qN, qN, qN], qAr 0 400 (fun _ => 0), qAr 0 384 (fun _ => 0), qAr 0 384 (fun _ => 0), qAr 0 96 (fun _ => 0), qAr 0 4 (fun _ => 0), qAr 0 4 (fun _ => 0), qAr 0 64 (fun _ => 0), qAr 0 64 (fun _ => 0), qAr 0 16 (fun _ => 0), qAr 0 16 (fun _ => 0), qAr 0 167 (fun _ => 0), qAr 0 167 (fun _ => 0), qAr 0 600 (fun _ => 0), qAr 0 1002 (fun _ => 0), qAr 0 32 (fun _ => 0)]) none _
  refine z_aload_n d_X12_init_134 rfl rfl ?_
  refine z_sipush d_X12_init_135 (by decide) ?_
  refine z_newI d_X12_init_138 ac_int (by decide) (by decide) ?_
  refine z_eq rfl rfl qap_new ?_
  show qEx M_X12_init 140 [qR h.1, qU] [qR (h.1 + 16), qR h.1] (qap h 3622 [qOb 12 [qI 0, qI 0, qI 0, qI 0, qI 0, qI 0, qI 0, qI (-1), qR (h.1 + 1), qR (h.1 + 2), qR (h.1 + 3), qR (h.1 + 4), qR (h.1 + 5), qR (h.1 + 6), qR (h.1 + 7), qR (h.1 + 8), qR (h.1 + 9), qR (h.1 + 10), qI 0, qI 0, qI 0, qR (h.1 + 11), qR (h.1 + 12), qR (h.1 + 13), qR (h.1 + 14), qI 0, qR (h.1 + 15), qI 0, qN, qN, qN, qN, qN, qN, qN, qN, qN, qI 0, qI 0, qI 0, qI 0, qN, qN, qN, qN, qN, qN, qN, qI 0, qN, qN, qN, qN, qN, qN], qAr 0 400 (fun _ => 0), qAr 0 384 (fun _ => 0), qAr 0 384 (fun _ => 0), qAr 0 96 (fun _ => 0), qAr 0 4 (fun _ => 0), qAr 0 4 (fun _ => 0), qAr 0 64 (fun _ => 0), qAr 0 64 (fun _ => 0), qAr 0 16 (fun _ => 0), qAr 0 16 (fun _ => 0), qAr 0 167 (fun _ => 0), qAr 0 167 (fun _ => 0), qAr 0 600 (fun _ => 0), qAr 0 1002 (fun _ => 0), qAr 0 32 (fun _ => 0), qAr 0 167 (fun _ => 0)]) none _
  refine z_putF (fs' := [qI 0, qI 0, qI 0, qI 0, qI 0, qI 0, qI 0, qI (-1), qR (h.1 + 1), qR (h.1 + 2), qR (h.1 + 3), qR (h.1 + 4), qR (h.1 + 5), qR (h.1 + 6), qR (h.1 + 7), qR (h.1 + 8), qR (h.1 + 9), qR (h.1 + 10), qI 0, qI 0, qI 0, qR (h.1 + 11), qR (h.1 + 12), qR (h.1 + 13), qR (h.1 + 14), qI 0, qR (h.1 + 15), qI 0, qR (h.1 + 16), qN, qN, qN, qN, qN, qN, qN, qN, qI 0, qI 0, qI 0, qI 0, qN, qN, qN, qN, qN, qN, qN, qI 0, qN, qN, qN, qN, qN, qN]) d_X12_init_140 fp_X12_59 rfl (qap_at (j := 0) rfl) (fun _ => rfl) (fun _ => rfl) (Nat.le_of_ble_eq_true rfl) rfl ?_
  refine z_eq rfl rfl (qap_set (j := 0) (Nat.le_of_ble_eq_true rfl)) ?_
  show qEx M_X12_init 143 [qR h.1, qU] [] (qap h 3622 [qOb 12 [qI 0, qI 0, qI 0, qI 0, qI 0, qI 0, qI 0, qI (-1), qR (h.1 + 1), qR (h.1 + 2), qR (h.1 + 3), qR (h.1 + 4), qR (h.1 + 5), qR (h.1 + 6), qR (h.1 + 7), qR (h.1 + 8), qR (h.1 + 9), qR (h.1 + 10), qI 0, qI 0, qI 0, qR (h.1 + 11), qR (h.1 + 12), qR (h.1 + 13), qR (h.1 + 14), qI 0, qR (h.1 + 15), qI 0, qR (h.1 + 16), qN, qN, qN, qN, qN, qN, qN, qN, qI 0, qI 0, qI 0, qI 0, qN, qN, qN, qN, qN, qN, qN, qI 0, qN, qN, qN, qN, qN, qN], qAr 0 400 (fun _ => 0), qAr 0 384 (fun _ => 0), qAr 0 384 (fun _ => 0), qAr 0 96 (fun _ => 0), qAr 0 4 (fun _ => 0), qAr 0 4 (fun _ => 0), qAr 0 64 (fun _ => 0), qAr 0 64 (fun _ => 0), qAr 0 16 (fun _ => 0), qAr 0 16 (fun _ => 0), qAr 0 167 (fun _ => 0), qAr 0 167 (fun _ => 0), qAr 0 600 (fun _ => 0), qAr 0 1002 (fun _ => 0), qAr 0 32 (fun _ => 0), qAr 0 167 (fun _ => 0)]) none _
  refine z_aload_n d_X12_init_143 rfl rfl ?_
  refine z_iconst d_X12_init_144 (by decide) ?_
  refine z_newI d_X12_init_145 ac_int (by decide) (by decide) ?_
  refine z_eq rfl rfl qap_new ?_
  show qEx M_X12_init 147 [qR h.1, qU] [qR (h.1 + 17), qR h.1] (qap h 3626 [qOb 12 [qI 0, qI 0, qI 0, qI 0, qI 0, qI 0, qI 0, qI (-1), qR (h.1 + 1), qR (h.1 + 2), qR (h.1 + 3), qR (h.1 + 4), qR (h.1 + 5), qR (h.1 + 6), qR (h.1 + 7), qR (h.1 + 8), qR (h.1 + 9), qR (h.1 + 10), qI 0, qI 0, qI 0, qR (h.1 + 11), qR (h.1 + 12), qR (h.1 + 13), qR (h.1 + 14), qI 0, qR (h.1 + 15), qI 0, qR (h.1 + 16), qN, qN, qN, qN, qN, qN, qN, qN, qI 0, qI 0, qI 0, qI 0, qN, qN, qN, qN, qN, qN, qN, qI 0, qN, qN, qN, qN, qN, qN], qAr 0 400 (fun _ => 0), qAr 0 384 (fun _ => 0), qAr 0 384 (fun _ => 0), qAr 0 96 (fun _ => 0), qAr 0 4 (fun _ => 0), qAr 0 4 (fun _ => 0), qAr 0 64 (fun _ => 0), qAr 0 64 (fun _ => 0), qAr 0 16 (fun _ => 0), qAr 0 16 (fun _ => 0), qAr 0 167 (fun _ => 0), qAr 0 167 (fun _ => 0), qAr 0 600 (fun _ => 0), qAr 0 1002 (fun _ => 0), qAr 0 32 (fun _ => 0), qAr 0 167 (fun _ => 0), qAr 0 4 (fun _ => 0)]) none _
  refine z_putF (fs' := [qI 0, qI 0, qI 0, qI 0, qI 0, qI 0, qI 0, qI (-1), qR (h.1 + 1), qR (h.1 + 2), qR (h.1 + 3), qR (h.1 + 4), qR (h.1 + 5), qR (h.1 + 6), qR (h.1 + 7), qR (h.1 + 8), qR (h.1 + 9), qR (h.1 + 10), qI 0, qI 0, qI 0, qR (h.1 + 11), qR (h.1 + 12), qR (h.1 + 13), qR (h.1 + 14), qI 0, qR (h.1 + 15), qI 0, qR (h.1 + 16), qR (h.1 + 17), qN, qN, qN, qN, qN, qN, qN, qI 0, qI 0, qI 0, qI 0, qN, qN, qN, qN, qN, qN, qN, qI 0, qN, qN, qN, qN, qN, qN]) d_X12_init_147 fp_X12_62 rfl (qap_at (j := 0) rfl) (fun _ => rfl) (fun _ => rfl) (Nat.le_of_ble_eq_true rfl) rfl ?_
  refine z_eq rfl rfl (qap_set (j := 0) (Nat.le_of_ble_eq_true rfl)) ?_
  show qEx M_X12_init 150 [qR h.1, qU] [] (qap h 3626 [qOb 12 [qI 0, qI 0, qI 0, qI 0, qI 0, qI 0, qI 0, qI (-1), qR (h.1 + 1), qR (h.1 + 2), qR (h.1 + 3), qR (h.1 + 4), qR (h.1 + 5), qR (h.1 + 6), qR (h.1 + 7), qR (h.1 + 8), qR (h.1 + 9), qR (h.1 + 10), qI 0, qI 0, qI 0, qR (h.1 + 11), qR (h.1 + 12), qR (h.1 + 13), qR (h.1 + 14), qI 0, qR (h.1 + 15), qI 0, qR (h.1 + 16), qR (h.1 + 17), qN, qN, qN, qN, qN, qN, qN, qI 0, qI 0, qI 0, qI 0, qN, qN, qN, qN, qN, qN, qN, qI 0, qN, qN, qN, qN, qN, qN], qAr 0 400 (fun _ => 0), qAr 0 384 (fun _ => 0), qAr 0 384 (fun _ => 0), qAr 0 96 (fun _ => 0), qAr 0 4 (fun _ => 0), qAr 0 4 (fun _ => 0), qAr 0 64 (fun _ => 0), qAr 0 64 (fun _ => 0), qAr 0 16 (fun _ => 0), qAr 0 16 (fun _ => 0), qAr 0 167 (fun _ => 0), qAr 0 167 (fun _ => 0), qAr 0 600 (fun _ => 0), qAr 0 1002 (fun _ => 0), qAr 0 32 (fun _ => 0), qAr 0 167 (fun _ => 0), qAr 0 4 (fun _ => 0)]) none _
  refine z_aload_n d_X12_init_150 rfl rfl ?_
  refine z_iconst d_X12_init_151 (by decide) ?_
  refine z_newI d_X12_init_152 ac_int (by decide) (by decide) ?_
  refine z_eq rfl rfl qap_new ?_
  show qEx M_X12_init 154 [qR h.1, qU] [qR (h.1 + 18), qR h.1] (qap h 3630 [qOb 12 [qI 0, qI 0, qI 0, qI 0, qI 0, qI 0, qI 0, qI (-1), qR (h.1 + 1), qR (h.1 + 2), qR (h.1 + 3), qR (h.1 + 4), qR (h.1 + 5), qR (h.1 + 6), qR (h.1 + 7), qR (h.1 + 8), qR (h.1 + 9), qR (h.1 + 10), qI 0, qI 0, qI 0, qR (h.1 + 11), qR (h.1 + 12), qR (h.1 + 13), qR (h.1 + 14), qI 0, qR (h.1 + 15), qI 0, qR (h.1 + 16), qR (h.1 + 17), qN, qN, qN, qN, qN, qN, qN, qI 0, qI 0, qI 0, qI 0, qN, qN, qN, qN, qN, qN, qN, qI 0, qN, qN, qN, qN, qN, qN], qAr 0 400 (fun _ => 0), qAr 0 384 (fun _ => 0), qAr 0 384 (fun _ => 0), qAr 0 96 (fun _ => 0), qAr 0 4 (fun _ => 0), qAr 0 4 (fun _ => 0), qAr 0 64 (fun _ => 0), qAr 0 64 (fun _ => 0), qAr 0 16 (fun _ => 0), qAr 0 16 (fun _ => 0), qAr 0 167 (fun _ => 0), qAr 0 167 (fun _ => 0), qAr 0 600 (fun _ => 0), qAr 0 1002 (fun _ => 0), qAr 0 32 (fun _ => 0), qAr 0 167 (fun _ => 0), qAr 0 4 (fun _ => 0), qAr 0 4 (fun _ => 0)]) none _
  refine z_putF (fs' := [qI 0, qI 0, qI 0, qI 0, qI 0, qI 0, qI 0, qI (-1), qR (h.1 + 1), qR (h.1 + 2), qR (h.1 + 3), qR (h.1 + 4), qR (h.1 + 5), qR (h.1 + 6), qR (h.1 + 7), qR (h.1 + 8), qR (h.1 + 9), qR (h.1 + 10), qI 0, qI 0, qI 0, qR (h.1 + 11), qR (h.1 + 12), qR (h.1 + 13), qR (h.1 + 14), qI 0, qR (h.1 + 15), qI 0, qR (h.1 + 16), qR (h.1 + 17), qR (h.1 + 18), qN, qN, qN, qN, qN, qN, qI 0, qI 0, qI 0, qI 0, qN, qN, qN, qN, qN, qN, qN, qI 0, qN, qN, qN, qN, qN, qN]) d_X12_init_154 fp_X12_65 rfl (qap_at (j := 0) rfl) (fun _ => rfl) (fun _ => rfl) (Nat.le_of_ble_eq_true rfl) rfl ?_
  refine z_eq rfl rfl (qap_set (j := 0) (Nat.le_of_ble_eq_true rfl)) ?_
  show qEx M_X12_init 157 [qR h.1, qU] [] (qap h 3630 [qOb 12 [qI 0, qI 0, qI 0, qI 0, qI 0, qI 0, qI 0, qI (-1), qR (h.1 + 1), qR (h.1 + 2), qR (h.1 + 3), qR (h.1 + 4), qR (h.1 + 5), qR (h.1 + 6), qR (h.1 + 7), qR (h.1 + 8), qR (h.1 + 9), qR (h.1 + 10), qI 0, qI 0, qI 0, qR (h.1 + 11), qR (h.1 + 12), qR (h.1 + 13), qR (h.1 + 14), qI 0, qR (h.1 + 15), qI 0, qR (h.1 + 16), qR (h.1 + 17), qR (h.1 + 18), qN, qN, qN, qN, qN, qN, qI 0, qI 0, qI 0, qI 0, qN, qN, qN, qN, qN, qN, qN, qI 0, qN, qN, qN, qN, qN, qN], qAr 0 400 (fun _ => 0), qAr 0 384 (fun _ => 0), qAr 0 384 (fun _ => 0), qAr 0 96 (fun _ => 0), qAr 0 4 (fun _ => 0), qAr 0 4 (fun _ => 0), qAr 0 64 (fun _ => 0), qAr 0 64 (fun _ => 0), qAr 0 16 (fun _ => 0), qAr 0 16 (fun _ => 0), qAr 0 167 (fun _ => 0), qAr 0 167 (fun _ => 0), qAr 0 600 (fun _ => 0), qAr 0 1002 (fun _ => 0), qAr 0 32 (fun _ => 0), qAr 0 167 (fun _ => 0), qAr 0 4 (fun _ => 0), qAr 0 4 (fun _ => 0)]) none _
  refine z_aload_n d_X12_init_157 rfl rfl ?_
  refine z_bipush d_X12_init_158 (by decide) ?_
  refine z_newI d_X12_init_160 ac_int (by decide) (by decide) ?_
  refine z_eq rfl rfl qap_new ?_
  show qEx M_X12_init 162 [qR h.1, qU] [qR (h.1 + 19), qR h.1] (qap h 3646 [qOb 12 [qI 0, qI 0, qI 0, qI 0, qI 0, qI 0, qI 0, qI (-1), qR (h.1 + 1), qR (h.1 + 2), qR (h.1 + 3), qR (h.1 + 4), qR (h.1 + 5), qR (h.1 + 6), qR (h.1 + 7), qR (h.1 + 8), qR (h.1 + 9), qR (h.1 + 10), qI 0, qI 0, qI 0, qR (h.1 + 11), qR (h.1 + 12), qR (h.1 + 13), qR (h.1 + 14), qI 0, qR (h.1 + 15), qI 0, qR (h.1 + 16), qR (h.1 + 17), qR (h.1 + 18), qN, qN, qN, qN, qN, qN, qI 0, qI 0, qI 0, qI 0, qN, qN, qN, qN, qN, qN, qN, qI 0, qN, qN, qN, qN, qN, qN], qAr 0 400 (fun _ => 0), qAr 0 384 (fun _ => 0), qAr 0 384 (fun _ => 0), qAr 0 96 (fun _ => 0), qAr 0 4 (fun _ => 0), qAr 0 4 (fun _ => 0), qAr 0 64 (fun _ => 0), qAr 0 64 (fun _ => 0), qAr 0 16 (fun _ => 0), qAr 0 16 (fun _ => 0), qAr 0 167 (fun _ => 0), qAr 0 167 (fun _ => 0), qAr 0 600 (fun _ => 0), qAr 0 1002 (fun _ => 0), qAr 0 32 (fun _ => 0), qAr 0 167 (fun _ => 0), qAr 0 4 (fun _ => 0), qAr 0 4 (fun _ => 0), qAr 0 16 (fun _ => 0)]) none _
  refine z_putF (fs' := [qI 0, qI 0, qI 0, qI 0, qI 0, qI 0, qI 0, qI (-1), qR (h.1 + 1), qR (h.1 + 2), qR (h.1 + 3), qR (h.1 + 4), qR (h.1 + 5), qR (h.1 + 6), qR (h.1 + 7), qR (h.1 + 8), qR (h.1 + 9), qR (h.1 + 10), qI 0, qI 0, qI 0, qR (h.1 + 11), qR (h.1 + 12), qR (h.1 + 13), qR (h.1 + 14), qI 0, qR (h.1 + 15), qI 0, qR (h.1 + 16), qR (h.1 + 17), qR (h.1 + 18), qR (h.1 + 19), qN, qN, qN, qN, qN, qI 0, qI 0, qI 0, qI 0, qN, qN, qN, qN, qN, qN, qN, qI 0, qN, qN, qN, qN, qN, qN]) d_X12_init_162 fp_X12_68 rfl (qap_at (j := 0) rfl) (fun _ => rfl) (fun _ => rfl) (Nat.le_of_ble_eq_true rfl) rfl ?_
  refine z_eq rfl rfl (qap_set (j := 0) (Nat.le_of_ble_eq_true rfl)) ?_
  show qEx M_X12_init 165 [qR h.1, qU] [] (qap h 3646 [qOb 12 [qI 0, qI 0, qI 0, qI 0, qI 0, qI 0, qI 0, qI (-1), qR (h.1 + 1), qR (h.1 + 2), qR (h.1 + 3), qR (h.1 + 4), qR (h.1 + 5), qR (h.1 + 6), qR (h.1 + 7), qR (h.1 + 8), qR (h.1 + 9), qR (h.1 + 10), qI 0, qI 0, qI 0, qR (h.1 + 11), qR (h.1 + 12), qR (h.1 + 13), qR (h.1 + 14), qI 0, qR (h.1 + 15), qI 0, qR (h.1 + 16), qR (h.1 + 17), qR (h.1 + 18), qR (h.1 + 19), qN, qN, qN, qN, qN, qI 0, qI 0, qI 0, qI 0, qN, qN, qN, qN, qN, qN, qN, qI 0, qN, qN, qN, qN, qN, qN], qAr 0 400 (fun _ => 0), qAr 0 384 (fun _ => 0), qAr 0 384 (fun _ => 0), qAr 0 96 (fun _ => 0), qAr 0 4 (fun _ => 0), qAr 0 4 (fun _ => 0), qAr 0 64 (fun _ => 0), qAr 0 64 (fun _ => 0), qAr 0 16 (fun _ => 0), qAr 0 16 (fun _ => 0), qAr 0 167 (fun _ => 0), qAr 0 167 (fun _ => 0), qAr 0 600 (fun _ => 0), qAr 0 1002 (fun _ => 0), qAr 0 32 (fun _ => 0), qAr 0 167 (fun _ => 0), qAr 0 4 (fun _ => 0), qAr 0 4 (fun _ => 0), qAr 0 16 (fun _ => 0)]) none _
  refine z_aload_n d_X12_init_165 rfl rfl ?_
  refine z_sipush d_X12_init_166 (by decide) ?_
  refine z_newI d_X12_init_169 ac_int (by decide) (by decide) ?_
  refine z_eq rfl rfl qap_new ?_
  show qEx M_X12_init 171 [qR h.1, qU] [qR (h.1 + 20), qR h.1] (qap h 4246 [qOb 12 [qI 0, qI 0, qI 0, qI 0, qI 0, qI 0, qI 0, qI (-1), qR (h.1 + 1), qR (h.1 + 2), qR (h.1 + 3), qR (h.1 + 4), qR (h.1 + 5), qR (h.1 + 6), qR (h.1 + 7), qR (h.1 + 8), qR (h.1 + 9), qR (h.1 + 10), qI 0, qI 0, qI 0, qR (h.1 + 11), qR (h.1 + 12), qR (h.1 + 13), qR (h.1 + 14), qI 0, qR (h.1 + 15), qI 0, qR (h.1 + 16), qR (h.1 + 17), qR (h.1 + 18), qR (h.1 + 19), qN, qN, qN, qN, qN, qI 0, qI 0, qI 0, qI 0, qN, qN, qN, qN, qN, qN, qN, qI 0, qN, qN, qN, qN, qN, qN], qAr 0 400 (fun _ => 0), qAr 0 384 (fun _ => 0), qAr 0 384 (fun _ => 0), qAr 0 96 (fun _ => 0), qAr 0 4 (fun _ => 0), qAr 0 4 (fun _ => 0), qAr 0 64 (fun _ => 0), qAr 0 64 (fun _ => 0), qAr 0 16 (fun _ => 0), qAr 0 16 (fun _ => 0), qAr 0 167 (fun _ => 0), qAr 0 167 (fun _ => 0), qAr 0 600 (fun _ => 0), qAr 0 1002 (fun _ => 0), qAr 0 32 (fun _ => 0), qAr 0 167 (fun _ => 0), qAr 0 4 (fun _ => 0), qAr 0 4 (fun _ => 0), qAr 0 16 (fun _ => 0), qAr 0 600 (fun _ => 0)]) none _
  refine z_putF (fs' := [qI 0, qI 0, qI 0, qI 0, qI 0, qI 0, qI 0, qI (-1), qR (h.1 + 1), qR (h.1 + 2), qR (h.1 + 3), qR (h.1 + 4), qR (h.1 + 5), qR (h.1 + 6), qR (h.1 + 7), qR (h.1 + 8), qR (h.1 + 9), qR (h.1 + 10), qI 0, qI 0, qI 0, qR (h.1 + 11), qR (h.1 + 12), qR (h.1 + 13), qR (h.1 + 14), qI 0, qR (h.1 + 15), qI 0, qR (h.1 + 16), qR (h.1 + 17), qR (h.1 + 18), qR (h.1 + 19), qR (h.1 + 20), qN, qN, qN, qN, qI 0, qI 0, qI 0, qI 0, qN, qN, qN, qN, qN, qN, qN, qI 0, qN, qN, qN, qN, qN, qN]) d_X12_init_171 fp_X12_71 rfl (qap_at (j := 0) rfl) (fun _ => rfl) (fun _ => rfl) (Nat.le_of_ble_eq_true rfl) rfl ?_
  refine z_eq rfl rfl (qap_set (j := 0) (Nat.le_of_ble_eq_true rfl)) ?_
  show qEx M_X12_init 174 [qR h.1, qU] [] (qap h 4246 [qOb 12 [qI 0, qI 0, qI 0, qI 0, qI 0, qI 0, qI 0, qI (-1), qR (h.1 + 1), qR (h.1 + 2), qR (h.1 + 3), qR (h.1 + 4), qR (h.1 + 5), qR (h.1 + 6), qR (h.1 + 7), qR (h.1 + 8), qR (h.1 + 9), qR (h.1 + 10), qI 0, qI 0, qI 0, qR (h.1 + 11), qR (h.1 + 12), qR (h.1 + 13), qR (h.1 + 14), qI 0, qR (h.1 + 15), qI 0, qR (h.1 + 16), qR (h.1 + 17), qR (h.1 + 18), qR (h.1 + 19), qR (h.1 + 20), qN, qN, qN, qN, qI 0, qI 0, qI 0, qI 0, qN, qN, qN, qN, qN, qN, qN, qI 0, qN, qN, qN, qN, qN, qN], qAr 0 400 (fun _ => 0), qAr 0 384 (fun _ => 0), qAr 0 384 (fun _ => 0), qAr 0 96 (fun _ => 0), qAr 0 4 (fun _ => 0), qAr 0 4 (fun _ => 0), qAr 0 64 (fun _ => 0), qAr 0 64 (fun _ => 0), qAr 0 16 (fun _ => 0), qAr 0 16 (fun _ => 0), qAr 0 167 (fun _ => 0), qAr 0 167 (fun _ => 0), qAr 0 600 (fun _ => 0), qAr 0 1002 (fun _ => 0), qAr 0 32 (fun _ => 0), qAr 0 167 (fun _ => 0), qAr 0 4 (fun _ => 0), qAr 0 4 (fun _ => 0), qAr 0 16 (fun _ => 0), qAr 0 600 (fun _ => 0)]) none _
  refine z_aload_n d_X12_init_174 rfl rfl ?_
  refine z_sipush d_X12_init_175 (by decide) ?_
  refine z_newI d_X12_init_178 ac_int (by decide) (by decide) ?_
  refine z_eq rfl rfl qap_new ?_
  show qEx M_X12_init 180 [qR h.1, qU] [qR (h.1 + 21), qR h.1] (qap h 4630 [qOb 12 [qI 0, qI 0, qI 0, qI 0, qI 0, qI 0, qI 0, qI (-1), qR (h.1 + 1), qR (h.1 + 2), qR (h.1 + 3), qR (h.1 + 4), qR (h.1 + 5), qR (h.1 + 6), qR (h.1 + 7), qR (h.1 + 8), qR (h.1 + 9), qR (h.1 + 10), qI 0, qI 0, qI 0, qR (h.1 + 11), qR (h.1 + 12), qR (h.1 + 13), qR (h.1 + 14), qI 0, qR (h.1 + 15), qI 0, qR (h.1 + 16), qR (h.1 + 17), qR (h.1 + 18), qR (h.1 + 19), qR (h.1 + 20), qN, qN, qN, qN, qI 0, qI 0, qI 0, qI 0, qN, qN, qN, qN, qN, qN, qN, qI 0, qN, qN, qN, qN, qN, qN], qAr 0 400 (fun _ => 0), qAr 0 384 (fun _ => 0), qAr 0 384 (fun _ => 0), qAr 0 96 (fun _ => 0), qAr 0 4 (fun _ => 0), qAr 0 4 (fun _ => 0), qAr 0 64 (fun _ => 0), qAr 0 64 (fun _ => 0), qAr 0 16 (fun _ => 0), qAr 0 16 (fun _ => 0), qAr 0 167 (fun _ => 0), qAr 0 167 (fun _ => 0), qAr 0 600 (fun _ => 0), qAr 0 1002 (fun _ => 0), qAr 0 32 (fun _ => 0), qAr 0 167 (fun _ => 0), qAr 0 4 (fun _ => 0), qAr 0 4 (fun _ => 0), qAr 0 16 (fun _ => 0), qAr 0 600 (fun _ => 0), qAr 0 384 (fun _ => 0)]) none _
  refine z_putF (fs' := [qI 0, qI 0, qI 0, qI 0, qI 0, qI 0, qI 0, qI (-1), qR (h.1 + 1), qR (h.1 + 2), qR (h.1 + 3), qR (h.1 + 4), qR (h.1 + 5), qR (h.1 + 6), qR (h.1 + 7), qR (h.1 + 8), qR (h.1 + 9), qR (h.1 + 10), qI 0, qI 0, qI 0, qR (h.1 + 11), qR (h.1 + 12), qR (h.1 + 13), qR (h.1 + 14), qI 0, qR (h.1 + 15), qI 0, qR (h.1 + 16), qR (h.1 + 17), qR (h.1 + 18), qR (h.1 + 19), qR (h.1 + 20), qR (h.1 + 21), qN, qN, qN, qI 0, qI 0, qI 0, qI 0, qN, qN, qN, qN, qN, qN, qN, qI 0, qN, qN, qN, qN, qN, qN]) d_X12_init_180 fp_X12_74 rfl (qap_at (j := 0) rfl) (fun _ => rfl) (fun _ => rfl) (Nat.le_of_ble_eq_true rfl) rfl ?_
  refine z_eq rfl rfl (qap_set (j := 0) (Nat.le_of_ble_eq_true rfl)) ?_
  show qEx M_X12_init 183 [qR h.1, qU] [] (qap h 4630 [qOb 12 [qI 0, qI 0, qI 0, qI 0, qI 0, qI 0, qI 0, qI (-1), qR (h.1 + 1), qR (h.1 + 2), qR (h.1 + 3), qR (h.1 + 4), qR (h.1 + 5), qR (h.1 + 6), qR (h.1 + 7), qR (h.1 + 8), qR (h.1 + 9), qR (h.1 + 10), qI 0, qI 0, qI 0, qR (h.1 + 11), qR (h.1 + 12), qR (h.1 + 13), qR (h.1 + 14), qI 0, qR (h.1 + 15), qI 0, qR (h.1 + 16), qR (h.1 + 17), qR (h.1 + 18), qR (h.1 + 19), qR (h.1 + 20), qR (h.1 + 21), qN, qN, qN, qI 0, qI 0, qI 0, qI 0, qN, qN, qN, qN, qN, qN, qN, qI 0, qN, qN, qN, qN, qN, qN], qAr 0 400 (fun _ => 0), qAr 0 384 (fun _ => 0), qAr 0 384 (fun _ => 0), qAr 0 96 (fun _ => 0), qAr 0 4 (fun _ => 0), qAr 0 4 (fun _ => 0), qAr 0 64 (fun _ => 0), qAr 0 64 (fun _ => 0), qAr 0 16 (fun _ => 0), qAr 0 16 (fun _ => 0), qAr 0 167 (fun _ => 0), qAr 0 167 (fun _ => 0), qAr 0 600 (fun _ => 0), qAr 0 1002 (fun _ => 0), qAr 0 32 (fun _ => 0), qAr 0 167 (fun _ => 0), qAr 0 4 (fun _ => 0), qAr 0 4 (fun _ => 0), qAr 0 16 (fun _ => 0), qAr 0 600 (fun _ => 0), qAr 0 384 (fun _ => 0)]) none _
  refine z_aload_n d_X12_init_183 rfl rfl ?_
  refine z_sipush d_X12_init_184 (by decide) ?_
  refine z_newI d_X12_init_187 ac_int (by decide) (by decide) ?_
  refine z_eq rfl rfl qap_new ?_
  show qEx M_X12_init 189 [qR h.1, qU] [qR (h.1 + 22), qR h.1] (qap h 5014 [qOb 12 [qI 0, qI 0, qI 0, qI 0, qI 0, qI 0, qI 0, qI (-1), qR (h.1 + 1), qR (h.1 + 2), qR (h.1 + 3), qR (h.1 + 4), qR (h.1 + 5), qR (h.1 + 6), qR (h.1 + 7), qR (h.1 + 8), qR (h.1 + 9), qR (h.1 + 10), qI 0, qI 0, qI 0, qR (h.1 + 11), qR (h.1 + 12), qR (h.1 + 13), qR (h.1 + 14), qI 0, qR (h.1 + 15), qI 0, qR (h.1 + 16), qR (h.1 + 17), qR (h.1 + 18), qR (h.1 + 19), qR (h.1 + 20), qR (h.1 + 21), qN, qN, qN, qI 0, qI 0, qI 0, qI 0, qN, qN, qN, qN, qN, qN, qN, qI 0, qN, qN, qN, qN, qN, qN], qAr 0 400 (fun _ => 0), qAr 0 384 (fun _ => 0), qAr 0 384 (fun _ => 0), qAr 0 96 (fun _ => 0), qAr 0 4 (fun _ => 0), qAr 0 4 (fun _ => 0), qAr 0 64 (fun _ => 0), qAr 0 64 (fun _ => 0), qAr 0 16 (fun _ => 0), qAr 0 16 (fun _ => 0), qAr 0 167 (fun _ => 0), qAr 0 167 (fun _ => 0), qAr 0 600 (fun _ => 0), qAr 0 1002 (fun _ => 0), qAr 0 32 (fun _ => 0), qAr 0 167 (fun _ => 0), qAr 0 4 (fun _ => 0), qAr 0 4 (fun _ => 0), qAr 0 16 (fun _ => 0), qAr 0 600 (fun _ => 0), qAr 0 384 (fun _ => 0), qAr 0 384 (fun _ => 0)]) none _
  refine z_putF (fs' := [qI 0, qI 0, qI 0, qI 0, qI 0, qI 0, qI 0, qI (-1), qR (h.1 + 1), qR (h.1 + 2), qR (h.1 + 3), qR (h.1 + 4), qR (h.1 + 5), qR (h.1 + 6), qR (h.1 + 7), qR (h.1 + 8), qR (h.1 + 9), qR (h.1 + 10), qI 0, qI 0, qI 0, qR (h.1 + 11), qR (h.1 + 12), qR (h.1 + 13), qR (h.1 + 14), qI 0, qR (h.1 + 15), qI 0, qR (h.1 + 16), qR (h.1 + 17), qR (h.1 + 18), qR (h.1 + 19), qR (h.1 + 20), qR (h.1 + 21), qR (h.1 + 22), qN, qN, qI 0, qI 0, qI 0, qI 0, qN, qN, qN, qN, qN, qN, qN, qI 0, qN, qN, qN, qN, qN, qN]) d_X12_init_189 fp_X12_77 rfl (qap_at (j := 0) rfl) (fun _ => rfl) (fun _ => rfl) (Nat.le_of_ble_eq_true rfl) rfl ?_
  refine z_eq rfl rfl (qap_set (j := 0) (Nat.le_of_ble_eq_true rfl)) ?_
  show qEx M_X12_init 192 [qR h.1, qU] [] (qap h 5014 [qOb 12 [qI 0, qI 0, qI 0, qI 0, qI 0, qI 0, qI 0, qI (-1), qR (h.1 + 1), qR (h.1 + 2), qR (h.1 + 3), qR (h.1 + 4), qR (h.1 + 5), qR (h.1 + 6), qR (h.1 + 7), qR (h.1 + 8), qR (h.1 + 9), qR (h.1 + 10), qI 0, qI 0, qI 0, qR (h.1 + 11), qR (h.1 + 12), qR (h.1 + 13), qR (h.1 + 14), qI 0, qR (h.1 + 15), qI 0, qR (h.1 + 16), qR (h.1 + 17), qR (h.1 + 18), qR (h.1 + 19), qR (h.1 + 20), qR (h.1 + 21), qR (h.1 + 22), qN, qN, qI 0, qI 0, qI 0, qI 0, qN, qN, qN, qN, qN, qN, qN, qI 0, qN, qN, qN, qN, qN, qN], qAr 0 400 (fun _ => 0), qAr 0 384 (fun _ => 0), qAr 0 384 (fun _ => 0), qAr 0 96 (fun _ => 0), qAr 0 4 (fun _ => 0), qAr 0 4 (fun _ => 0), qAr 0 64 (fun _ => 0), qAr 0 64 (fun _ => 0), qAr 0 16 (fun _ => 0), qAr 0 16 (fun _ => 0), qAr 0 167 (fun _ => 0), qAr 0 167 (fun _ => 0), qAr 0 600 (fun _ => 0), qAr 0 1002 (fun _ => 0), qAr 0 32 (fun _ => 0), qAr 0 167 (fun _ => 0), qAr 0 4 (fun _ => 0), qAr 0 4 (fun _ => 0), qAr 0 16 (fun _ => 0), qAr 0 600 (fun _ => 0), qAr 0 384 (fun _ => 0), qAr 0 384 (fun _ => 0)]) none _
  refine z_aload_n d_X12_init_192 rfl rfl ?_
  refine z_bipush d_X12_init_193 (by decide) ?_
  refine z_newI d_X12_init_195 ac_int (by decide) (by decide) ?_
  refine z_eq rfl rfl qap_new ?_
  show qEx M_X12_init 197 [qR h.1, qU] [qR (h.1 + 23), qR h.1] (qap h 5078 [qOb 12 [qI 0, qI 0, qI 0, qI 0, qI 0, qI 0, qI 0, qI (-1), qR (h.1 + 1), qR (h.1 + 2), qR (h.1 + 3), qR (h.1 + 4), qR (h.1 + 5), qR (h.1 + 6), qR (h.1 + 7), qR (h.1 + 8), qR (h.1 + 9), qR (h.1 + 10), qI 0, qI 0, qI 0, qR (h.1 + 11), qR (h.1 + 12), qR (h.1 + 13), qR (h.1 + 14), qI 0, qR (h.1 + 15), qI 0, qR (h.1 + 16), qR (h.1 + 17), qR (h.1 + 18), qR (h.1 + 19), qR (h.1 + 20), qR (h.1 + 21), qR (h.1 + 22), qN, qN, qI 0, qI 0, qI 0, qI 0, qN, qN, qN, qN, qN, qN, qN, qI 0, qN, qN, qN, qN, qN, qN], qAr 0 400 (fun _ => 0), qAr 0 384 (fun _ => 0), qAr 0 384 (fun _ => 0), qAr 0 96 (fun _ => 0), qAr 0 4 (fun _ => 0), qAr 0 4 (fun _ => 0), qAr 0 64 (fun _ => 0), qAr 0 64 (fun _ => 0), qAr 0 16 (fun _ => 0), qAr 0 16 (fun _ => 0), qAr 0 167 (fun _ => 0), qAr 0 167 (fun _ => 0), qAr 0 600 (fun _ => 0), qAr 0 1002 (fun _ => 0), qAr 0 32 (fun _ => 0), qAr 0 167 (fun _ => 0), qAr 0 4 (fun _ => 0), qAr 0 4 (fun _ => 0), qAr 0 16 (fun _ => 0), qAr 0 600 (fun _ => 0), qAr 0 384 (fun _ => 0), qAr 0 384 (fun _ => 0), qAr 0 64 (fun _ => 0)]) none _
  refine z_putF (fs' := [qI 0, qI 0, qI 0, qI 0, qI 0, qI 0, qI 0, qI (-1), qR (h.1 + 1), qR (h.1 + 2), qR (h.1 + 3), qR (h.1 + 4), qR (h.1 + 5), qR (h.1 + 6), qR (h.1 + 7), qR (h.1 + 8), qR (h.1 + 9), qR (h.1 + 10), qI 0, qI 0, qI 0, qR (h.1 + 11), qR (h.1 + 12), qR (h.1 + 13), qR (h.1 + 14), qI 0, qR (h.1 + 15), qI 0, qR (h.1 + 16), qR (h.1 + 17), qR (h.1 + 18), qR (h.1 + 19), qR (h.1 + 20), qR (h.1 + 21), qR (h.1 + 22), qR (h.1 + 23), qN, qI 0, qI 0, qI 0, qI 0, qN, qN, qN, qN, qN, qN, qN, qI 0, qN, qN, qN, qN, qN, qN]) d_X12_init_197 fp_X12_80 rfl (qap_at (j := 0) rfl) (fun _ => rfl) (fun _ => rfl) (Nat.le_of_ble_eq_true rfl) rfl ?_
  refine z_eq rfl rfl (qap_set (j := 0) (Nat.le_of_ble_eq_true rfl)) ?_
  show qEx M_X12_init 200 [qR h.1, qU] [] (qap h 5078 [qOb 12 [qI 0, qI 0, qI 0, qI 0, qI 0, qI 0, qI 0, qI (-1), qR (h.1 + 1), qR (h.1 + 2), qR (h.1 + 3), qR (h.1 + 4), qR (h.1 + 5), qR (h.1 + 6), qR (h.1 + 7), qR (h.1 + 8), qR (h.1 + 9), qR (h.1 + 10), qI 0, qI 0, qI 0, qR (h.1 + 11), qR (h.1 + 12), qR (h.1 + 13), qR (h.1 + 14), qI 0, qR (h.1 + 15), qI 0, qR (h.1 + 16), qR (h.1 + 17), qR (h.1 + 18), qR (h.1 + 19), qR (h.1 + 20), qR (h.1 + 21), qR (h.1 + 22), qR (h.1 + 23), qN, qI 0, qI 0, qI 0, qI 0, qN, qN, qN, qN, qN, qN, qN, qI 0, qN, qN, qN, qN, qN, qN], qAr 0 400 (fun _ => 0), qAr 0 384 (fun _ => 0), qAr 0 384 (fun _ => 0), qAr 0 96 (fun _ => 0), qAr 0 4 (fun _ => 0), qAr 0 4 (fun _ => 0), qAr 0 64 (fun _ => 0), qAr 0 64 (fun _ => 0), qAr 0 16 (fun _ => 0), qAr 0 16 (fun _ => 0), qAr 0 167 (fun _ => 0), qAr 0 167 (fun _ => 0), qAr 0 600 (fun _ => 0), qAr 0 1002 (fun _ => 0), qAr 0 32 (fun _ => 0), qAr 0 167 (fun _ => 0), qAr 0 4 (fun _ => 0), qAr 0 4 (fun _ => 0), qAr 0 16 (fun _ => 0), qAr 0 600 (fun _ => 0), qAr 0 384 (fun _ => 0), qAr 0 384 (fun _ => 0), qAr 0 64 (fun _ => 0)]) none _
  refine z_aload_n d_X12_init_200 rfl rfl ?_
  refine z_bipush d_X12_init_201 (by decide) ?_
  refine z_newI d_X12_init_203 ac_int (by decide) (by decide) ?_
  refine z_eq rfl rfl qap_new ?_
  show qEx M_X12_init 205 [qR h.1, qU] [qR (h.1 + 24), qR h.1] (qap h 5110 [qOb 12 [qI 0, qI 0, qI 0, qI 0, qI 0, qI 0, qI 0, qI (-1), qR (h.1 + 1), qR (h.1 + 2), qR (h.1 + 3), qR (h.1 + 4), qR (h.1 + 5), qR (h.1 + 6), qR (h.1 + 7), qR (h.1 + 8), qR (h.1 + 9), qR (h.1 + 10), qI 0, qI 0, qI 0, qR (h.1 + 11), qR (h.1 + 12), qR (h.1 + 13), qR (h.1 + 14), qI 0, qR (h.1 + 15), qI 0, qR (h.1 + 16), qR (h.1 + 17), qR (h.1 + 18), qR (h.1 + 19), qR (h.1 + 20), qR (h.1 + 21), qR (h.1 + 22), qR (h.1 + 23), qN, qI 0, qI 0, qI 0, qI 0, qN, qN, qN, qN, qN, qN, qN, qI 0, qN, qN, qN, qN, qN, qN], qAr 0 400 (fun _ => 0), qAr 0 384 (fun _ => 0), qAr 0 384 (fun _ => 0), qAr 0 96 (fun _ => 0), qAr 0 4 (fun _ => 0), qAr 0 4 (fun _ => 0), qAr 0 64 (fun _ => 0), qAr 0 64 (fun _ => 0), qAr 0 16 (fun _ => 0), qAr 0 16 (fun _ => 0), qAr 0 167 (fun _ => 0), qAr 0 167 (fun _ => 0), qAr 0 600 (fun _ => 0), qAr 0 1002 (fun _ => 0), qAr 0 32 (fun _ => 0), qAr 0 167 (fun _ => 0), qAr 0 4 (fun _ => 0), qAr 0 4 (fun _ => 0), qAr 0 16 (fun _ => 0), qAr 0 600 (fun _ => 0), qAr 0 384 (fun _ => 0), qAr 0 384 (fun _ => 0), qAr 0 64 (fun _ => 0), qAr 0 32 (fun _ => 0)]) none _
  refine z_putF (fs' := [qI 0, qI 0, qI 0, qI 0, qI 0, qI 0, qI 0, qI (-1), qR (h.1 + 1), qR (h.1 + 2), qR (h.1 + 3), qR (h.1 + 4), qR (h.1 + 5), qR (h.1 + 6), qR (h.1 + 7), qR (h.1 + 8), qR (h.1 + 9), qR (h.1 + 10), qI 0, qI 0, qI 0, qR (h.1 + 11), qR (h.1 + 12), qR (h.1 + 13), qR (h.1 + 14), qI 0, qR (h.1 + 15), qI 0, qR (h.1 + 16), qR (h.1 + 17), qR (h.1 + 18), qR (h.1 + 19), qR (h.1 + 20), qR (h.1 + 21), qR (h.1 + 22), qR (h.1 + 23), qR (h.1 + 24), qI 0, qI 0, qI 0, qI 0, qN, qN, qN, qN, qN, qN, qN, qI 0, qN, qN, qN, qN, qN, qN]) d_X12_init_205 fp_X12_83 rfl (qap_at (j := 0) rfl) (fun _ => rfl) (fun _ => rfl) (Nat.le_of_ble_eq_true rfl) rfl ?_
  refine z_eq rfl rfl (qap_set (j := 0) (Nat.le_of_ble_eq_true rfl)) ?_
  show qEx M_X12_init 208 [qR h.1, qU] [] (qap h 5110 [qOb 12 [qI 0, qI 0, qI 0, qI 0, qI 0, qI 0, qI 0, qI (-1), qR (h.1 + 1), qR (h.1 + 2), qR (h.1 + 3), qR (h.1 + 4), qR (h.1 + 5), qR (h.1 + 6), qR (h.1 + 7), qR (h.1 + 8), qR (h.1 + 9), qR (h.1 + 10), qI 0, qI 0, qI 0, qR (h.1 + 11), qR (h.1 + 12), qR (h.1 + 13), qR (h.1 + 14), qI 0, qR (h.1 + 15), qI 0, qR (h.1 + 16), qR (h.1 + 17), qR (h.1 + 18), qR (h.1 + 19), qR (h.1 + 20), qR (h.1 + 21), qR (h.1 + 22), qR (h.1 + 23), qR (h.1 + 24), qI 0, qI 0, qI 0, qI 0, qN, qN, qN, qN, qN, qN, qN, qI 0, qN, qN, qN, qN, qN, qN], qAr 0 400 (fun _ => 0), qAr 0 384 (fun _ => 0), qAr 0 384 (fun _ => 0), qAr 0 96 (fun _ => 0), qAr 0 4 (fun _ => 0), qAr 0 4 (fun _ => 0), qAr 0 64 (fun _ => 0), qAr 0 64 (fun _ => 0), qAr 0 16 (fun _ => 0), qAr 0 16 (fun _ => 0), qAr 0 167 (fun _ => 0), qAr 0 167 (fun _ => 0), qAr 0 600 (fun _ => 0), qAr 0 1002 (fun _ => 0), qAr 0 32 (fun _ => 0), qAr 0 167 (fun _ => 0), qAr 0 4 (fun _ => 0), qAr 0 4 (fun _ => 0), qAr 0 16 (fun _ => 0), qAr 0 600 (fun _ => 0), qAr 0 384 (fun _ => 0), qAr 0 384 (fun _ => 0), qAr 0 64 (fun _ => 0), qAr 0 32 (fun _ => 0)]) none _
  refine z_aload_n d_X12_init_208 rfl rfl ?_
  refine z_sipush d_X12_init_209 (by decide) ?_
  refine z_newI d_X12_init_212 ac_int (by decide) (by decide) ?_
  refine z_eq rfl rfl qap_new ?_
  show qEx M_X12_init 214 [qR h.1, qU] [qR (h.1 + 25), qR h.1] (qap h 5758 [qOb 12 [qI 0, qI 0, qI 0, qI 0, qI 0, qI 0, qI 0, qI (-1), qR (h.1 + 1), qR (h.1 + 2), qR (h.1 + 3), qR (h.1 + 4), qR (h.1 + 5), qR (h.1 + 6), qR (h.1 + 7), qR (h.1 + 8), qR (h.1 + 9), qR (h.1 + 10), qI 0, qI 0, qI 0, qR (h.1 + 11), qR (h.1 + 12), qR (h.1 + 13), qR (h.1 + 14), qI 0, qR (h.1 + 15), qI 0, qR (h.1 + 16), qR (h.1 + 17), qR (h.1 + 18), qR (h.1 + 19), qR (h.1 + 20), qR (h.1 + 21), qR (h.1 + 22), qR (h.1 + 23), qR (h.1 + 24), qI 0, qI 0, qI 0, qI 0, qN, qN, qN, qN, qN, qN, qN, qI 0, qN, qN, qN, qN, qN, qN], qAr 0 400 (fun _ => 0), qAr 0 384 (fun _ => 0), qAr 0 384 (fun _ => 0), qAr 0 96 (fun _ => 0), qAr 0 4 (fun _ => 0), qAr 0 4 (fun _ => 0), qAr 0 64 (fun _ => 0), qAr 0 64 (fun _ => 0), qAr 0 16 (fun _ => 0), qAr 0 16 (fun _ => 0), qAr 0 167 (fun _ => 0), qAr 0 167 (fun _ => 0), qAr 0 600 (fun _ => 0), qAr 0 1002 (fun _ => 0), qAr 0 32 (fun _ => 0), qAr 0 167 (fun _ => 0), qAr 0 4 (fun _ => 0), qAr 0 4 (fun _ => 0), qAr 0 16 (fun _ => 0), qAr 0 600 (fun _ => 0), qAr 0 384 (fun _ => 0), qAr 0 384 (fun _ => 0), qAr 0 64 (fun _ => 0), qAr 0 32 (fun _ => 0), qAr 0 648 (fun _ => 0)]) none _
  refine z_putF (fs' := [qI 0, qI 0, qI 0, qI 0, qI 0, qI 0, qI 0, qI (-1), qR (h.1 + 1), qR (h.1 + 2), qR (h.1 + 3), qR (h.1 + 4), qR (h.1 + 5), qR (h.1 + 6), qR (h.1 + 7), qR (h.1 + 8), qR (h.1 + 9), qR (h.1 + 10), qI 0, qI 0, qI 0, qR (h.1 + 11), qR (h.1 + 12), qR (h.1 + 13), qR (h.1 + 14), qI 0, qR (h.1 + 15), qI 0, qR (h.1 + 16), qR (h.1 + 17), qR (h.1 + 18), qR (h.1 + 19), qR (h.1 + 20), qR (h.1 + 21), qR (h.1 + 22), qR (h.1 + 23), qR (h.1 + 24), qI 0, qI 0, qI 0, qI 0, qR (h.1 + 25), qN, qN, qN, qN, qN, qN, qI 0, qN, qN, qN, qN, qN, qN]) d_X12_init_214 fp_X12_86 rfl (qap_at (j := 0) rfl) (fun _ => rfl) (fun _ => rfl) (Nat.le_of_ble_eq_true rfl) rfl ?_
  refine z_eq rfl rfl (qap_set (j := 0) (Nat.le_of_ble_eq_true rfl)) ?_
  show qEx M_X12_init 217 [qR h.1, qU] [] (qap h 5758 [qOb 12 [qI 0, qI 0, qI 0, qI 0, qI 0, qI 0, qI 0, qI (-1), qR (h.1 + 1), qR (h.1 + 2), qR (h.1 + 3), qR (h.1 + 4), qR (h.1 + 5), qR (h.1 + 6), qR (h.1 + 7), qR (h.1 + 8), qR (h.1 + 9), qR (h.1 + 10), qI 0, qI 0, qI 0, qR (h.1 + 11), qR (h.1 + 12), qR (h.1 + 13), qR (h.1 + 14), qI 0, qR (h.1 + 15), qI 0, qR (h.1 + 16), qR (h.1 + 17), qR (h.1 + 18), qR (h.1 + 19), qR (h.1 + 20), qR (h.1 + 21), qR (h.1 + 22), qR (h.1 + 23), qR (h.1 + 24), qI 0, qI 0, qI 0, qI 0, qR (h.1 + 25), qN, qN, qN, qN, qN, qN, qI 0, qN, qN, qN, qN, qN, qN], qAr 0 400 (fun _ => 0), qAr 0 384 (fun _ => 0), qAr 0 384 (fun _ => 0), qAr 0 96 (fun _ => 0), qAr 0 4 (fun _ => 0), qAr 0 4 (fun _ => 0), qAr 0 64 (fun _ => 0), qAr 0 64 (fun _ => 0), qAr 0 16 (fun _ => 0), qAr 0 16 (fun _ => 0), qAr 0 167 (fun _ => 0), qAr 0 167 (fun _ => 0), qAr 0 600 (fun _ => 0), qAr 0 1002 (fun _ => 0), qAr 0 32 (fun _ => 0), qAr 0 167 (fun _ => 0), qAr 0 4 (fun _ => 0), qAr 0 4 (fun _ => 0), qAr 0 16 (fun _ => 0), qAr 0 600 (fun _ => 0), qAr 0 384 (fun _ => 0), qAr 0 384 (fun _ => 0), qAr 0 64 (fun _ => 0), qAr 0 32 (fun _ => 0), qAr 0 648 (fun _ => 0)]) none _
  refine z_aload_n d_X12_init_217 rfl rfl ?_
  refine z_sipush d_X12_init_218 (by decide) ?_
  refine z_newI d_X12_init_221 ac_int (by decide) (by decide) ?_
  refine z_eq rfl rfl qap_new ?_
  show qEx M_X12_init 223 [qR h.1, qU] [qR (h.1 + 26), qR h.1] (qap h 6406 [qOb 12 [qI 0, qI 0, qI 0, qI 0, qI 0, qI 0, qI 0, qI (-1), qR (h.1 + 1), qR (h.1 + 2), qR (h.1 + 3), qR (h.1 + 4), qR (h.1 + 5), qR (h.1 + 6), qR (h.1 + 7), qR (h.1 + 8), qR (h.1 + 9), qR (h.1 + 10), qI 0, qI 0, qI 0, qR (h.1 + 11), qR (h.1 + 12), qR (h.1 + 13), qR (h.1 + 14), qI 0, qR (h.1 + 15), qI 0, qR (h.1 + 16), qR (h.1 + 17), qR (h.1 + 18), qR (h.1 + 19), qR (h.1 + 20), qR (h.1 + 21), qR (h.1 + 22), qR (h.1 + 23), qR (h.1 + 24), qI 0, qI 0, qI 0, qI 0, qR (h.1 + 25), qN, qN, qN, qN, qN, qN, qI 0, qN, qN, qN, qN, qN, qN], qAr 0 400 (fun _ => 0), qAr 0 384 (fun _ => 0), qAr 0 384 (fun _ => 0), qAr 0 96 (fun _ => 0), qAr 0 4 (fun _ => 0), qAr 0 4 (fun _ => 0), qAr 0 64 (fun _ => 0), qAr 0 64 (fun _ => 0), qAr 0 16 (fun _ => 0), qAr 0 16 (fun _ => 0), qAr 0 167 (fun _ => 0), qAr 0 167 (fun _ => 0), qAr 0 600 (fun _ => 0), qAr 0 1002 (fun _ => 0), qAr 0 32 (fun _ => 0), qAr 0 167 (fun _ => 0), qAr 0 4 (fun _ => 0), qAr 0 4 (fun _ => 0), qAr 0 16 (fun _ => 0), qAr 0 600 (fun _ => 0), qAr 0 384 (fun _ => 0), qAr 0 384 (fun _ => 0), qAr 0 64 (fun _ => 0), qAr 0 32 (fun _ => 0), qAr 0 648 (fun _ => 0), qAr 0 648 (fun _ => 0)]) none _
  refine z_putF (fs' := [qI 0, qI 0, qI 0, qI 0, qI 0, qI 0, qI 0, qI (-1), qR (h.1 + 1), qR (h.1 + 2), qR (h.1 + 3), qR (h.1 + 4), qR (h.1 + 5), qR (h.1 + 6), qR (h.1 + 7), qR (h.1 + 8), qR (h.1 + 9), qR (h.1 + 10), qI 0, qI 0, qI 0, qR (h.1 + 11), qR (h.1 + 12), qR (h.1 + 13), qR (h.1 + 14), qI 0, qR (h.1 + 15), qI 0, qR (h.1 + 16), qR (h.1 + 17), qR (h.1 + 18), qR (h.1 + 19), qR (h.1 + 20), qR (h.1 + 21), qR (h.1 + 22), qR (h.1 + 23), qR (h.1 + 24), qI 0, qI 0, qI 0, qI 0, qR (h.1 + 25), qR (h.1 + 26), qN, qN, qN, qN, qN, qI 0, qN, qN, qN, qN, qN, qN]) d_X12_init_223 fp_X12_89 rfl (qap_at (j := 0) rfl) (fun _ => rfl) (fun _ => rfl) (Nat.le_of_ble_eq_true rfl) rfl ?_
  refine z_eq rfl rfl (qap_set (j := 0) (Nat.le_of_ble_eq_true rfl)) ?_
  show qEx M_X12_init 226 [qR h.1, qU] [] (qap h 6406 [qOb 12 [qI 0, qI 0, qI 0, qI 0, qI 0, qI 0, qI 0, qI (-1), qR (h.1 + 1), qR (h.1 + 2), qR (h.1 + 3), qR (h.1 + 4), qR (h.1 + 5), qR (h.1 + 6), qR (h.1 + 7), qR (h.1 + 8), qR (h.1 + 9), qR (h.1 + 10), qI 0, qI 0, qI 0, qR (h.1 + 11), qR (h.1 + 12), qR (h.1 + 13), qR (h.1 + 14), qI 0, qR (h.1 + 15), qI 0, qR (h.1 + 16), qR (h.1 + 17), qR (h.1 + 18), qR (h.1 + 19), qR (h.1 + 20), qR (h.1 + 21), qR (h.1 + 22), qR (h.1 + 23), qR (h.1 + 24), qI 0, qI 0, qI 0, qI 0, qR (h.1 + 25), qR (h.1 + 26), qN, qN, qN, qN, qN, qI 0, qN, qN, qN, qN, qN, qN], qAr 0 400 (fun _ => 0), qAr 0 384 (fun _ => 0), qAr 0 384 (fun _ => 0), qAr 0 96 (fun _ => 0), qAr 0 4 (fun _ => 0), qAr 0 4 (fun _ => 0), qAr 0 64 (fun _ => 0), qAr 0 64 (fun _ => 0), qAr 0 16 (fun _ => 0), qAr 0 16 (fun _ => 0), qAr 0 167 (fun _ => 0), qAr 0 167 (fun _ => 0), qAr 0 600 (fun _ => 0), qAr 0 1002 (fun _ => 0), qAr 0 32 (fun _ => 0), qAr 0 167 (fun _ => 0), qAr 0 4 (fun _ => 0), qAr 0 4 (fun _ => 0), qAr 0 16 (fun _ => 0), qAr 0 600 (fun _ => 0), qAr 0 384 (fun _ => 0), qAr 0 384 (fun _ => 0), qAr 0 64 (fun _ => 0), qAr 0 32 (fun _ => 0), qAr 0 648 (fun _ => 0), qAr 0 648 (fun _ => 0)]) none _
  refine z_aload_n d_X12_init_226 rfl rfl ?_
  refine z_sipush d_X12_init_227 (by decide) ?_
  refine z_newI d_X12_init_230 ac_int (by decide) (by decide) ?_
  refine z_eq rfl rfl qap_new ?_
  show qEx M_X12_init 232 [qR h.1, qU] [qR (h.1 + 27), qR h.1] (qap h 7054 [qOb 12 [qI 0, qI 0, qI 0, qI 0, qI 0, qI 0, qI 0, qI (-1), qR (h.1 + 1), qR (h.1 + 2), qR (h.1 + 3), qR (h.1 + 4), qR (h.1 + 5), qR (h.1 + 6), qR (h.1 + 7), qR (h.1 + 8), qR (h.1 + 9), qR (h.1 + 10), qI 0, qI 0, qI 0, qR (h.1 + 11), qR (h.1 + 12), qR (h.1 + 13), qR (h.1 + 14), qI 0, qR (h.1 + 15), qI 0, qR (h.1 + 16), qR (h.1 + 17), qR (h.1 + 18), qR (h.1 + 19), qR (h.1 + 20), qR (h.1 + 21), qR (h.1 + 22), qR (h.1 + 23), qR (h.1 + 24), qI 0, qI 0, qI 0, qI 0, qR (h.1 + 25), qR (h.1 + 26), qN, qN, qN, qN, qN, qI 0, qN, qN, qN, qN, qN, qN], qAr 0 400 (fun _ => 0), qAr 0 384 (fun _ => 0), qAr 0 384 (fun _ => 0), qAr 0 96 (fun _ => 0), qAr 0 4 (fun _ => 0), qAr 0 4 (fun _ => 0), qAr 0 64 (fun _ => 0), qAr 0 64 (fun _ => 0), qAr 0 16 (fun _ => 0), qAr 0 16 (fun _ => 0), qAr 0 167 (fun _ => 0), qAr 0 167 (fun _ => 0), qAr 0 600 (fun _ => 0), qAr 0 1002 (fun _ => 0), qAr 0 32 (fun _ => 0), qAr 0 167 (fun _ => 0), qAr 0 4 (fun _ => 0), qAr 0 4 (fun _ => 0), qAr 0 16 (fun _ => 0), qAr 0 600 (fun _ => 0), qAr 0 384 (fun _ => 0), qAr 0 384 (fun _ => 0), qAr 0 64 (fun _ => 0), qAr 0 32 (fun _ => 0), qAr 0 648 (fun _ => 0), qAr 0 648 (fun _ => 0), qAr 0 648 (fun _ => 0)]) none _
  refine z_putF (fs' := [qI 0, qI 0, qI 0, qI 0, qI 0, qI 0, qI 0, qI (-1), qR (h.1 + 1), qR (h.1 + 2), qR (h.1 + 3), qR (h.1 + 4), qR (h.1 + 5), qR (h.1 + 6), qR (h.1 + 7), qR (h.1 + 8), qR (h.1 + 9), qR (h.1 + 10), qI 0, qI 0, qI 0, qR (h.1 + 11), qR (h.1 + 12), qR (h.1 + 13), qR (h.1 + 14), qI 0, qR (h.1 + 15), qI 0, qR (h.1 + 16), qR (h.1 + 17), qR (h.1 + 18), qR (h.1 + 19), qR (h.1 + 20), qR (h.1 + 21), qR (h.1 + 22), qR (h.1 + 23), qR (h.1 + 24), qI 0, qI 0, qI 0, qI 0, qR (h.1 + 25), qR (h.1 + 26), qR (h.1 + 27), qN, qN, qN, qN, qI 0, qN, qN, qN, qN, qN, qN]) d_X12_init_232 fp_X12_92 rfl (qap_at (j := 0) rfl) (fun _ => rfl) (fun _ => rfl) (Nat.le_of_ble_eq_true rfl) rfl ?_
  refine z_eq rfl rfl (qap_set (j := 0) (Nat.le_of_ble_eq_true rfl)) ?_
  show qEx M_X12_init 235 [qR h.1, qU] [] (qap h 7054 [qOb 12 [qI 0, qI 0, qI 0, qI 0, qI 0, qI 0, qI 0, qI (-1), qR (h.1 + 1), qR (h.1 + 2), qR (h.1 + 3), qR (h.1 + 4), qR (h.1 + 5), qR (h.1 + 6), qR (h.1 + 7), qR (h.1 + 8), qR (h.1 + 9), qR (h.1 + 10), qI 0, qI 0, qI 0, qR (h.1 + 11), qR (h.1 + 12), qR (h.1 + 13), qR (h.1 + 14), qI 0, qR (h.1 + 15), qI 0, qR (h.1 + 16), qR (h.1 + 17), qR (h.1 + 18), qR (h.1 + 19), qR (h.1 + 20), qR (h.1 + 21), qR (h.1 + 22), qR (h.1 + 23), qR (h.1 + 24), qI 0, qI 0, qI 0, qI 0, qR (h.1 + 25), qR (h.1 + 26), qR (h.1 + 27), qN, qN, qN, qN, qI 0, qN, qN, qN, qN, qN, qN], qAr 0 400 (fun _ => 0), qAr 0 384 (fun _ => 0), qAr 0 384 (fun _ => 0), qAr 0 96 (fun _ => 0), qAr 0 4 (fun _ => 0), qAr 0 4 (fun _ => 0), qAr 0 64 (fun _ => 0), qAr 0 64 (fun _ => 0), qAr 0 16 (fun _ => 0), qAr 0 16 (fun _ => 0), qAr 0 167 (fun _ => 0), qAr 0 167 (fun _ => 0), qAr 0 600 (fun _ => 0), qAr 0 1002 (fun _ => 0), qAr 0 32 (fun _ => 0), qAr 0 167 (fun _ => 0), qAr 0 4 (fun _ => 0), qAr 0 4 (fun _ => 0), qAr 0 16 (fun _ => 0), qAr 0 600 (fun _ => 0), qAr 0 384 (fun _ => 0), qAr 0 384 (fun _ => 0), qAr 0 64 (fun _ => 0), qAr 0 32 (fun _ => 0), qAr 0 648 (fun _ => 0), qAr 0 648 (fun _ => 0), qAr 0 648 (fun _ => 0)]) none _
  refine z_aload_n d_X12_init_235 rfl rfl ?_
  refine z_bipush d_X12_init_236 (by decide) ?_
  refine z_newI d_X12_init_238 ac_int (by decide) (by decide) ?_
  refine z_eq rfl rfl qap_new ?_
  show qEx M_X12_init 240 [qR h.1, qU] [qR (h.1 + 28), qR h.1] (qap h 7086 [qOb 12 [qI 0, qI 0, qI 0, qI 0, qI 0, qI 0, qI 0, qI (-1), qR (h.1 + 1), qR (h.1 + 2), qR (h.1 + 3), qR (h.1 + 4), qR (h.1 + 5), qR (h.1 + 6), qR (h.1 + 7), qR (h.1 + 8), qR (h.1 + 9), qR (h.1 + 10), qI 0, qI 0, qI 0, qR (h.1 + 11), qR (h.1 + 12), qR (h.1 + 13), qR (h.1 + 14), qI 0, qR (h.1 + 15), qI 0, qR (h.1 + 16), qR (h.1 + 17), qR (h.1 + 18), qR (h.1 + 19), qR (h.1 + 20), qR (h.1 + 21), qR (h.1 + 22), qR (h.1 + 23), qR (h.1 + 24), qI 0, qI 0, qI 0, qI 0, qR (h.1 + 25), qR (h.1 + 26), qR (h.1 + 27), qN, qN, qN, qN, qI 0, qN, qN, qN, qN, qN, qN], qAr 0 400 (fun _ => 0), qAr 0 384 (fun _ => 0), qAr 0 384 (fun _ => 0), qAr 0 96 (fun _ => 0), qAr 0 4 (fun _ => 0), qAr 0 4 (fun _ => 0), qAr 0 64 (fun _ => 0), qAr 0 64 (fun _ => 0), qAr 0 16 (fun _ => 0), qAr 0 16 (fun _ => 0), qAr 0 167 (fun _ => 0), qAr 0 167 (fun _ => 0), qAr 0 600 (fun _ => 0), qAr 0 1002 (fun _ => 0), qAr 0 32 (fun _ => 0), qAr 0 167 (fun _ => 0), qAr 0 4 (fun _ => 0), qAr 0 4 (fun _ => 0), qAr 0 16 (fun _ => 0), qAr 0 600 (fun _ => 0), qAr 0 384 (fun _ => 0), qAr 0 384 (fun _ => 0), qAr 0 64 (fun _ => 0), qAr 0 32 (fun _ => 0), qAr 0 648 (fun _ => 0), qAr 0 648 (fun _ => 0), qAr 0 648 (fun _ => 0), qAr 0 32 (fun _ => 0)]) none _
  refine z_putF (fs' := [qI 0, qI 0, qI 0, qI 0, qI 0, qI 0, qI 0, qI (-1), qR (h.1 + 1), qR (h.1 + 2), qR (h.1 + 3), qR (h.1 + 4), qR (h.1 + 5), qR (h.1 + 6), qR (h.1 + 7), qR (h.1 + 8), qR (h.1 + 9), qR (h.1 + 10), qI 0, qI 0, qI 0, qR (h.1 + 11), qR (h.1 + 12), qR (h.1 + 13), qR (h.1 + 14), qI 0, qR (h.1 + 15), qI 0, qR (h.1 + 16), qR (h.1 + 17), qR (h.1 + 18), qR (h.1 + 19), qR (h.1 + 20), qR (h.1 + 21), qR (h.1 + 22), qR (h.1 + 23), qR (h.1 + 24), qI 0, qI 0, qI 0, qI 0, qR (h.1 + 25), qR (h.1 + 26), qR (h.1 + 27), qR (h.1 + 28), qN, qN, qN, qI 0, qN, qN, qN, qN, qN, qN]) d_X12_init_240 fp_X12_95 rfl (qap_at (j := 0) rfl) (fun _ => rfl) (fun _ => rfl) (Nat.le_of_ble_eq_true rfl) rfl ?_
  refine z_eq rfl rfl (qap_set (j := 0) (Nat.le_of_ble_eq_true rfl)) ?_
  show qEx M_X12_init 243 [qR h.1, qU] [] (qap h 7086 [qOb 12 [qI 0, qI 0, qI 0, qI 0, qI 0, qI 0, qI 0, qI (-1), qR (h.1 + 1), qR (h.1 + 2), qR (h.1 + 3), qR (h.1 + 4), qR (h.1 + 5), qR (h.1 + 6), qR (h.1 + 7), qR (h.1 + 8), qR (h.1 + 9), qR (h.1 + 10), qI 0, qI 0, qI 0, qR (h.1 + 11), qR (h.1 + 12), qR (h.1 + 13), qR (h.1 + 14), qI 0, qR (h.1 + 15), qI 0, qR (h.1 + 16), qR (h.1 + 17), qR (h.1 + 18), qR (h.1 + 19), qR (h.1 + 20), qR (h.1 + 21), qR (h.1 + 22), qR (h.1 + 23), qR (h.1 + 24), qI 0, qI 0, qI 0, qI 0, qR (h.1 + 25), qR (h.1 + 26), qR (h.1 + 27), qR (h.1 + 28), qN, qN, qN, qI 0, qN, qN, qN, qN, qN, qN], qAr 0 400 (fun _ => 0), qAr 0 384 (fun _ => 0), qAr 0 384 (fun _ => 0), qAr 0 96 (fun _ => 0), qAr 0 4 (fun _ => 0), qAr 0 4 (fun _ => 0), qAr 0 64 (fun _ => 0), qAr 0 64 (fun _ => 0), qAr 0 16 (fun _ => 0), qAr 0 16 (fun _ => 0), qAr 0 167 (fun _ => 0), qAr 0 167 (fun _ => 0), qAr 0 600 (fun _ => 0), qAr 0 1002 (fun _ => 0), qAr 0 32 (fun _ => 0), qAr 0 167 (fun _ => 0), qAr 0 4 (fun _ => 0), qAr 0 4 (fun _ => 0), qAr 0 16 (fun _ => 0), qAr 0 600 (fun _ => 0), qAr 0 384 (fun _ => 0), qAr 0 384 (fun _ => 0), qAr 0 64 (fun _ => 0), qAr 0 32 (fun _ => 0), qAr 0 648 (fun _ => 0), qAr 0 648 (fun _ => 0), qAr 0 648 (fun _ => 0), qAr 0 32 (fun _ => 0)]) none _
  refine z_aload_n d_X12_init_243 rfl rfl ?_
  refine z_bipush d_X12_init_244 (by decide) ?_
  refine z_newI d_X12_init_246 ac_int (by decide) (by decide) ?_
  refine z_eq rfl rfl qap_new ?_
  show qEx M_X12_init 248 [qR h.1, qU] [qR (h.1 + 29), qR h.1] (qap h 7118 [qOb 12 [qI 0, qI 0, qI 0, qI 0, qI 0, qI 0, qI 0, qI (-1), qR (h.1 + 1), qR (h.1 + 2), qR (h.1 + 3), qR (h.1 + 4), qR (h.1 + 5), qR (h.1 + 6), qR (h.1 + 7), qR (h.1 + 8), qR (h.1 + 9), qR (h.1 + 10), qI 0, qI 0, qI 0, qR (h.1 + 11), qR (h.1 + 12), qR (h.1 + 13), qR (h.1 + 14), qI 0, qR (h.1 + 15), qI 0, qR (h.1 + 16), qR (h.1 + 17), qR (h.1 + 18), qR (h.1 + 19), qR (h.1 + 20), qR (h.1 + 21), qR (h.1 + 22), qR (h.1 + 23), qR (h.1 + 24), qI 0, qI 0, qI 0, qI 0, qR (h.1 + 25), qR (h.1 + 26), qR (h.1 + 27), qR (h.1 + 28), qN, qN, qN, qI 0, qN, qN, qN, qN, qN, qN], qAr 0 400 (fun _ => 0), qAr 0 384 (fun _ => 0), qAr 0 384 (fun _ => 0), qAr 0 96 (fun _ => 0), qAr 0 4 (fun _ => 0), qAr 0 4 (fun _ => 0), qAr 0 64 (fun _ => 0), qAr 0 64 (fun _ => 0), qAr 0 16 (fun _ => 0), qAr 0 16 (fun _ => 0), qAr 0 167 (fun _ => 0), qAr 0 167 (fun _ => 0), qAr 0 600 (fun _ => 0), qAr 0 1002 (fun _ => 0), qAr 0 32 (fun _ => 0), qAr 0 167 (fun _ => 0), qAr 0 4 (fun _ => 0), qAr 0 4 (fun _ => 0), qAr 0 16 (fun _ => 0), qAr 0 600 (fun _ => 0), qAr 0 384 (fun _ => 0), qAr 0 384 (fun _ => 0), qAr 0 64 (fun _ => 0), qAr 0 32 (fun _ => 0), qAr 0 648 (fun _ => 0), qAr 0 648 (fun _ => 0), qAr 0 648 (fun _ => 0), qAr 0 32 (fun _ => 0), qAr 0 32 (fun _ => 0)]) none _
  refine z_putF (fs' := [qI 0, qI 0, qI 0, qI 0, qI 0, qI 0, qI 0, qI (-1), qR (h.1 + 1), qR (h.1 + 2), qR (h.1 + 3), qR (h.1 + 4), qR (h.1 + 5), qR (h.1 + 6), qR (h.1 + 7), qR (h.1 + 8), qR (h.1 + 9), qR (h.1 + 10), qI 0, qI 0, qI 0, qR (h.1 + 11), qR (h.1 + 12), qR (h.1 + 13), qR (h.1 + 14), qI 0, qR (h.1 + 15), qI 0, qR (h.1 + 16), qR (h.1 + 17), qR (h.1 + 18), qR (h.1 + 19), qR (h.1 + 20), qR (h.1 + 21), qR (h.1 + 22), qR (h.1 + 23), qR (h.1 + 24), qI 0, qI 0, qI 0, qI 0, qR (h.1 + 25), qR (h.1 + 26), qR (h.1 + 27), qR (h.1 + 28), qR (h.1 + 29), qN, qN, qI 0, qN, qN, qN, qN, qN, qN]) d_X12_init_248 fp_X12_98 rfl (qap_at (j := 0) rfl) (fun _ => rfl) (fun _ => rfl) (Nat.le_of_ble_eq_true rfl) rfl ?_
  refine z_eq rfl rfl (qap_set (j := 0) (Nat.le_of_ble_eq_true rfl)) ?_
  show qEx M_X12_init 251 [qR h.1, qU] [] (qap h 7118 [qOb 12 [qI 0, qI 0, qI 0, qI 0, qI 0, qI 0, qI 0, qI (-1), qR (h.1 + 1), qR (h.1 + 2), qR (h.1 + 3), qR (h.1 + 4), qR (h.1 + 5), qR (h.1 + 6), qR (h.1 + 7), qR (h.1 + 8), qR (h.1 + 9), qR (h.1 + 10), qI 0, qI 0, qI 0, qR (h.1 + 11), qR (h.1 + 12), qR (h.1 + 13), qR (h.1 + 14), qI 0, qR (h.1 + 15), qI 0, qR (h.1 + 16), qR (h.1 + 17), qR (h.1 + 18), qR (h.1 + 19), qR (h.1 + 20), qR (h.1 + 21), qR (h.1 + 22), qR (h.1 + 23), qR (h.1 + 24), qI 0, qI 0, qI 0, qI 0, qR (h.1 + 25), qR (h.1 + 26), qR (h.1 + 27), qR (h.1 + 28), qR (h.1 + 29), qN, qN, qI 0, qN, qN, qN, qN, qN, qN], qAr 0 400 (fun _ => 0), qAr 0 384 (fun _ => 0), qAr 0 384 (fun _ => 0), qAr 0 96 (fun _ => 0), qAr 0 4 (fun _ => 0), qAr 0 4 (fun _ => 0), qAr 0 64 (fun _ => 0), qAr 0 64 (fun _ => 0), qAr 0 16 (fun _ => 0), qAr 0 16 (fun _ => 0), qAr 0 167 (fun _ => 0), qAr 0 167 (fun _ => 0), qAr 0 600 (fun _ => 0), qAr 0 1002 (fun _ => 0), qAr 0 32 (fun _ => 0), qAr 0 167 (fun _ => 0), qAr 0 4 (fun _ => 0), qAr 0 4 (fun _ => 0), qAr 0 16 (fun _ => 0), qAr 0 600 (fun _ => 0), qAr 0 384 (fun _ => 0), qAr 0 384 (fun _ => 0), qAr 0 64 (fun _ => 0), qAr 0 32 (fun _ => 0), qAr 0 648 (fun _ => 0), qAr 0 648 (fun _ => 0), qAr 0 648 (fun _ => 0), qAr 0 32 (fun _ => 0), qAr 0 32 (fun _ => 0)]) none _
  refine z_aload_n d_X12_init_251 rfl rfl ?_
  refine z_bipush d_X12_init_252 (by decide) ?_
  refine z_newI d_X12_init_254 ac_int (by decide) (by decide) ?_
  refine z_eq rfl rfl qap_new ?_
  show qEx M_X12_init 256 [qR h.1, qU] [qR (h.1 + 30), qR h.1] (qap h 7150 [qOb 12 [qI 0, qI 0, qI 0, qI 0, qI 0, qI 0, qI 0, qI (-1), qR (h.1 + 1), qR (h.1 + 2), qR (h.1 + 3), qR (h.1 + 4), qR (h.1 + 5), qR (h.1 + 6), qR (h.1 + 7), qR (h.1 + 8), qR (h.1 + 9), qR (h.1 + 10), qI 0, qI 0, qI 0, qR (h.1 + 11), qR (h.1 + 12), qR (h.1 + 13), qR (h.1 + 14), qI 0, qR (h.1 + 15), qI 0, qR (h.1 + 16), qR (h.1 + 17), qR (h.1 + 18), qR (h.1 + 19), qR (h.1 + 20), qR (h.1 + 21), qR (h.1 + 22), qR (h.1 + 23), qR (h.1 + 24), qI 0, qI 0, qI 0, qI 0, qR (h.1 + 25), qR (h.1 + 26), qR (h.1 + 27), qR (h.1 + 28), qR (h.1 + 29), qN, qN, qI 0, qN, qN, qN, qN, qN, qN], qAr 0 400 (fun _ => 0), qAr 0 384 (fun _ => 0), qAr 0 384 (fun _ => 0), qAr 0 96 (fun _ => 0), qAr 0 4 (fun _ => 0), qAr 0 4 (fun _ => 0), qAr 0 64 (fun _ => 0), qAr 0 64 (fun _ => 0), qAr 0 16 (fun _ => 0), qAr 0 16 (fun _ => 0), qAr 0 167 (fun _ => 0), qAr 0 167 (fun _ => 0), qAr 0 600 (fun _ => 0), qAr 0 1002 (fun _ => 0), qAr 0 32 (fun _ => 0), qAr 0 167 (fun _ => 0), qAr 0 4 (fun _ => 0), qAr 0 4 (fun _ => 0), qAr 0 16 (fun _ => 0), qAr 0 600 (fun _ => 0), qAr 0 384 (fun _ => 0), qAr 0 384 (fun _ => 0), qAr 0 64 (fun _ => 0), qAr 0 32 (fun _ => 0), qAr 0 648 (fun _ => 0), qAr 0 648 (fun _ => 0), qAr 0 648 (fun _ => 0), qAr 0 32 (fun _ => 0), qAr 0 32 (fun _ => 0), qAr 0 32 (fun _ => 0)]) none _
  refine z_putF (fs' := [qI 0, qI 0, qI 0, qI 0, qI 0, qI 0, qI 0, qI (-1), qR (h.1 + 1), qR (h.1 + 2), qR (h.1 + 3), qR (h.1 + 4), qR (h.1 + 5), qR (h.1 + 6), qR (h.1 + 7), qR (h.1 + 8), qR (h.1 + 9), qR (h.1 + 10), qI 0, qI 0, qI 0, qR (h.1 + 11), qR (h.1 + 12), qR (h.1 + 13), qR (h.1 + 14), qI 0, qR (h.1 + 15), qI 0, qR (h.1 + 16), qR (h.1 + 17), qR (h.1 + 18), qR (h.1 + 19), qR (h.1 + 20), qR (h.1 + 21), qR (h.1 + 22), qR (h.1 + 23), qR (h.1 + 24), qI 0, qI 0, qI 0, qI 0, qR (h.1 + 25), qR (h.1 + 26), qR (h.1 + 27), qR (h.1 + 28), qR (h.1 + 29), qR (h.1 + 30), qN, qI 0, qN, qN, qN, qN, qN, qN]) d_X12_init_256 fp_X12_101 rfl (qap_at (j := 0) rfl) (fun _ => rfl) (fun _ => rfl) (Nat.le_of_ble_eq_true rfl) rfl ?_
  refine z_eq rfl rfl (qap_set (j := 0) (Nat.le_of_ble_eq_true rfl)) ?_
  show qEx M_X12_init 259 [qR h.1, qU] [] (qap h 7150 [qOb 12 [qI 0, qI 0, qI 0, qI 0, qI 0, qI 0, qI 0, qI (-1), qR (h.1 + 1), qR (h.1 + 2), qR (h.1 + 3), qR (h.1 + 4), qR (h.1 + 5), qR (h.1 + 6), qR (h.1 + 7), qR (h.1 + 8), qR (h.1 + 9), qR (h.1 + 10), qI 0, qI 0, qI 0, qR (h.1 + 11), qR (h.1 + 12), qR (h.1 + 13), qR (h.1 + 14), qI 0, qR (h.1 + 15), qI 0, qR (h.1 + 16), qR (h.1 + 17), qR (h.1 + 18), qR (h.1 + 19), qR (h.1 + 20), qR (h.1 + 21), qR (h.1 + 22), qR (h.1 + 23), qR (h.1 + 24), qI 0, qI 0, qI 0, qI 0, qR (h.1 + 25), qR (h.1 + 26), qR (h.1 + 27), qR (h.1 + 28), qR (h.1 + 29), qR (h.1 + 30), qN, qI 0, qN, qN, qN, qN, qN, qN], qAr 0 400 (fun _ => 0), qAr 0 384 (fun _ => 0), qAr 0 384 (fun _ => 0), qAr 0 96 (fun _ => 0), qAr 0 4 (fun _ => 0), qAr 0 4 (fun _ => 0), qAr 0 64 (fun _ => 0), qAr 0 64 (fun _ => 0), qAr 0 16 (fun _ => 0), qAr 0 16 (fun _ => 0), qAr 0 167 (fun _ => 0), qAr 0 167 (fun _ => 0), qAr 0 600 (fun _ => 0), qAr 0 1002 (fun _ => 0), qAr 0 32 (fun _ => 0), qAr 0 167 (fun _ => 0), qAr 0 4 (fun _ => 0), qAr 0 4 (fun _ => 0), qAr 0 16 (fun _ => 0), qAr 0 600 (fun _ => 0), qAr 0 384 (fun _ => 0), qAr 0 384 (fun _ => 0), qAr 0 64 (fun _ => 0), qAr 0 32 (fun _ => 0), qAr 0 648 (fun _ => 0), qAr 0 648 (fun _ => 0), qAr 0 648 (fun _ => 0), qAr 0 32 (fun _ => 0), qAr 0 32 (fun _ => 0), qAr 0 32 (fun _ => 0)]) none _
  refine z_aload_n d_X12_init_259 rfl rfl ?_
  refine z_bipush d_X12_init_260 (by decide) ?_
  refine z_newZ d_X12_init_262 ac_boolean (by decide) (by decide) ?_
  refine z_eq rfl rfl qap_new ?_
  show qEx M_X12_init 264 [qR h.1, qU] [qR (h.1 + 31), qR h.1] (qap h 7246 [qOb 12 [qI 0, qI 0, qI 0, qI 0, qI 0, qI 0, qI 0, qI (-1), qR (h.1 + 1), qR (h.1 + 2), qR (h.1 + 3), qR (h.1 + 4), qR (h.1 + 5), qR (h.1 + 6), qR (h.1 + 7), qR (h.1 + 8), qR (h.1 + 9), qR (h.1 + 10), qI 0, qI 0, qI 0, qR (h.1 + 11), qR (h.1 + 12), qR (h.1 + 13), qR (h.1 + 14), qI 0, qR (h.1 + 15), qI 0, qR (h.1 + 16), qR (h.1 + 17), qR (h.1 + 18), qR (h.1 + 19), qR (h.1 + 20), qR (h.1 + 21), qR (h.1 + 22), qR (h.1 + 23), qR (h.1 + 24), qI 0, qI 0, qI 0, qI 0, qR (h.1 + 25), qR (h.1 + 26), qR (h.1 + 27), qR (h.1 + 28), qR (h.1 + 29), qR (h.1 + 30), qN, qI 0, qN, qN, qN, qN, qN, qN], qAr 0 400 (fun _ => 0), qAr 0 384 (fun _ => 0), qAr 0 384 (fun _ => 0), qAr 0 96 (fun _ => 0), qAr 0 4 (fun _ => 0), qAr 0 4 (fun _ => 0), qAr 0 64 (fun _ => 0), qAr 0 64 (fun _ => 0), qAr 0 16 (fun _ => 0), qAr 0 16 (fun _ => 0), qAr 0 167 (fun _ => 0), qAr 0 167 (fun _ => 0), qAr 0 600 (fun _ => 0), qAr 0 1002 (fun _ => 0), qAr 0 32 (fun _ => 0), qAr 0 167 (fun _ => 0), qAr 0 4 (fun _ => 0), qAr 0 4 (fun _ => 0), qAr 0 16 (fun _ => 0), qAr 0 600 (fun _ => 0), qAr 0 384 (fun _ => 0), qAr 0 384 (fun _ => 0), qAr 0 64 (fun _ => 0), qAr 0 32 (fun _ => 0), qAr 0 648 (fun _ => 0), qAr 0 648 (fun _ => 0), qAr 0 648 (fun _ => 0), qAr 0 32 (fun _ => 0), qAr 0 32 (fun _ => 0), qAr 0 32 (fun _ => 0), qAr 2 96 (fun _ => 0)]) none _
  refine z_putF (fs' := [qI 0, qI 0, qI 0, qI 0, qI 0, qI 0, qI 0, qI (-1), qR (h.1 + 1), qR (h.1 + 2), qR (h.1 + 3), qR (h.1 + 4), qR (h.1 + 5), qR (h.1 + 6), qR (h.1 + 7), qR (h.1 + 8), qR (h.1 + 9), qR (h.1 + 10), qI 0, qI 0, qI 0, qR (h.1 + 11), qR (h.1 + 12), qR (h.1 + 13), qR (h.1 + 14), qI 0, qR (h.1 + 15), qI 0, qR (h.1 + 16), qR (h.1 + 17), qR (h.1 + 18), qR (h.1 + 19), qR (h.1 + 20), qR (h.1 + 21), qR (h.1 + 22), qR (h.1 + 23), qR (h.1 + 24), qI 0, qI 0, qI 0, qI 0, qR (h.1 + 25), qR (h.1 + 26), qR (h.1 + 27), qR (h.1 + 28), qR (h.1 + 29), qR (h.1 + 30), qR (h.1 + 31), qI 0, qN, qN, qN, qN, qN, qN]) d_X12_init_264 fp_X12_104 rfl (qap_at (j := 0) rfl) (fun _ => rfl) (fun _ => rfl) (Nat.le_of_ble_eq_true rfl) rfl ?_
  refine z_eq rfl rfl (qap_set (j := 0) (Nat.le_of_ble_eq_true rfl)) ?_
  show qEx M_X12_init 267 [qR h.1, qU] [] (qap h 7246 [qOb 12 [qI 0, qI 0, qI 0, qI 0, qI 0, qI 0, qI 0, qI (-1), qR (h.1 + 1), qR (h.1 + 2), qR (h.1 + 3), qR (h.1 + 4), qR (h.1 + 5), qR (h.1 + 6), qR (h.1 + 7), qR (h.1 + 8), qR (h.1 + 9), qR (h.1 + 10), qI 0, qI 0, qI 0, qR (h.1 + 11), qR (h.1 + 12), qR (h.1 + 13), qR (h.1 + 14), qI 0, qR (h.1 + 15), qI 0, qR (h.1 + 16), qR (h.1 + 17), qR (h.1 + 18), qR (h.1 + 19), qR (h.1 + 20), qR (h.1 + 21), qR (h.1 + 22), qR (h.1 + 23), qR (h.1 + 24), qI 0, qI 0, qI 0, qI 0, qR (h.1 + 25), qR (h.1 + 26), qR (h.1 + 27), qR (h.1 + 28), qR (h.1 + 29), qR (h.1 + 30), qR (h.1 + 31), qI 0, qN, qN, qN, qN, qN, qN], qAr 0 400 (fun _ => 0), qAr 0 384 (fun _ => 0), qAr 0 384 (fun _ => 0), qAr 0 96 (fun _ => 0), qAr 0 4 (fun _ => 0), qAr 0 4 (fun _ => 0), qAr 0 64 (fun _ => 0), qAr 0 64 (fun _ => 0), qAr 0 16 (fun _ => 0), qAr 0 16 (fun _ => 0), qAr 0 167 (fun _ => 0), qAr 0 167 (fun _ => 0), qAr 0 600 (fun _ => 0), qAr 0 1002 (fun _ => 0), qAr 0 32 (fun _ => 0), qAr 0 167 (fun _ => 0), qAr 0 4 (fun _ => 0), qAr 0 4 (fun _ => 0), qAr 0 16 (fun _ => 0), qAr 0 600 (fun _ => 0), qAr 0 384 (fun _ => 0), qAr 0 384 (fun _ => 0), qAr 0 64 (fun _ => 0), qAr 0 32 (fun _ => 0), qAr 0 648 (fun _ => 0), qAr 0 648 (fun _ => 0), qAr 0 648 (fun _ => 0), qAr 0 32 (fun _ => 0), qAr 0 32 (fun _ => 0), qAr 0 32 (fun _ => 0), qAr 2 96 (fun _ => 0)]) none _
  refine z_aload_n d_X12_init_267 rfl rfl ?_
  refine z_bipush d_X12_init_268 (by decide) ?_
  refine z_newJ d_X12_init_270 ac_long (by decide) (by decide) ?_
  refine z_eq rfl rfl qap_new ?_
  show qEx M_X12_init 272 [qR h.1, qU] [qR (h.1 + 32), qR h.1] (qap h 7327 [qOb 12 [qI 0, qI 0, qI 0, qI 0, qI 0, qI 0, qI 0, qI (-1), qR (h.1 + 1), qR (h.1 + 2), qR (h.1 + 3), qR (h.1 + 4), qR (h.1 + 5), qR (h.1 + 6), qR (h.1 + 7), qR (h.1 + 8), qR (h.1 + 9), qR (h.1 + 10), qI 0, qI 0, qI 0, qR (h.1 + 11), qR (h.1 + 12), qR (h.1 + 13), qR (h.1 + 14), qI 0, qR (h.1 + 15), qI 0, qR (h.1 + 16), qR (h.1 + 17), qR (h.1 + 18), qR (h.1 + 19), qR (h.1 + 20), qR (h.1 + 21), qR (h.1 + 22), qR (h.1 + 23), qR (h.1 + 24), qI 0, qI 0, qI 0, qI 0, qR (h.1 + 25), qR (h.1 + 26), qR (h.1 + 27), qR (h.1 + 28), qR (h.1 + 29), qR (h.1 + 30), qR (h.1 + 31), qI 0, qN, qN, qN, qN, qN, qN], qAr 0 400 (fun _ => 0), qAr 0 384 (fun _ => 0), qAr 0 384 (fun _ => 0), qAr 0 96 (fun _ => 0), qAr 0 4 (fun _ => 0), qAr 0 4 (fun _ => 0), qAr 0 64 (fun _ => 0), qAr 0 64 (fun _ => 0), qAr 0 16 (fun _ => 0), qAr 0 16 (fun _ => 0), qAr 0 167 (fun _ => 0), qAr 0 167 (fun _ => 0), qAr 0 600 (fun _ => 0), qAr 0 1002 (fun _ => 0), qAr 0 32 (fun _ => 0), qAr 0 167 (fun _ => 0), qAr 0 4 (fun _ => 0), qAr 0 4 (fun _ => 0), qAr 0 16 (fun _ => 0), qAr 0 600 (fun _ => 0), qAr 0 384 (fun _ => 0), qAr 0 384 (fun _ => 0), qAr 0 64 (fun _ => 0), qAr 0 32 (fun _ => 0), qAr 0 648 (fun _ => 0), qAr 0 648 (fun _ => 0), qAr 0 648 (fun _ => 0), qAr 0 32 (fun _ => 0), qAr 0 32 (fun _ => 0), qAr 0 32 (fun _ => 0), qAr 2 96 (fun _ => 0), qAr 1 81 (fun _ => 0)]) none _
  refine z_putF (fs' := [qI 0, qI 0, qI 0, qI 0, qI 0, qI 0, qI 0, qI (-1), qR (h.1 + 1), qR (h.1 + 2), qR (h.1 + 3), qR (h.1 + 4), qR (h.1 + 5), qR (h.1 + 6), qR (h.1 + 7), qR (h.1 + 8), qR (h.1 + 9), qR (h.1 + 10), qI 0, qI 0, qI 0, qR (h.1 + 11), qR (h.1 + 12), qR (h.1 + 13), qR (h.1 + 14), qI 0, qR (h.1 + 15), qI 0, qR (h.1 + 16), qR (h.1 + 17), qR (h.1 + 18), qR (h.1 + 19), qR (h.1 + 20), qR (h.1 + 21), qR (h.1 + 22), qR (h.1 + 23), qR (h.1 + 24), qI 0, qI 0, qI 0, qI 0, qR (h.1 + 25), qR (h.1 + 26), qR (h.1 + 27), qR (h.1 + 28), qR (h.1 + 29), qR (h.1 + 30), qR (h.1 + 31), qI 0, qR (h.1 + 32), qN, qN, qN, qN, qN]) d_X12_init_272 fp_X12_108 rfl (qap_at (j := 0) rfl) (fun _ => rfl) (fun _ => rfl) (Nat.le_of_ble_eq_true rfl) rfl ?_
  refine z_eq rfl rfl (qap_set (j := 0) (Nat.le_of_ble_eq_true rfl)) ?_
  show qEx M_X12_init 275 [qR h.1, qU] [] (qap h 7327 [qOb 12 [qI 0, qI 0, qI 0, qI 0, qI 0, qI 0, qI 0, qI (-1), qR (h.1 + 1), qR (h.1 + 2), qR (h.1 + 3), qR (h.1 + 4), qR (h.1 + 5), qR (h.1 + 6), qR (h.1 + 7), qR (h.1 + 8), qR (h.1 + 9), qR (h.1 + 10), qI 0, qI 0, qI 0, qR (h.1 + 11), qR (h.1 + 12), qR (h.1 + 13), qR (h.1 + 14), qI 0, qR (h.1 + 15), qI 0, qR (h.1 + 16), qR (h.1 + 17), qR (h.1 + 18), qR (h.1 + 19), qR (h.1 + 20), qR (h.1 + 21), qR (h.1 + 22), qR (h.1 + 23), qR (h.1 + 24), qI 0, qI 0, qI 0, qI 0, qR (h.1 + 25), qR (h.1 + 26), qR (h.1 + 27), qR (h.1 + 28), qR (h.1 + 29), qR (h.1 + 30), qR (h.1 + 31), qI 0, qR (h.1 + 32), qN, qN, qN, qN, qN], qAr 0 400 (fun _ => 0), qAr 0 384 (fun _ => 0), qAr 0 384 (fun _ => 0), qAr 0 96 (fun _ => 0), qAr 0 4 (fun _ => 0), qAr 0 4 (fun _ => 0), qAr 0 64 (fun _ => 0), qAr 0 64 (fun _ => 0), qAr 0 16 (fun _ => 0), qAr 0 16 (fun _ => 0), qAr 0 167 (fun _ => 0), qAr 0 167 (fun _ => 0), qAr 0 600 (fun _ => 0), qAr 0 1002 (fun _ => 0), qAr 0 32 (fun _ => 0), qAr 0 167 (fun _ => 0), qAr 0 4 (fun _ => 0), qAr 0 4 (fun _ => 0), qAr 0 16 (fun _ => 0), qAr 0 600 (fun _ => 0), qAr 0 384 (fun _ => 0), qAr 0 384 (fun _ => 0), qAr 0 64 (fun _ => 0), qAr 0 32 (fun _ => 0), qAr 0 648 (fun _ => 0), qAr 0 648 (fun _ => 0), qAr 0 648 (fun _ => 0), qAr 0 32 (fun _ => 0), qAr 0 32 (fun _ => 0), qAr 0 32 (fun _ => 0), qAr 2 96 (fun _ => 0), qAr 1 81 (fun _ => 0)]) none _
  refine z_aload_n d_X12_init_275 rfl rfl ?_
  refine z_bipush d_X12_init_276 (by decide) ?_
  refine z_newJ d_X12_init_278 ac_long (by decide) (by decide) ?_
  refine z_eq rfl rfl qap_new ?_
  show qEx M_X12_init 280 [qR h.1, qU] [qR (h.1 + 33), qR h.1] (qap h 7408 [qOb 12 [qI 0, qI 0, qI 0, qI 0, qI 0, qI 0, qI 0, qI (-1), qR (h.1 + 1), qR (h.1 + 2), qR (h.1 + 3), qR (h.1 + 4), qR (h.1 + 5), qR (h.1 + 6), qR (h.1 + 7), qR (h.1 + 8), qR (h.1 + 9), qR (h.1 + 10), qI 0, qI 0, qI 0, qR (h.1 + 11), qR (h.1 + 12), qR (h.1 + 13), qR (h.1 + 14), qI 0, qR (h.1 + 15), qI 0, qR (h.1 + 16), qR (h.1 + 17), qR (h.1 + 18), qR (h.1 + 19), qR (h.1 + 20), qR (h.1 + 21), qR (h.1 + 22), qR (h.1 + 23), qR (h.1 + 24), qI 0, qI 0, qI 0, qI 0, qR (h.1 + 25), qR (h.1 + 26), qR (h.1 + 27), qR (h.1 + 28), qR (h.1 + 29), qR (h.1 + 30), qR (h.1 + 31), qI 0, qR (h.1 + 32), qN, qN, qN, qN, qN], qAr 0 400 (fun _ => 0), qAr 0 384 (fun _ => 0), qAr 0 384 (fun _ => 0), qAr 0 96 (fun _ => 0), qAr 0 4 (fun _ => 0), qAr 0 4 (fun _ => 0), qAr 0 64 (fun _ => 0), qAr 0 64 (fun _ => 0), qAr 0 16 (fun _ => 0), qAr 0 16 (fun _ => 0), qAr 0 167 (fun _ => 0), qAr 0 167 (fun _ => 0), qAr 0 600 (fun _ => 0), qAr 0 1002 (fun _ => 0), qAr 0 32 (fun _ => 0), qAr 0 167 (fun _ => 0), qAr 0 4 (fun _ => 0), qAr 0 4 (fun _ => 0), qAr 0 16 (fun _ => 0), qAr 0 600 (fun _ => 0), qAr 0 384 (fun _ => 0), qAr 0 384 (fun _ => 0), qAr 0 64 (fun _ => 0), qAr 0 32 (fun _ => 0), qAr 0 648 (fun _ => 0), qAr 0 648 (fun _ => 0), qAr 0 648 (fun _ => 0), qAr 0 32 (fun _ => 0), qAr 0 32 (fun _ => 0), qAr 0 32 (fun _ => 0), qAr 2 96 (fun _ => 0), qAr 1 81 (fun _ => 0), qAr 1 81 (fun _ => 0)]) none _
  refine z_putF (fs' := [qI 0, qI 0, qI 0, qI 0, qI 0, qI 0, qI 0, qI (-1), qR (h.1 + 1), qR (h.1 + 2), qR (h.1 + 3), qR (h.1 + 4), qR (h.1 + 5), qR (h.1 + 6), qR (h.1 + 7), qR (h.1 + 8), qR (h.1 + 9), qR (h.1 + 10), qI 0, qI 0, qI 0, qR (h.1 + 11), qR (h.1 + 12), qR (h.1 + 13), qR (h.1 + 14), qI 0, qR (h.1 + 15), qI 0, qR (h.1 + 16), qR (h.1 + 17), qR (h.1 + 18), qR (h.1 + 19), qR (h.1 + 20), qR (h.1 + 21), qR (h.1 + 22), qR (h.1 + 23), qR (h.1 + 24), qI 0, qI 0, qI 0, qI 0, qR (h.1 + 25), qR (h.1 + 26), qR (h.1 + 27), qR (h.1 + 28), qR (h.1 + 29), qR (h.1 + 30), qR (h.1 + 31), qI 0, qR (h.1 + 32), qR (h.1 + 33), qN, qN, qN, qN]) d_X12_init_280 fp_X12_112 rfl (qap_at (j := 0) rfl) (fun _ => rfl) (fun _ => rfl) (Nat.le_of_ble_eq_true rfl) rfl ?_
  refine z_eq rfl rfl (qap_set (j := 0) (Nat.le_of_ble_eq_true rfl)) ?_
  show qEx M_X12_init 283 [qR h.1, qU] [] (qap h 7408 [qOb 12 [qI 0, qI 0, qI 0, qI 0, qI 0, qI 0, qI 0, qI (-1), qR (h.1 + 1), qR (h.1 + 2), qR (h.1 + 3), qR (h.1 + 4), qR (h.1 + 5), qR (h.1 + 6), qR (h.1 + 7), qR (h.1 + 8), qR (h.1 + 9), qR (h.1 + 10), qI 0, qI 0, qI 0, qR (h.1 + 11), qR (h.1 + 12), qR (h.1 + 13), qR (h.1 + 14), qI 0, qR (h.1 + 15), qI 0, qR (h.1 + 16), qR (h.1 + 17), qR (h.1 + 18), qR (h.1 + 19), qR (h.1 + 20), qR (h.1 + 21), qR (h.1 + 22), qR (h.1 + 23), qR (h.1 + 24), qI 0, qI 0, qI 0, qI 0, qR (h.1 + 25), qR (h.1 + 26), qR (h.1 + 27), qR (h.1 + 28), qR (h.1 + 29), qR (h.1 + 30), qR (h.1 + 31), qI 0, qR (h.1 + 32), qR (h.1 + 33), qN, qN, qN, qN], qAr 0 400 (fun _ => 0), qAr 0 384 (fun _ => 0), qAr 0 384 (fun _ => 0), qAr 0 96 (fun _ => 0), qAr 0 4 (fun _ => 0), qAr 0 4 (fun _ => 0), qAr 0 64 (fun _ => 0), qAr 0 64 (fun _ => 0), qAr 0 16 (fun _ => 0), qAr 0 16 (fun _ => 0), qAr 0 167 (fun _ => 0), qAr 0 167 (fun _ => 0), qAr 0 600 (fun _ => 0), qAr 0 1002 (fun _ => 0), qAr 0 32 (fun _ => 0), qAr 0 167 (fun _ => 0), qAr 0 4 (fun _ => 0), qAr 0 4 (fun _ => 0), qAr 0 16 (fun _ => 0), qAr 0 600 (fun _ => 0), qAr 0 384 (fun _ => 0), qAr 0 384 (fun _ => 0), qAr 0 64 (fun _ => 0), qAr 0 32 (fun _ => 0), qAr 0 648 (fun _ => 0), qAr 0 648 (fun _ => 0), qAr 0 648 (fun _ => 0), qAr 0 32 (fun _ => 0), qAr 0 32 (fun _ => 0), qAr 0 32 (fun _ => 0), qAr 2 96 (fun _ => 0), qAr 1 81 (fun _ => 0), qAr 1 81 (fun _ => 0)]) none _
  refine z_aload_n d_X12_init_283 rfl rfl ?_
  refine z_sipush d_X12_init_284 (by decide) ?_
  refine z_newJ d_X12_init_287 ac_long (by decide) (by decide) ?_
  refine z_eq rfl rfl qap_new ?_
  show qEx M_X12_init 289 [qR h.1, qU] [qR (h.1 + 34), qR h.1] (qap h 15412 [qOb 12 [qI 0, qI 0, qI 0, qI 0, qI 0, qI 0, qI 0, qI (-1), qR (h.1 + 1), qR (h.1 + 2), qR (h.1 + 3), qR (h.1 + 4), qR (h.1 + 5), qR (h.1 + 6), qR (h.1 + 7), qR (h.1 + 8), qR (h.1 + 9), qR (h.1 + 10), qI 0, qI 0, qI 0, qR (h.1 + 11), qR (h.1 + 12), qR (h.1 + 13), qR (h.1 + 14), qI 0, qR (h.1 + 15), qI 0, qR (h.1 + 16), qR (h.1 + 17), qR (h.1 + 18), qR (h.1 + 19), qR (h.1 + 20), qR (h.1 + 21), qR (h.1 + 22), qR (h.1 + 23), qR (h.1 + 24), qI 0, qI 0, qI 0, qI 0, qR (h.1 + 25), qR (h.1 + 26), qR (h.1 + 27), qR (h.1 + 28), qR (h.1 + 29), qR (h.1 + 30), qR (h.1 + 31), qI 0, qR (h.1 + 32), qR (h.1 + 33), qN, qN, qN, qN], qAr 0 400 (fun _ => 0), qAr 0 384 (fun _ => 0), qAr 0 384 (fun _ => 0), qAr 0 96 (fun _ => 0), qAr 0 4 (fun _ => 0), qAr 0 4 (fun _ => 0), qAr 0 64 (fun _ => 0), qAr 0 64 (fun _ => 0), qAr 0 16 (fun _ => 0), qAr 0 16 (fun _ => 0), qAr 0 167 (fun _ => 0), qAr 0 167 (fun _ => 0), qAr 0 600 (fun _ => 0), qAr 0 1002 (fun _ => 0), qAr 0 32 (fun _ => 0), qAr 0 167 (fun _ => 0), qAr 0 4 (fun _ => 0), qAr 0 4 (fun _ => 0), qAr 0 16 (fun _ => 0), qAr 0 600 (fun _ => 0), qAr 0 384 (fun _ => 0), qAr 0 384 (fun _ => 0), qAr 0 64 (fun _ => 0), qAr 0 32 (fun _ => 0), qAr 0 648 (fun _ => 0), qAr 0 648 (fun _ => 0), qAr 0 648 (fun _ => 0), qAr 0 32 (fun _ => 0), qAr 0 32 (fun _ => 0), qAr 0 32 (fun _ => 0), qAr 2 96 (fun _ => 0), qAr 1 81 (fun _ => 0), qAr 1 81 (fun _ => 0), qAr 1 8004 (fun _ => 0)]) none _
  refine z_putF (fs' := [qI 0, qI 0, qI 0, qI 0, qI 0, qI 0, qI 0, qI (-1), qR (h.1 + 1), qR (h.1 + 2), qR (h.1 + 3), qR (h.1 + 4), qR (h.1 + 5), qR (h.1 + 6), qR (h.1 + 7), qR (h.1 + 8), qR (h.1 + 9), qR (h.1 + 10), qI 0, qI 0, qI 0, qR (h.1 + 11), qR (h.1 + 12), qR (h.1 + 13), qR (h.1 + 14), qI 0, qR (h.1 + 15), qI 0, qR (h.1 + 16), qR (h.1 + 17), qR (h.1 + 18), qR (h.1 + 19), qR (h.1 + 20), qR (h.1 + 21), qR (h.1 + 22), qR (h.1 + 23), qR (h.1 + 24), qI 0, qI 0, qI 0, qI 0, qR (h.1 + 25), qR (h.1 + 26), qR (h.1 + 27), qR (h.1 + 28), qR (h.1 + 29), qR (h.1 + 30), qR (h.1 + 31), qI 0, qR (h.1 + 32), qR (h.1 + 33), qR (h.1 + 34), qN, qN, qN]) d_X12_init_289 fp_X12_115 rfl (qap_at (j := 0) rfl) (fun _ => rfl) (fun _ => rfl) (Nat.le_of_ble_eq_true rfl) rfl ?_
  refine z_eq rfl rfl (qap_set (j := 0) (Nat.le_of_ble_eq_true rfl)) ?_
  show qEx M_X12_init 292 [qR h.1, qU] [] (qap h 15412 [qOb 12 [qI 0, qI 0, qI 0, qI 0, qI 0, qI 0, qI 0, qI (-1), qR (h.1 + 1), qR (h.1 + 2), qR (h.1 + 3), qR (h.1 + 4), qR (h.1 + 5), qR (h.1 + 6), qR (h.1 + 7), qR (h.1 + 8), qR (h.1 + 9), qR (h.1 + 10), qI 0, qI 0, qI 0, qR (h.1 + 11), qR (h.1 + 12), qR (h.1 + 13), qR (h.1 + 14), qI 0, qR (h.1 + 15), qI 0, qR (h.1 + 16), qR (h.1 + 17), qR (h.1 + 18), qR (h.1 + 19), qR (h.1 + 20), qR (h.1 + 21), qR (h.1 + 22), qR (h.1 + 23), qR (h.1 + 24), qI 0, qI 0, qI 0, qI 0, qR (h.1 + 25), qR (h.1 + 26), qR (h.1 + 27), qR (h.1 + 28), qR (h.1 + 29), qR (h.1 + 30), qR (h.1 + 31), qI 0, qR (h.1 + 32), qR (h.1 + 33), qR (h.1 + 34), qN, qN, qN], qAr 0 400 (fun _ => 0), qAr 0 384 (fun _ => 0), qAr 0 384 (fun _ => 0), qAr 0 96 (fun _ => 0), qAr 0 4 (fun _ => 0), qAr 0 4 (fun _ => 0), qAr 0 64 (fun _ => 0), qAr 0 64 (fun _ => 0), qAr 0 16 (fun _ => 0), qAr 0 16 (fun _ => 0), qAr 0 167 (fun _ => 0), qAr 0 167 (fun _ => 0), qAr 0 600 (fun _ => 0), qAr 0 1002 (fun _ => 0), qAr 0 32 (fun _ => 0), qAr 0 167 (fun _ => 0), qAr 0 4 (fun _ => 0), qAr 0 4 (fun _ => 0), qAr 0 16 (fun _ => 0), qAr 0 600 (fun _ => 0), qAr 0 384 (fun _ => 0), qAr 0 384 (fun _ => 0), qAr 0 64 (fun _ => 0), qAr 0 32 (fun _ => 0), qAr 0 648 (fun _ => 0), qAr 0 648 (fun _ => 0), qAr 0 648 (fun _ => 0), qAr 0 32 (fun _ => 0), qAr 0 32 (fun _ => 0), qAr 0 32 (fun _ => 0), qAr 2 96 (fun _ => 0), qAr 1 81 (fun _ => 0), qAr 1 81 (fun _ => 0), qAr 1 8004 (fun _ => 0)]) none _
  refine z_aload_n d_X12_init_292 rfl rfl ?_
  refine z_sipush d_X12_init_293 (by decide) ?_
  refine z_newI d_X12_init_296 ac_int (by decide) (by decide) ?_
  refine z_eq rfl rfl qap_new ?_
  show qEx M_X12_init 298 [qR h.1, qU] [qR (h.1 + 35), qR h.1] (qap h 15796 [qOb 12 [qI 0, qI 0, qI 0, qI 0, qI 0, qI 0, qI 0, qI (-1), qR (h.1 + 1), qR (h.1 + 2), qR (h.1 + 3), qR (h.1 + 4), qR (h.1 + 5), qR (h.1 + 6), qR (h.1 + 7), qR (h.1 + 8), qR (h.1 + 9), qR (h.1 + 10), qI 0, qI 0, qI 0, qR (h.1 + 11), qR (h.1 + 12), qR (h.1 + 13), qR (h.1 + 14), qI 0, qR (h.1 + 15), qI 0, qR (h.1 + 16), qR (h.1 + 17), qR (h.1 + 18), qR (h.1 + 19), qR (h.1 + 20), qR (h.1 + 21), qR (h.1 + 22), qR (h.1 + 23), qR (h.1 + 24), qI 0, qI 0, qI 0, qI 0, qR (h.1 + 25), qR (h.1 + 26), qR (h.1 + 27), qR (h.1 + 28), qR (h.1 + 29), qR (h.1 + 30), qR (h.1 + 31), qI 0, qR (h.1 + 32), qR (h.1 + 33), qR (h.1 + 34), qN, qN, qN], qAr 0 400 (fun _ => 0), qAr 0 384 (fun _ => 0), qAr 0 384 (fun _ => 0), qAr 0 96 (fun _ => 0), qAr 0 4 (fun _ => 0), qAr 0 4 (fun _ => 0), qAr 0 64 (fun _ => 0), qAr 0 64 (fun _ => 0), qAr 0 16 (fun _ => 0), qAr 0 16 (fun _ => 0), qAr 0 167 (fun _ => 0), qAr 0 167 (fun _ => 0), qAr 0 600 (fun _ => 0), qAr 0 1002 (fun _ => 0), qAr 0 32 (fun _ => 0), qAr 0 167 (fun _ => 0), qAr 0 4 (fun _ => 0), qAr 0 4 (fun _ => 0), qAr 0 16 (fun _ => 0), qAr 0 600 (fun _ => 0), qAr 0 384 (fun _ => 0), qAr 0 384 (fun _ => 0), qAr 0 64 (fun _ => 0), qAr 0 32 (fun _ => 0), qAr 0 648 (fun _ => 0), qAr 0 648 (fun _ => 0), qAr 0 648 (fun _ => 0), qAr 0 32 (fun _ => 0), qAr 0 32 (fun _ => 0), qAr 0 32 (fun _ => 0), qAr 2 96 (fun _ => 0), qAr 1 81 (fun _ => 0), qAr 1 81 (fun _ => 0), qAr 1 8004 (fun _ => 0), qAr 0 384 (fun _ => 0)]) none _
  refine z_putF (fs' := [qI 0, qI 0, qI 0, qI 0, qI 0, qI 0, qI 0, qI (-1), qR (h.1 + 1), qR (h.1 + 2), qR (h.1 + 3), qR (h.1 + 4), qR (h.1 + 5), qR (h.1 + 6), qR (h.1 + 7), qR (h.1 + 8), qR (h.1 + 9), qR (h.1 + 10), qI 0, qI 0, qI 0, qR (h.1 + 11), qR (h.1 + 12), qR (h.1 + 13), qR (h.1 + 14), qI 0, qR (h.1 + 15), qI 0, qR (h.1 + 16), qR (h.1 + 17), qR (h.1 + 18), qR (h.1 + 19), qR (h.1 + 20), qR (h.1 + 21), qR (h.1 + 22), qR (h.1 + 23), qR (h.1 + 24), qI 0, qI 0, qI 0, qI 0, qR (h.1 + 25), qR (h.1 + 26), qR (h.1 + 27), qR (h.1 + 28), qR (h.1 + 29), qR (h.1 + 30), qR (h.1 + 31), qI 0, qR (h.1 + 32), qR (h.1 + 33), qR (h.1 + 34), qR (h.1 + 35), qN, qN]) d_X12_init_298 fp_X12_118 rfl (qap_at (j := 0) rfl) (fun _ => rfl) (fun _ => rfl) (Nat.le_of_ble_eq_true rfl) rfl ?_
  refine z_eq rfl rfl (qap_set (j := 0) (Nat.le_of_ble_eq_true rfl)) ?_
  show qEx M_X12_init 301 [qR h.1, qU] [] (qap h 15796 [qOb 12 [qI 0, qI 0, qI 0, qI 0, qI 0, qI 0, qI 0, qI (-1), qR (h.1 + 1), qR (h.1 + 2), qR (h.1 + 3), qR (h.1 + 4), qR (h.1 + 5), qR (h.1 + 6), qR (h.1 + 7), qR (h.1 + 8), qR (h.1 + 9), qR (h.1 + 10), qI 0, qI 0, qI 0, qR (h.1 + 11), qR (h.1 + 12), qR (h.1 + 13), qR (h.1 + 14), qI 0, qR (h.1 + 15), qI 0, qR (h.1 + 16), qR (h.1 + 17), qR (h.1 + 18), qR (h.1 + 19), qR (h.1 + 20), qR (h.1 + 21), qR (h.1 + 22), qR (h.1 + 23), qR (h.1 + 24), qI 0, qI 0, qI 0, qI 0, qR (h.1 + 25), qR (h.1 + 26), qR (h.1 + 27), qR (h.1 + 28), qR (h.1 + 29), qR (h.1 + 30), qR (h.1 + 31), qI 0, qR (h.1 + 32), qR (h.1 + 33), qR (h.1 + 34), qR (h.1 + 35), qN, qN], qAr 0 400 (fun _ => 0), qAr 0 384 (fun _ => 0), qAr 0 384 (fun _ => 0), qAr 0 96 (fun _ => 0), qAr 0 4 (fun _ => 0), qAr 0 4 (fun _ => 0), qAr 0 64 (fun _ => 0), qAr 0 64 (fun _ => 0), qAr 0 16 (fun _ => 0), qAr 0 16 (fun _ => 0), qAr 0 167 (fun _ => 0), qAr 0 167 (fun _ => 0), qAr 0 600 (fun _ => 0), qAr 0 1002 (fun _ => 0), qAr 0 32 (fun _ => 0), qAr 0 167 (fun _ => 0), qAr 0 4 (fun _ => 0), qAr 0 4 (fun _ => 0), qAr 0 16 (fun _ => 0), qAr 0 600 (fun _ => 0), qAr 0 384 (fun _ => 0), qAr 0 384 (fun _ => 0), qAr 0 64 (fun _ => 0), qAr 0 32 (fun _ => 0), qAr 0 648 (fun _ => 0), qAr 0 648 (fun _ => 0), qAr 0 648 (fun _ => 0), qAr 0 32 (fun _ => 0), qAr 0 32 (fun _ => 0), qAr 0 32 (fun _ => 0), qAr 2 96 (fun _ => 0), qAr 1 81 (fun _ => 0), qAr 1 81 (fun _ => 0), qAr 1 8004 (fun _ => 0), qAr 0 384 (fun _ => 0)]) none _
  refine z_aload_n d_X12_init_301 rfl rfl ?_
  refine z_iconst d_X12_init_302 (by decide) ?_
  refine z_newI d_X12_init_303 ac_int (by decide) (by decide) ?_
  refine z_eq rfl rfl qap_new ?_
  show qEx M_X12_init 305 [qR h.1, qU] [qR (h.1 + 36), qR h.1] (qap h 15800 [qOb 12 [qI 0, qI 0, qI 0, qI 0, qI 0, qI 0, qI 0, qI (-1), qR (h.1 + 1), qR (h.1 + 2), qR (h.1 + 3), qR (h.1 + 4), qR (h.1 + 5), qR (h.1 + 6), qR (h.1 + 7), qR (h.1 + 8), qR (h.1 + 9), qR (h.1 + 10), qI 0, qI 0, qI 0, qR (h.1 + 11), qR (h.1 + 12), qR (h.1 + 13), qR (h.1 + 14), qI 0, qR (h.1 + 15), qI 0, qR (h.1 + 16), qR (h.1 + 17), qR (h.1 + 18), qR (h.1 + 19), qR (h.1 + 20), qR (h.1 + 21), qR (h.1 + 22), qR (h.1 + 23), qR (h.1 + 24), qI 0, qI 0, qI 0, qI 0, qR (h.1 + 25), qR (h.1 + 26), qR (h.1 + 27), qR (h.1 + 28), qR (h.1 + 29), qR (h.1 + 30), qR (h.1 + 31), qI 0, qR (h.1 + 32), qR (h.1 + 33), qR (h.1 + 34), qR (h.1 + 35), qN, qN], qAr 0 400 (fun _ => 0), qAr 0 384 (fun _ => 0), qAr 0 384 (fun _ => 0), qAr 0 96 (fun _ => 0), qAr 0 4 (fun _ => 0), qAr 0 4 (fun _ => 0), qAr 0 64 (fun _ => 0), qAr 0 64 (fun _ => 0), qAr 0 16 (fun _ => 0), qAr 0 16 (fun _ => 0), qAr 0 167 (fun _ => 0), qAr 0 167 (fun _ => 0), qAr 0 600 (fun _ => 0), qAr 0 1002 (fun _ => 0), qAr 0 32 (fun _ => 0), qAr 0 167 (fun _ => 0), qAr 0 4 (fun _ => 0), qAr 0 4 (fun _ => 0), qAr 0 16 (fun _ => 0), qAr 0 600 (fun _ => 0), qAr 0 384 (fun _ => 0), qAr 0 384 (fun _ => 0), qAr 0 64 (fun _ => 0), qAr 0 32 (fun _ => 0), qAr 0 648 (fun _ => 0), qAr 0 648 (fun _ => 0), qAr 0 648 (fun _ => 0), qAr 0 32 (fun _ => 0), qAr 0 32 (fun _ => 0), qAr 0 32 (fun _ => 0), qAr 2 96 (fun _ => 0), qAr 1 81 (fun _ => 0), qAr 1 81 (fun _ => 0), qAr 1 8004 (fun _ => 0), qAr 0 384 (fun _ => 0), qAr 0 4 (fun _ => 0)]) none _
  refine z_putF (fs' := [qI 0, qI 0, qI 0, qI 0, qI 0, qI 0, qI 0, qI (-1), qR (h.1 + 1), qR (h.1 + 2), qR (h.1 + 3), qR (h.1 + 4), qR (h.1 + 5), qR (h.1 + 6), qR (h.1 + 7), qR (h.1 + 8), qR (h.1 + 9), qR (h.1 + 10), qI 0, qI 0, qI 0, qR (h.1 + 11), qR (h.1 + 12), qR (h.1 + 13), qR (h.1 + 14), qI 0, qR (h.1 + 15), qI 0, qR (h.1 + 16), qR (h.1 + 17), qR (h.1 + 18), qR (h.1 + 19), qR (h.1 + 20), qR (h.1 + 21), qR (h.1 + 22), qR (h.1 + 23), qR (h.1 + 24), qI 0, qI 0, qI 0, qI 0, qR (h.1 + 25), qR (h.1 + 26), qR (h.1 + 27), qR (h.1 + 28), qR (h.1 + 29), qR (h.1 + 30), qR (h.1 + 31), qI 0, qR (h.1 + 32), qR (h.1 + 33), qR (h.1 + 34), qR (h.1 + 35), qR (h.1 + 36), qN]) d_X12_init_305 fp_X12_121 rfl (qap_at (j := 0) rfl) (fun _ => rfl) (fun _ => rfl) (Nat.le_of_ble_eq_true rfl) rfl ?_
  refine z_eq rfl rfl (qap_set (j := 0) (Nat.le_of_ble_eq_true rfl)) ?_
  show qEx M_X12_init 308 [qR h.1, qU] [] (qap h 15800 [qOb 12 [qI 0, qI 0, qI 0, qI 0, qI 0, qI 0, qI 0, qI (-1), qR (h.1 + 1), qR (h.1 + 2), qR (h.1 + 3), qR (h.1 + 4), qR (h.1 + 5), qR (h.1 + 6), qR (h.1 + 7), qR (h.1 + 8), qR (h.1 + 9), qR (h.1 + 10), qI 0, qI 0, qI 0, qR (h.1 + 11), qR (h.1 + 12), qR (h.1 + 13), qR (h.1 + 14), qI 0, qR (h.1 + 15), qI 0, qR (h.1 + 16), qR (h.1 + 17), qR (h.1 + 18), qR (h.1 + 19), qR (h.1 + 20), qR (h.1 + 21), qR (h.1 + 22), qR (h.1 + 23), qR (h.1 + 24), qI 0, qI 0, qI 0, qI 0, qR (h.1 + 25), qR (h.1 + 26), qR (h.1 + 27), qR (h.1 + 28), qR (h.1 + 29), qR (h.1 + 30), qR (h.1 + 31), qI 0, qR (h.1 + 32), qR (h.1 + 33), qR (h.1 + 34), qR (h.1 + 35), qR (h.1 + 36), qN], qAr 0 400 (fun _ => 0), qAr 0 384 (fun _ => 0), qAr 0 384 (fun _ => 0), qAr 0 96 (fun _ => 0), qAr 0 4 (fun _ => 0), qAr 0 4 (fun _ => 0), qAr 0 64 (fun _ => 0), qAr 0 64 (fun _ => 0), qAr 0 16 (fun _ => 0), qAr 0 16 (fun _ => 0), qAr 0 167 (fun _ => 0), qAr 0 167 (fun _ => 0), qAr 0 600 (fun _ => 0), qAr 0 1002 (fun _ => 0), qAr 0 32 (fun _ => 0), qAr 0 167 (fun _ => 0), qAr 0 4 (fun _ => 0), qAr 0 4 (fun _ => 0), qAr 0 16 (fun _ => 0), qAr 0 600 (fun _ => 0), qAr 0 384 (fun _ => 0), qAr 0 384 (fun _ => 0), qAr 0 64 (fun _ => 0), qAr 0 32 (fun _ => 0), qAr 0 648 (fun _ => 0), qAr 0 648 (fun _ => 0), qAr 0 648 (fun _ => 0), qAr 0 32 (fun _ => 0), qAr 0 32 (fun _ => 0), qAr 0 32 (fun _ => 0), qAr 2 96 (fun _ => 0), qAr 1 81 (fun _ => 0), qAr 1 81 (fun _ => 0), qAr 1 8004 (fun _ => 0), qAr 0 384 (fun _ => 0), qAr 0 4 (fun _ => 0)]) none _
  refine z_aload_n d_X12_init_308 rfl rfl ?_
  refine z_bipush d_X12_init_309 (by decide) ?_
  refine z_newI d_X12_init_311 ac_int (by decide) (by decide) ?_
  refine z_eq rfl rfl qap_new ?_
  show qEx M_X12_init 313 [qR h.1, qU] [qR (h.1 + 37), qR h.1] (qap h 15832 [qOb 12 [qI 0, qI 0, qI 0, qI 0, qI 0, qI 0, qI 0, qI (-1), qR (h.1 + 1), qR (h.1 + 2), qR (h.1 + 3), qR (h.1 + 4), qR (h.1 + 5), qR (h.1 + 6), qR (h.1 + 7), qR (h.1 + 8), qR (h.1 + 9), qR (h.1 + 10), qI 0, qI 0, qI 0, qR (h.1 + 11), qR (h.1 + 12), qR (h.1 + 13), qR (h.1 + 14), qI 0, qR (h.1 + 15), qI 0, qR (h.1 + 16), qR (h.1 + 17), qR (h.1 + 18), qR (h.1 + 19), qR (h.1 + 20), qR (h.1 + 21), qR (h.1 + 22), qR (h.1 + 23), qR (h.1 + 24), qI 0, qI 0, qI 0, qI 0, qR (h.1 + 25), qR (h.1 + 26), qR (h.1 + 27), qR (h.1 + 28), qR (h.1 + 29), qR (h.1 + 30), qR (h.1 + 31), qI 0, qR (h.1 + 32), qR (h.1 + 33), qR (h.1 + 34), qR (h.1 + 35), qR (h.1 + 36), qN], qAr 0 400 (fun _ => 0), qAr 0 384 (fun _ => 0), qAr 0 384 (fun _ => 0), qAr 0 96 (fun _ => 0), qAr 0 4 (fun _ => 0), qAr 0 4 (fun _ => 0), qAr 0 64 (fun _ => 0), qAr 0 64 (fun _ => 0), qAr 0 16 (fun _ => 0), qAr 0 16 (fun _ => 0), qAr 0 167 (fun _ => 0), qAr 0 167 (fun _ => 0), qAr 0 600 (fun _ => 0), qAr 0 1002 (fun _ => 0), qAr 0 32 (fun _ => 0), qAr 0 167 (fun _ => 0), qAr 0 4 (fun _ => 0), qAr 0 4 (fun _ => 0), qAr 0 16 (fun _ => 0), qAr 0 600 (fun _ => 0), qAr 0 384 (fun _ => 0), qAr 0 384 (fun _ => 0), qAr 0 64 (fun _ => 0), qAr 0 32 (fun _ => 0), qAr 0 648 (fun _ => 0), qAr 0 648 (fun _ => 0), qAr 0 648 (fun _ => 0), qAr 0 32 (fun _ => 0), qAr 0 32 (fun _ => 0), qAr 0 32 (fun _ => 0), qAr 2 96 (fun _ => 0), qAr 1 81 (fun _ => 0), qAr 1 81 (fun _ => 0), qAr 1 8004 (fun _ => 0), qAr 0 384 (fun _ => 0), qAr 0 4 (fun _ => 0), qAr 0 32 (fun _ => 0)]) none _
  refine z_putF (fs' := [qI 0, qI 0, qI 0, qI 0, qI 0, qI 0, qI 0, qI (-1), qR (h.1 + 1), qR (h.1 + 2), qR (h.1 + 3), qR (h.1 + 4), qR (h.1 + 5), qR (h.1 + 6), qR (h.1 + 7), qR (h.1 + 8), qR (h.1 + 9), qR (h.1 + 10), qI 0, qI 0, qI 0, qR (h.1 + 11), qR (h.1 + 12), qR (h.1 + 13), qR (h.1 + 14), qI 0, qR (h.1 + 15), qI 0, qR (h.1 + 16), qR (h.1 + 17), qR (h.1 + 18), qR (h.1 + 19), qR (h.1 + 20), qR (h.1 + 21), qR (h.1 + 22), qR (h.1 + 23), qR (h.1 + 24), qI 0, qI 0, qI 0, qI 0, qR (h.1 + 25), qR (h.1 + 26), qR (h.1 + 27), qR (h.1 + 28), qR (h.1 + 29), qR (h.1 + 30), qR (h.1 + 31), qI 0, qR (h.1 + 32), qR (h.1 + 33), qR (h.1 + 34), qR (h.1 + 35), qR (h.1 + 36), qR (h.1 + 37)]) d_X12_init_313 fp_X12_124 rfl (qap_at (j := 0) rfl) (fun _ => rfl) (fun _ => rfl) (Nat.le_of_ble_eq_true rfl) rfl ?_
  refine z_eq rfl rfl (qap_set (j := 0) (Nat.le_of_ble_eq_true rfl)) ?_
  show qEx M_X12_init 316 [qR h.1, qU] [] (qap h 15832 [qOb 12 [qI 0, qI 0, qI 0, qI 0, qI 0, qI 0, qI 0, qI (-1), qR (h.1 + 1), qR (h.1 + 2), qR (h.1 + 3), qR (h.1 + 4), qR (h.1 + 5), qR (h.1 + 6), qR (h.1 + 7), qR (h.1 + 8), qR (h.1 + 9), qR (h.1 + 10), qI 0, qI 0, qI 0, qR (h.1 + 11), qR (h.1 + 12), qR (h.1 + 13), qR (h.1 + 14), qI 0, qR (h.1 + 15), qI 0, qR (h.1 + 16), qR (h.1 + 17), qR (h.1 + 18), qR (h.1 + 19), qR (h.1 + 20), qR (h.1 + 21), qR (h.1 + 22), qR (h.1 + 23), qR (h.1 + 24), qI 0, qI 0, qI 0, qI 0, qR (h.1 + 25), qR (h.1 + 26), qR (h.1 + 27), qR (h.1 + 28), qR (h.1 + 29), qR (h.1 + 30), qR (h.1 + 31), qI 0, qR (h.1 + 32), qR (h.1 + 33), qR (h.1 + 34), qR (h.1 + 35), qR (h.1 + 36), qR (h.1 + 37)], qAr 0 400 (fun _ => 0), qAr 0 384 (fun _ => 0), qAr 0 384 (fun _ => 0), qAr 0 96 (fun _ => 0), qAr 0 4 (fun _ => 0), qAr 0 4 (fun _ => 0), qAr 0 64 (fun _ => 0), qAr 0 64 (fun _ => 0), qAr 0 16 (fun _ => 0), qAr 0 16 (fun _ => 0), qAr 0 167 (fun _ => 0), qAr 0 167 (fun _ => 0), qAr 0 600 (fun _ => 0), qAr 0 1002 (fun _ => 0), qAr 0 32 (fun _ => 0), qAr 0 167 (fun _ => 0), qAr 0 4 (fun _ => 0), qAr 0 4 (fun _ => 0), qAr 0 16 (fun _ => 0), qAr 0 600 (fun _ => 0), qAr 0 384 (fun _ => 0), qAr 0 384 (fun _ => 0), qAr 0 64 (fun _ => 0), qAr 0 32 (fun _ => 0), qAr 0 648 (fun _ => 0), qAr 0 648 (fun _ => 0), qAr 0 648 (fun _ => 0), qAr 0 32 (fun _ => 0), qAr 0 32 (fun _ => 0), qAr 0 32 (fun _ => 0), qAr 2 96 (fun _ => 0), qAr 1 81 (fun _ => 0), qAr 1 81 (fun _ => 0), qAr 1 8004 (fun _ => 0), qAr 0 384 (fun _ => 0), qAr 0 4 (fun _ => 0), qAr 0 32 (fun _ => 0)]) none _
  refine z_aload_n d_X12_init_316 rfl rfl ?_
  refine z_getf (v := qR (h.1 + 11)) d_X12_init_317 fl_X12_44 (qap_at (j := 0) rfl) rfl ?_
  refine z_sipush d_X12_init_320 (by decide) ?_
  refine z_iconst d_X12_init_323 (by decide) ?_
  refine z_ist 164 d_X12_init_324 (qap_at (j := 11) rfl) (by have := h2; omega) rfl (by omega) ?_
  refine z_eq rfl rfl (qap_set (j := 11) (Nat.le_of_ble_eq_true rfl)) ?_
  show qEx M_X12_init 325 [qR h.1, qU] [] (qap h 15832 [qOb 12 [qI 0, qI 0, qI 0, qI 0, qI 0, qI 0, qI 0, qI (-1), qR (h.1 + 1), qR (h.1 + 2), qR (h.1 + 3), qR (h.1 + 4), qR (h.1 + 5), qR (h.1 + 6), qR (h.1 + 7), qR (h.1 + 8), qR (h.1 + 9), qR (h.1 + 10), qI 0, qI 0, qI 0, qR (h.1 + 11), qR (h.1 + 12), qR (h.1 + 13), qR (h.1 + 14), qI 0, qR (h.1 + 15), qI 0, qR (h.1 + 16), qR (h.1 + 17), qR (h.1 + 18), qR (h.1 + 19), qR (h.1 + 20), qR (h.1 + 21), qR (h.1 + 22), qR (h.1 + 23), qR (h.1 + 24), qI 0, qI 0, qI 0, qI 0, qR (h.1 + 25), qR (h.1 + 26), qR (h.1 + 27), qR (h.1 + 28), qR (h.1 + 29), qR (h.1 + 30), qR (h.1 + 31), qI 0, qR (h.1 + 32), qR (h.1 + 33), qR (h.1 + 34), qR (h.1 + 35), qR (h.1 + 36), qR (h.1 + 37)], qAr 0 400 (fun _ => 0), qAr 0 384 (fun _ => 0), qAr 0 384 (fun _ => 0), qAr 0 96 (fun _ => 0), qAr 0 4 (fun _ => 0), qAr 0 4 (fun _ => 0), qAr 0 64 (fun _ => 0), qAr 0 64 (fun _ => 0), qAr 0 16 (fun _ => 0), qAr 0 16 (fun _ => 0), qAr 0 167 (qup (fun _ => 0) 164 (-1)), qAr 0 167 (fun _ => 0), qAr 0 600 (fun _ => 0), qAr 0 1002 (fun _ => 0), qAr 0 32 (fun _ => 0), qAr 0 167 (fun _ => 0), qAr 0 4 (fun _ => 0), qAr 0 4 (fun _ => 0), qAr 0 16 (fun _ => 0), qAr 0 600 (fun _ => 0), qAr 0 384 (fun _ => 0), qAr 0 384 (fun _ => 0), qAr 0 64 (fun _ => 0), qAr 0 32 (fun _ => 0), qAr 0 648 (fun _ => 0), qAr 0 648 (fun _ => 0), qAr 0 648 (fun _ => 0), qAr 0 32 (fun _ => 0), qAr 0 32 (fun _ => 0), qAr 0 32 (fun _ => 0), qAr 2 96 (fun _ => 0), qAr 1 81 (fun _ => 0), qAr 1 81 (fun _ => 0), qAr 1 8004 (fun _ => 0), qAr 0 384 (fun _ => 0), qAr 0 4 (fun _ => 0), qAr 0 32 (fun _ => 0)]) none _
  refine z_iconst d_X12_init_325 (by decide) ?_
  refine z_istore_n (ls' := [qR h.1, qI 0]) d_X12_init_326 rfl (by decide) rfl ?_
  refine z_eq rfl rfl (show qap h 15832 _ = qap h 15832 [qOb 12 [qI 0, qI 0, qI 0, qI 0, qI 0, qI 0, qI 0, qI (-1), qR (h.1 + 1), qR (h.1 + 2), qR (h.1 + 3), qR (h.1 + 4), qR (h.1 + 5), qR (h.1 + 6), qR (h.1 + 7), qR (h.1 + 8), qR (h.1 + 9), qR (h.1 + 10), qI 0, qI 0, qI 0, qR (h.1 + 11), qR (h.1 + 12), qR (h.1 + 13), qR (h.1 + 14), qI 0, qR (h.1 + 15), qI 0, qR (h.1 + 16), qR (h.1 + 17), qR (h.1 + 18), qR (h.1 + 19), qR (h.1 + 20), qR (h.1 + 21), qR (h.1 + 22), qR (h.1 + 23), qR (h.1 + 24), qI 0, qI 0, qI 0, qI 0, qR (h.1 + 25), qR (h.1 + 26), qR (h.1 + 27), qR (h.1 + 28), qR (h.1 + 29), qR (h.1 + 30), qR (h.1 + 31), qI 0, qR (h.1 + 32), qR (h.1 + 33), qR (h.1 + 34), qR (h.1 + 35), qR (h.1 + 36), qR (h.1 + 37)], qAr 0 400 (fun _ => 0), qAr 0 384 (fun _ => 0), qAr 0 384 (fun _ => 0), qAr 0 96 (fun _ => 0), qAr 0 4 (fun _ => 0), qAr 0 4 (fun _ => 0), qAr 0 64 (fun _ => 0), qAr 0 64 (fun _ => 0), qAr 0 16 (fil dd0 0), qAr 0 16 (fun _ => 0), qAr 0 167 (qup (fun _ => 0) 164 (-1)), qAr 0 167 (fun _ => 0), qAr 0 600 (fun _ => 0), qAr 0 1002 (fun _ => 0), qAr 0 32 (fun _ => 0), qAr 0 167 (fun _ => 0), qAr 0 4 (fun _ => 0), qAr 0 4 (fun _ => 0), qAr 0 16 (fun _ => 0), qAr 0 600 (fun _ => 0), qAr 0 384 (fun _ => 0), qAr 0 384 (fun _ => 0), qAr 0 64 (fun _ => 0), qAr 0 32 (fun _ => 0), qAr 0 648 (fun _ => 0), qAr 0 648 (fun _ => 0), qAr 0 648 (fun _ => 0), qAr 0 32 (fun _ => 0), qAr 0 32 (fun _ => 0), qAr 0 32 (fun _ => 0), qAr 2 96 (fun _ => 0), qAr 1 81 (fun _ => 0), qAr 1 81 (fun _ => 0), qAr 1 8004 (fun _ => 0), qAr 0 384 (fun _ => 0), qAr 0 4 (fun _ => 0), qAr 0 32 (fun _ => 0)] by rw [← fil_0 dd0]) ?_
  refine z_for 16 (fun i => [qR h.1, qI ((i : Nat) : Int)]) (fun i => qap h 15832 [qOb 12 [qI 0, qI 0, qI 0, qI 0, qI 0, qI 0, qI 0, qI (-1), qR (h.1 + 1), qR (h.1 + 2), qR (h.1 + 3), qR (h.1 + 4), qR (h.1 + 5), qR (h.1 + 6), qR (h.1 + 7), qR (h.1 + 8), qR (h.1 + 9), qR (h.1 + 10), qI 0, qI 0, qI 0, qR (h.1 + 11), qR (h.1 + 12), qR (h.1 + 13), qR (h.1 + 14), qI 0, qR (h.1 + 15), qI 0, qR (h.1 + 16), qR (h.1 + 17), qR (h.1 + 18), qR (h.1 + 19), qR (h.1 + 20), qR (h.1 + 21), qR (h.1 + 22), qR (h.1 + 23), qR (h.1 + 24), qI 0, qI 0, qI 0, qI 0, qR (h.1 + 25), qR (h.1 + 26), qR (h.1 + 27), qR (h.1 + 28), qR (h.1 + 29), qR (h.1 + 30), qR (h.1 + 31), qI 0, qR (h.1 + 32), qR (h.1 + 33), qR (h.1 + 34), qR (h.1 + 35), qR (h.1 + 36), qR (h.1 + 37)], qAr 0 400 (fun _ => 0), qAr 0 384 (fun _ => 0), qAr 0 384 (fun _ => 0), qAr 0 96 (fun _ => 0), qAr 0 4 (fun _ => 0), qAr 0 4 (fun _ => 0), qAr 0 64 (fun _ => 0), qAr 0 64 (fun _ => 0), qAr 0 16 (fil dd0 i), qAr 0 16 (fun _ => 0), qAr 0 167 (qup (fun _ => 0) 164 (-1)), qAr 0 167 (fun _ => 0), qAr 0 600 (fun _ => 0), qAr 0 1002 (fun _ => 0), qAr 0 32 (fun _ => 0), qAr 0 167 (fun _ => 0), qAr 0 4 (fun _ => 0), qAr 0 4 (fun _ => 0), qAr 0 16 (fun _ => 0), qAr 0 600 (fun _ => 0), qAr 0 384 (fun _ => 0), qAr 0 384 (fun _ => 0), qAr 0 64 (fun _ => 0), qAr 0 32 (fun _ => 0), qAr 0 648 (fun _ => 0), qAr 0 648 (fun _ => 0), qAr 0 648 (fun _ => 0), qAr 0 32 (fun _ => 0), qAr 0 32 (fun _ => 0), qAr 0 32 (fun _ => 0), qAr 2 96 (fun _ => 0), qAr 1 81 (fun _ => 0), qAr 1 81 (fun _ => 0), qAr 1 8004 (fun _ => 0), qAr 0 384 (fun _ => 0), qAr 0 4 (fun _ => 0), qAr 0 32 (fun _ => 0)]) (fun _ => True) trivial (fun i hi _ k9 => ?_) (fun _ => ?_)
  · show qEx M_X12_init 327 [qR h.1, qI (i : Int)] [] (qap h 15832 [qOb 12 [qI 0, qI 0, qI 0, qI 0, qI 0, qI 0, qI 0, qI (-1), qR (h.1 + 1), qR (h.1 + 2), qR (h.1 + 3), qR (h.1 + 4), qR (h.1 + 5), qR (h.1 + 6), qR (h.1 + 7), qR (h.1 + 8), qR (h.1 + 9), qR (h.1 + 10), qI 0, qI 0, qI 0, qR (h.1 + 11), qR (h.1 + 12), qR (h.1 + 13), qR (h.1 + 14), qI 0, qR (h.1 + 15), qI 0, qR (h.1 + 16), qR (h.1 + 17), qR (h.1 + 18), qR (h.1 + 19), qR (h.1 + 20), qR (h.1 + 21), qR (h.1 + 22), qR (h.1 + 23), qR (h.1 + 24), qI 0, qI 0, qI 0, qI 0, qR (h.1 + 25), qR (h.1 + 26), qR (h.1 + 27), qR (h.1 + 28), qR (h.1 + 29), qR (h.1 + 30), qR (h.1 + 31), qI 0, qR (h.1 + 32), qR (h.1 + 33), qR (h.1 + 34), qR (h.1 + 35), qR (h.1 + 36), qR (h.1 + 37)], qAr 0 400 (fun _ => 0), qAr 0 384 (fun _ => 0), qAr 0 384 (fun _ => 0), qAr 0 96 (fun _ => 0), qAr 0 4 (fun _ => 0), qAr 0 4 (fun _ => 0), qAr 0 64 (fun _ => 0), qAr 0 64 (fun _ => 0), qAr 0 16 (fil dd0 i), qAr 0 16 (fun _ => 0), qAr 0 167 (qup (fun _ => 0) 164 (-1)), qAr 0 167 (fun _ => 0), qAr 0 600 (fun _ => 0), qAr 0 1002 (fun _ => 0), qAr 0 32 (fun _ => 0), qAr 0 167 (fun _ => 0), qAr 0 4 (fun _ => 0), qAr 0 4 (fun _ => 0), qAr 0 16 (fun _ => 0), qAr 0 600 (fun _ => 0), qAr 0 384 (fun _ => 0), qAr 0 384 (fun _ => 0), qAr 0 64 (fun _ => 0), qAr 0 32 (fun _ => 0), qAr 0 648 (fun _ => 0), qAr 0 648 (fun _ => 0), qAr 0 648 (fun _ => 0), qAr 0 32 (fun _ => 0), qAr 0 32 (fun _ => 0), qAr 0 32 (fun _ => 0), qAr 2 96 (fun _ => 0), qAr 1 81 (fun _ => 0), qAr 1 81 (fun _ => 0), qAr 1 8004 (fun _ => 0), qAr 0 384 (fun _ => 0), qAr 0 4 (fun _ => 0), qAr 0 32 (fun _ => 0)]) none _
    refine z_iload_n d_X12_init_327 rfl rfl ?_
    refine z_bipush d_X12_init_328 (by decide) ?_
    refine z_icmp_ge 346 d_X12_init_330 (by decide) (fun hc => absurd hc (by omega)) (fun hc => ?_)
    refine z_aload_n d_X12_init_333 rfl rfl ?_
    refine z_getf (v := qR (h.1 + 9)) d_X12_init_334 fl_X12_38 (qap_at (j := 0) rfl) rfl ?_
    refine z_iload_n d_X12_init_337 rfl rfl ?_
    refine z_iconst d_X12_init_338 (by decide) ?_
    refine z_ist i d_X12_init_339 (qap_at (j := 9) rfl) (by have := h2; omega) rfl (by omega) ?_
    refine z_eq rfl rfl ((qap_set (j := 9) (Nat.le_of_ble_eq_true rfl)).trans (show qap h 15832 _ = (qap h 15832 [qOb 12 [qI 0, qI 0, qI 0, qI 0, qI 0, qI 0, qI 0, qI (-1), qR (h.1 + 1), qR (h.1 + 2), qR (h.1 + 3), qR (h.1 + 4), qR (h.1 + 5), qR (h.1 + 6), qR (h.1 + 7), qR (h.1 + 8), qR (h.1 + 9), qR (h.1 + 10), qI 0, qI 0, qI 0, qR (h.1 + 11), qR (h.1 + 12), qR (h.1 + 13), qR (h.1 + 14), qI 0, qR (h.1 + 15), qI 0, qR (h.1 + 16), qR (h.1 + 17), qR (h.1 + 18), qR (h.1 + 19), qR (h.1 + 20), qR (h.1 + 21), qR (h.1 + 22), qR (h.1 + 23), qR (h.1 + 24), qI 0, qI 0, qI 0, qI 0, qR (h.1 + 25), qR (h.1 + 26), qR (h.1 + 27), qR (h.1 + 28), qR (h.1 + 29), qR (h.1 + 30), qR (h.1 + 31), qI 0, qR (h.1 + 32), qR (h.1 + 33), qR (h.1 + 34), qR (h.1 + 35), qR (h.1 + 36), qR (h.1 + 37)], qAr 0 400 (fun _ => 0), qAr 0 384 (fun _ => 0), qAr 0 384 (fun _ => 0), qAr 0 96 (fun _ => 0), qAr 0 4 (fun _ => 0), qAr 0 4 (fun _ => 0), qAr 0 64 (fun _ => 0), qAr 0 64 (fun _ => 0), qAr 0 16 (fil dd0 (i + 1)), qAr 0 16 (fun _ => 0), qAr 0 167 (qup (fun _ => 0) 164 (-1)), qAr 0 167 (fun _ => 0), qAr 0 600 (fun _ => 0), qAr 0 1002 (fun _ => 0), qAr 0 32 (fun _ => 0), qAr 0 167 (fun _ => 0), qAr 0 4 (fun _ => 0), qAr 0 4 (fun _ => 0), qAr 0 16 (fun _ => 0), qAr 0 600 (fun _ => 0), qAr 0 384 (fun _ => 0), qAr 0 384 (fun _ => 0), qAr 0 64 (fun _ => 0), qAr 0 32 (fun _ => 0), qAr 0 648 (fun _ => 0), qAr 0 648 (fun _ => 0), qAr 0 648 (fun _ => 0), qAr 0 32 (fun _ => 0), qAr 0 32 (fun _ => 0), qAr 0 32 (fun _ => 0), qAr 2 96 (fun _ => 0), qAr 1 81 (fun _ => 0), qAr 1 81 (fun _ => 0), qAr 1 8004 (fun _ => 0), qAr 0 384 (fun _ => 0), qAr 0 4 (fun _ => 0), qAr 0 32 (fun _ => 0)]) by rw [fil_up dd0 i (by rfl)]; rfl)) ?_
    show qEx M_X12_init 340 [qR h.1, qI (i : Int)] [] (qap h 15832 [qOb 12 [qI 0, qI 0, qI 0, qI 0, qI 0, qI 0, qI 0, qI (-1), qR (h.1 + 1), qR (h.1 + 2), qR (h.1 + 3), qR (h.1 + 4), qR (h.1 + 5), qR (h.1 + 6), qR (h.1 + 7), qR (h.1 + 8), qR (h.1 + 9), qR (h.1 + 10), qI 0, qI 0, qI 0, qR (h.1 + 11), qR (h.1 + 12), qR (h.1 + 13), qR (h.1 + 14), qI 0, qR (h.1 + 15), qI 0, qR (h.1 + 16), qR (h.1 + 17), qR (h.1 + 18), qR (h.1 + 19), qR (h.1 + 20), qR (h.1 + 21), qR (h.1 + 22), qR (h.1 + 23), qR (h.1 + 24), qI 0, qI 0, qI 0, qI 0, qR (h.1 + 25), qR (h.1 + 26), qR (h.1 + 27), qR (h.1 + 28), qR (h.1 + 29), qR (h.1 + 30), qR (h.1 + 31), qI 0, qR (h.1 + 32), qR (h.1 + 33), qR (h.1 + 34), qR (h.1 + 35), qR (h.1 + 36), qR (h.1 + 37)], qAr 0 400 (fun _ => 0), qAr 0 384 (fun _ => 0), qAr 0 384 (fun _ => 0), qAr 0 96 (fun _ => 0), qAr 0 4 (fun _ => 0), qAr 0 4 (fun _ => 0), qAr 0 64 (fun _ => 0), qAr 0 64 (fun _ => 0), qAr 0 16 (fil dd0 (i + 1)), qAr 0 16 (fun _ => 0), qAr 0 167 (qup (fun _ => 0) 164 (-1)), qAr 0 167 (fun _ => 0), qAr 0 600 (fun _ => 0), qAr 0 1002 (fun _ => 0), qAr 0 32 (fun _ => 0), qAr 0 167 (fun _ => 0), qAr 0 4 (fun _ => 0), qAr 0 4 (fun _ => 0), qAr 0 16 (fun _ => 0), qAr 0 600 (fun _ => 0), qAr 0 384 (fun _ => 0), qAr 0 384 (fun _ => 0), qAr 0 64 (fun _ => 0), qAr 0 32 (fun _ => 0), qAr 0 648 (fun _ => 0), qAr 0 648 (fun _ => 0), qAr 0 648 (fun _ => 0), qAr 0 32 (fun _ => 0), qAr 0 32 (fun _ => 0), qAr 0 32 (fun _ => 0), qAr 2 96 (fun _ => 0), qAr 1 81 (fun _ => 0), qAr 1 81 (fun _ => 0), qAr 1 8004 (fun _ => 0), qAr 0 384 (fun _ => 0), qAr 0 4 (fun _ => 0), qAr 0 32 (fun _ => 0)]) none _
    refine z_iinc (ls' := [qR h.1, qI (((i + 1 : Nat)) : Int)]) d_X12_init_340 rfl (by decide) (by omega) rfl ?_
    refine z_goto 327 d_X12_init_343 (by decide) ?_
    exact k9 trivial
  show qEx M_X12_init 327 [qR h.1, qI 16] [] (qap h 15832 [qOb 12 [qI 0, qI 0, qI 0, qI 0, qI 0, qI 0, qI 0, qI (-1), qR (h.1 + 1), qR (h.1 + 2), qR (h.1 + 3), qR (h.1 + 4), qR (h.1 + 5), qR (h.1 + 6), qR (h.1 + 7), qR (h.1 + 8), qR (h.1 + 9), qR (h.1 + 10), qI 0, qI 0, qI 0, qR (h.1 + 11), qR (h.1 + 12), qR (h.1 + 13), qR (h.1 + 14), qI 0, qR (h.1 + 15), qI 0, qR (h.1 + 16), qR (h.1 + 17), qR (h.1 + 18), qR (h.1 + 19), qR (h.1 + 20), qR (h.1 + 21), qR (h.1 + 22), qR (h.1 + 23), qR (h.1 + 24), qI 0, qI 0, qI 0, qI 0, qR (h.1 + 25), qR (h.1 + 26), qR (h.1 + 27), qR (h.1 + 28), qR (h.1 + 29), qR (h.1 + 30), qR (h.1 + 31), qI 0, qR (h.1 + 32), qR (h.1 + 33), qR (h.1 + 34), qR (h.1 + 35), qR (h.1 + 36), qR (h.1 + 37)], qAr 0 400 (fun _ => 0), qAr 0 384 (fun _ => 0), qAr 0 384 (fun _ => 0), qAr 0 96 (fun _ => 0), qAr 0 4 (fun _ => 0), qAr 0 4 (fun _ => 0), qAr 0 64 (fun _ => 0), qAr 0 64 (fun _ => 0), qAr 0 16 (fil dd0 16), qAr 0 16 (fun _ => 0), qAr 0 167 (qup (fun _ => 0) 164 (-1)), qAr 0 167 (fun _ => 0), qAr 0 600 (fun _ => 0), qAr 0 1002 (fun _ => 0), qAr 0 32 (fun _ => 0), qAr 0 167 (fun _ => 0), qAr 0 4 (fun _ => 0), qAr 0 4 (fun _ => 0), qAr 0 16 (fun _ => 0), qAr 0 600 (fun _ => 0), qAr 0 384 (fun _ => 0), qAr 0 384 (fun _ => 0), qAr 0 64 (fun _ => 0), qAr 0 32 (fun _ => 0), qAr 0 648 (fun _ => 0), qAr 0 648 (fun _ => 0), qAr 0 648 (fun _ => 0), qAr 0 32 (fun _ => 0), qAr 0 32 (fun _ => 0), qAr 0 32 (fun _ => 0), qAr 2 96 (fun _ => 0), qAr 1 81 (fun _ => 0), qAr 1 81 (fun _ => 0), qAr 1 8004 (fun _ => 0), qAr 0 384 (fun _ => 0), qAr 0 4 (fun _ => 0), qAr 0 32 (fun _ => 0)]) none _
  refine z_iload_n d_X12_init_327 rfl rfl ?_
  refine z_bipush d_X12_init_328 (by decide) ?_
  refine z_icmp_ge 346 d_X12_init_330 (by decide) (fun hc => ?_) (fun hc => absurd (by decide) hc)
  exact z_vret d_X12_init_346 rfl rfl rfl
theorem l_gRf {n : Nat} : (gRf n).length = 38 := by simp only [gRf, List.length_append, List.length_cons, List.length_nil, l_gPg, l_gFb, l_gRw16, l_gRw150, l_gRw8, l_gRu, l_gWl, l_gBk, l_gPa, l_gRd, l_gRo, l_gSt, l_gTr, l_gCo]
