/-! ===== CONTRACTS: the reference: a line of a page, of a plan, of a tree ===== -/
theorem y_isW {h : qH} {m : Nat} {f : Nat → Int} {g : Nat → Nat → Int} {N : Nat} (s : pS) (w : Nat) (W : Int) (x1 x2 x3 x4 x5 x6 : Int) (hm : 2 ≤ m) (hN : f 2 = (N : Int)) (hN4 : N ≤ 400) (ha : s.1 ≤ N) (hsk : sk (g 1) N s.1 = s.1) (hW : 6 + (w : Int) = W) (hw : w < 13) (hx : wof x1 x2 x3 x4 x5 x6 = wK w) (hx1 : 0 ≤ x1 ∧ x1 ≤ 26) (hx2 : 0 ≤ x2 ∧ x2 ≤ 26) (hx3 : 0 ≤ x3 ∧ x3 ≤ 26) (hx4 : 0 ≤ x4 ∧ x4 ≤ 26) (hx5 : 0 ≤ x5 ∧ x5 ≤ 26) (hx6 : 0 ≤ x6 ∧ x6 ≤ 26) : qEx M_X12_isWord 0 [qR m, qI x1, qI x2, qI x3, qI x4, qI x5, qI x6] [] (rput h m (qup (qup (qup f 3 ((s.1 : Nat) : Int)) 4 s.2.1) 5 s.2.2) g) (some (qI (qb (kd (g 1) N s.1 = W)))) (rput h m (qup (qup (qup f 3 ((s.1 : Nat) : Int)) 4 s.2.1) 5 s.2.2) g) := by
  subst hW
  have k := c_isWord (h := h) (f := f) (g := g) (k := s.2.1) (pl := s.2.2) w x1 x2 x3 x4 x5 x6 hm hN hN4 ha hw hx hx1 hx2 hx3 hx4 hx5 hx6
  rw [hsk] at k
  exact k
theorem y_isNum {h : qH} {m : Nat} {f : Nat → Int} {g : Nat → Nat → Int} {N : Nat} (s : pS) (hm : 2 ≤ m) (hN : f 2 = (N : Int)) (hN4 : N ≤ 400) (ha : s.1 ≤ N) (hsk : sk (g 1) N s.1 = s.1) : qEx M_X12_isNumber 0 [qR m] [] (rput h m (qup (qup (qup f 3 ((s.1 : Nat) : Int)) 4 s.2.1) 5 s.2.2) g) (some (qI (qb (kd (g 1) N s.1 = 2)))) (rput h m (qup (qup (qup f 3 ((s.1 : Nat) : Int)) 4 s.2.1) 5 s.2.2) g) := by
  have k := c_isNumber (h := h) (f := f) (g := g) (k := s.2.1) (pl := s.2.2) hm hN hN4 ha
  rw [hsk] at k
  exact k
theorem y_val {h : qH} {m : Nat} {f : Nat → Int} {g : Nat → Nat → Int} {N : Nat} (s : pS) (hm : 2 ≤ m) (hN : f 2 = (N : Int)) (hN4 : N ≤ 400) (ha : s.1 ≤ N) (hk : kd (g 1) N s.1 = 2) : qEx M_X12_valueHere 0 [qR m, qU, qU, qU] [] (rput h m (qup (qup (qup f 3 ((s.1 : Nat) : Int)) 4 s.2.1) 5 s.2.2) g) (some (qI (vl (g 1) N s.1))) (rput h m (qup (qup (qup f 3 ((s.1 : Nat) : Int)) 4 s.2.1) 5 s.2.2) g) := c_valueHere (k := s.2.1) (pl := s.2.2) hm hN hN4 ha hk
theorem skS_id {B : Nat → Int} {N : Nat} {s : pS} (h : sk B N s.1 = s.1) : skS B N s = s := by
  obtain ⟨a, b⟩ := s
  show (sk B N a, b) = (a, b)
  rw [show sk B N a = a from h]
theorem skS_skS {B : Nat → Int} {N : Nat} {s : pS} (h : s.1 ≤ N) : skS B N (skS B N s) = skS B N s := skS_id (sk_sk h)
theorem tkS_f {B : Nat → Int} {N : Nat} {W : Int} {s : pS} (h : s.2.1 ≠ 0) : tkS B N W s = s := qif_t h
theorem tkS_n {B : Nat → Int} {N : Nat} {W : Int} {s : pS} (h : s.2.1 = 0) (hk : ¬ kd B N (sk B N s.1) = W) : tkS B N W s = skS B N s := by
  unfold tkS
  rw [qif_f (fun z => z h), qif_f hk]
  rfl
theorem tkS_y {B : Nat → Int} {N : Nat} {W : Int} {s : pS} (h : s.2.1 = 0) (hk : kd B N (sk B N s.1) = W) : tkS B N W s = (en B N (sk B N s.1), s.2) := by
  unfold tkS
  rw [qif_f (fun z => z h), qif_t hk]
theorem tkS_sk {B : Nat → Int} {N : Nat} {W : Int} {s : pS} (ha : s.1 ≤ N) (h : s.2.1 = 0) : tkS B N W (skS B N s) = tkS B N W s := by
  unfold tkS
  show qif (s.2.1 ≠ 0) (skS B N s) (qif (kd B N (sk B N (sk B N s.1)) = W) (en B N (sk B N (sk B N s.1)), s.2) (sk B N (sk B N s.1), s.2)) = _
  rw [sk_sk ha, qif_f (show ¬ (s.2.1 ≠ 0) from fun z => z h), qif_f (show ¬ (s.2.1 ≠ 0) from fun z => z h)]
theorem tkQ_sk {B : Nat → Int} {N : Nat} {W : Int} {s : pS} (ha : s.1 ≤ N) : tkQ B N W (skS B N s) ↔ tkQ B N W s := by
  unfold tkQ
  show s.2.1 = 0 ∧ kd B N (sk B N (sk B N s.1)) = W ↔ _
  rw [sk_sk ha]
set_option maxRecDepth 20000 in
set_option maxHeartbeats 4000000 in
theorem y_isAny {h : qH} {m : Nat} {f : Nat → Int} {g : Nat → Nat → Int} {N : Nat} (s : pS) (hm : 2 ≤ m) (hN : f 2 = (N : Int)) (hN4 : N ≤ 400) (ha : s.1 ≤ N) (hsk : sk (g 1) N s.1 = s.1) : qEx M_X12_isAny 0 [qR m] [] (rput h m (qup (qup (qup f 3 ((s.1 : Nat) : Int)) 4 s.2.1) 5 s.2.2) g) (some (qI (qb (kd (g 1) N s.1 = 6)))) (rput h m (qup (qup (qup f 3 ((s.1 : Nat) : Int)) 4 s.2.1) 5 s.2.2) g) := by
  refine q_gen (fun r hr er eh => ?_)
  refine z_aload_n d_X12_isAny_0 rfl rfl ?_
  refine z_iconst d_X12_isAny_1 (by decide) ?_
  refine z_bipush d_X12_isAny_2 (by decide) ?_
  refine z_bipush d_X12_isAny_4 (by decide) ?_
  refine z_iconst d_X12_isAny_6 (by decide) ?_
  refine z_iconst d_X12_isAny_7 (by decide) ?_
  refine z_iconst d_X12_isAny_8 (by decide) ?_
  refine z_cv (M1 := M_X12_isWord) d_X12_isAny_9 lv_X12_185 k_X12_isWord [qI 1, qI 14, qI 25, qI 0, qI 0, qI 0] rfl rfl rput_o ⟨_, _, rfl⟩ (Nat.le_of_ble_eq_true rfl) (by decide) (by decide) (Nat.le_of_ble_eq_true rfl) (y_isW (N := N) s 0 6 1 14 25 0 0 0 hm hN hN4 ha hsk (by decide) (by decide) (by decide +kernel) (by decide) (by decide) (by decide) (by decide) (by decide) (by decide)) ?_
  exact z_zret d_X12_isAny_12 rfl (by first | exact qb_01 _ | decide | omega) er eh
set_option maxRecDepth 20000 in
set_option maxHeartbeats 4000000 in
theorem y_isNot {h : qH} {m : Nat} {f : Nat → Int} {g : Nat → Nat → Int} {N : Nat} (s : pS) (hm : 2 ≤ m) (hN : f 2 = (N : Int)) (hN4 : N ≤ 400) (ha : s.1 ≤ N) (hsk : sk (g 1) N s.1 = s.1) : qEx M_X12_isNot 0 [qR m] [] (rput h m (qup (qup (qup f 3 ((s.1 : Nat) : Int)) 4 s.2.1) 5 s.2.2) g) (some (qI (qb (kd (g 1) N s.1 = 7)))) (rput h m (qup (qup (qup f 3 ((s.1 : Nat) : Int)) 4 s.2.1) 5 s.2.2) g) := by
  refine q_gen (fun r hr er eh => ?_)
  refine z_aload_n d_X12_isNot_0 rfl rfl ?_
  refine z_bipush d_X12_isNot_1 (by decide) ?_
  refine z_bipush d_X12_isNot_3 (by decide) ?_
  refine z_bipush d_X12_isNot_5 (by decide) ?_
  refine z_iconst d_X12_isNot_7 (by decide) ?_
  refine z_iconst d_X12_isNot_8 (by decide) ?_
  refine z_iconst d_X12_isNot_9 (by decide) ?_
  refine z_cv (M1 := M_X12_isWord) d_X12_isNot_10 lv_X12_185 k_X12_isWord [qI 14, qI 15, qI 20, qI 0, qI 0, qI 0] rfl rfl rput_o ⟨_, _, rfl⟩ (Nat.le_of_ble_eq_true rfl) (by decide) (by decide) (Nat.le_of_ble_eq_true rfl) (y_isW (N := N) s 1 7 14 15 20 0 0 0 hm hN hN4 ha hsk (by decide) (by decide) (by decide +kernel) (by decide) (by decide) (by decide) (by decide) (by decide) (by decide)) ?_
  exact z_zret d_X12_isNot_13 rfl (by first | exact qb_01 _ | decide | omega) er eh
set_option maxRecDepth 20000 in
set_option maxHeartbeats 4000000 in
theorem y_isEnd {h : qH} {m : Nat} {f : Nat → Int} {g : Nat → Nat → Int} {N : Nat} (s : pS) (hm : 2 ≤ m) (hN : f 2 = (N : Int)) (hN4 : N ≤ 400) (ha : s.1 ≤ N) (hsk : sk (g 1) N s.1 = s.1) : qEx M_X12_isEnd 0 [qR m] [] (rput h m (qup (qup (qup f 3 ((s.1 : Nat) : Int)) 4 s.2.1) 5 s.2.2) g) (some (qI (qb (kd (g 1) N s.1 = 8)))) (rput h m (qup (qup (qup f 3 ((s.1 : Nat) : Int)) 4 s.2.1) 5 s.2.2) g) := by
  refine q_gen (fun r hr er eh => ?_)
  refine z_aload_n d_X12_isEnd_0 rfl rfl ?_
  refine z_iconst d_X12_isEnd_1 (by decide) ?_
  refine z_bipush d_X12_isEnd_2 (by decide) ?_
  refine z_iconst d_X12_isEnd_4 (by decide) ?_
  refine z_iconst d_X12_isEnd_5 (by decide) ?_
  refine z_iconst d_X12_isEnd_6 (by decide) ?_
  refine z_iconst d_X12_isEnd_7 (by decide) ?_
  refine z_cv (M1 := M_X12_isWord) d_X12_isEnd_8 lv_X12_185 k_X12_isWord [qI 5, qI 14, qI 4, qI 0, qI 0, qI 0] rfl rfl rput_o ⟨_, _, rfl⟩ (Nat.le_of_ble_eq_true rfl) (by decide) (by decide) (Nat.le_of_ble_eq_true rfl) (y_isW (N := N) s 2 8 5 14 4 0 0 0 hm hN hN4 ha hsk (by decide) (by decide) (by decide +kernel) (by decide) (by decide) (by decide) (by decide) (by decide) (by decide)) ?_
  exact z_zret d_X12_isEnd_11 rfl (by first | exact qb_01 _ | decide | omega) er eh
section LineWords
variable (B : Nat → Int) (N : Nat)
/-- what is wrong with the first token of a rule, at p, with L rules read -/
noncomputable def ckK (L : Nat) (p : Nat) : Int := qif (kd B N p = 6 ∨ kd B N p = 7 ∨ kd B N p = 8 ∨ kd B N p = 2) (qif (kd B N p = 2 ∧ vl B N p ≥ 8) 2 (qif (L = 24) 3 0)) 1
noncomputable def lnA (s : pS) : pS := gnS B N 62 (seS B N (seS B N (seS B N s)))
noncomputable def lnB (s : pS) : pS := qif (tkQ B N 9 (lnA B N s)) (tkS B N 9 (lnA B N s)) (nuS B N 0 7 (tkS B N 9 (lnA B N s)))
noncomputable def lnM (s : pS) : Int := qif (tkQ B N 9 (lnA B N s)) 8 (nuV B N (tkS B N 9 (lnA B N s)))
noncomputable def lnS (s : pS) : pS := gnS B N 59 (lnB B N s)
end LineWords
theorem lnB_le {B : Nat → Int} {N : Nat} {s : pS} (h : s.1 ≤ N) : (lnB B N s).1 ≤ N := by
  have h1 : (lnA B N s).1 ≤ N := gnS_le (by decide) (seS_le (seS_le (seS_le h)))
  have h2 := tkS_le (B := B) (W := 9) (by decide) h1
  exact qif_or (fun z : pS => z.1 ≤ N) h2 (nuS_le h2)
theorem lnS_le {B : Nat → Int} {N : Nat} {s : pS} (h : s.1 ≤ N) : (lnS B N s).1 ≤ N := gnS_le (by decide) (lnB_le h)
set_option maxRecDepth 20000 in
set_option maxHeartbeats 4000000 in
theorem c_lineOfPage1 {h : qH} {m : Nat} {f : Nat → Int} {g : Nat → Nat → Int} {N L : Nat} (s : pS) (hm : 2 ≤ m) (hN : f 2 = (N : Int)) (hN4 : N ≤ 400) (ha : s.1 ≤ N) (hsk : sk (g 1) N s.1 = s.1) (hs0 : s.2.1 = 0) (hL : L ≤ 24) (hck : ¬ (kd (g 1) N s.1 = 6 ∨ kd (g 1) N s.1 = 7 ∨ kd (g 1) N s.1 = 8 ∨ kd (g 1) N s.1 = 2)) : qEx M_X12_lineOfPage 0 [qR m, qU] [] (rput h m (qup (qup (qup (qup f 20 (L : Int)) 3 ((s.1 : Nat) : Int)) 4 s.2.1) 5 s.2.2) g) none (rput h m (qup (qup (qup (qup f 20 (L : Int)) 3 (((s.1, 1, (s.1 : Int)).1 : Nat) : Int)) 4 ((s.1, 1, (s.1 : Int)).2.1)) 5 ((s.1, 1, (s.1 : Int)).2.2)) g) := by
  refine q_gen (fun r hr er eh => ?_)
  refine z_aload_n d_X12_lineOfPage_0 rfl rfl ?_
  refine z_cv (M1 := M_X12_isAny) d_X12_lineOfPage_1 lv_X12_213 k_X12_isAny [] rfl rfl rput_o ⟨_, _, rfl⟩ (Nat.le_of_ble_eq_true rfl) (by decide) (by decide) (Nat.le_of_ble_eq_true rfl) (y_isAny (N := N) s hm hN hN4 ha hsk) ?_
  refine z_ifneB 40 d_X12_lineOfPage_4 (by decide) (fun hc1 => ?_) (fun hc1 => ?_)
  · refine z_aload_n d_X12_lineOfPage_40 rfl rfl ?_
    refine z_cv (M1 := M_X12_isNumber) d_X12_lineOfPage_41 lv_X12_192 k_X12_isNumber [] rfl rfl rput_o ⟨_, _, rfl⟩ (Nat.le_of_ble_eq_true rfl) (by decide) (by decide) (Nat.le_of_ble_eq_true rfl) (y_isNum (N := N) s hm hN hN4 ha hsk) ?_
    refine z_ifeqB 68 d_X12_lineOfPage_44 (by decide) (fun hc2 => ?_) (fun hc2 => ?_)
    · refine z_aload_n d_X12_lineOfPage_68 rfl rfl ?_
      refine z_getf (v := qI (L : Int)) d_X12_lineOfPage_69 fl_X12_222 rput_o rfl ?_
      refine z_bipush d_X12_lineOfPage_72 (by decide) ?_
      refine z_icmp_ne 86 d_X12_lineOfPage_74 (by decide) (fun hc3 => ?_) (fun hc3 => ?_)
      · exact absurd hck (by omega)
      · exact absurd hck (by omega)
    · refine z_aload_n d_X12_lineOfPage_47 rfl rfl ?_
      refine z_cv (M1 := M_X12_valueHere) d_X12_lineOfPage_48 lv_X12_200 k_X12_valueHere [] rfl rfl rput_o ⟨_, _, rfl⟩ (Nat.le_of_ble_eq_true rfl) (by decide) (by decide) (Nat.le_of_ble_eq_true rfl) (y_val (N := N) s hm hN hN4 ha (by assumption)) ?_
      refine z_bipush d_X12_lineOfPage_51 (by decide) ?_
      refine z_icmp_lt 68 d_X12_lineOfPage_53 (by decide) (fun hc4 => ?_) (fun hc4 => ?_)
      · refine z_aload_n d_X12_lineOfPage_68 rfl rfl ?_
        refine z_getf (v := qI (L : Int)) d_X12_lineOfPage_69 fl_X12_222 rput_o rfl ?_
        refine z_bipush d_X12_lineOfPage_72 (by decide) ?_
        refine z_icmp_ne 86 d_X12_lineOfPage_74 (by decide) (fun hc5 => ?_) (fun hc5 => ?_)
        · exact absurd hck (by omega)
        · exact absurd hck (by omega)
      · exact absurd hck (by omega)
  · refine z_aload_n d_X12_lineOfPage_7 rfl rfl ?_
    refine z_cv (M1 := M_X12_isNot) d_X12_lineOfPage_8 lv_X12_216 k_X12_isNot [] rfl rfl rput_o ⟨_, _, rfl⟩ (Nat.le_of_ble_eq_true rfl) (by decide) (by decide) (Nat.le_of_ble_eq_true rfl) (y_isNot (N := N) s hm hN hN4 ha hsk) ?_
    refine z_ifneB 40 d_X12_lineOfPage_11 (by decide) (fun hc6 => ?_) (fun hc6 => ?_)
    · refine z_aload_n d_X12_lineOfPage_40 rfl rfl ?_
      refine z_cv (M1 := M_X12_isNumber) d_X12_lineOfPage_41 lv_X12_192 k_X12_isNumber [] rfl rfl rput_o ⟨_, _, rfl⟩ (Nat.le_of_ble_eq_true rfl) (by decide) (by decide) (Nat.le_of_ble_eq_true rfl) (y_isNum (N := N) s hm hN hN4 ha hsk) ?_
      refine z_ifeqB 68 d_X12_lineOfPage_44 (by decide) (fun hc7 => ?_) (fun hc7 => ?_)
      · refine z_aload_n d_X12_lineOfPage_68 rfl rfl ?_
        refine z_getf (v := qI (L : Int)) d_X12_lineOfPage_69 fl_X12_222 rput_o rfl ?_
        refine z_bipush d_X12_lineOfPage_72 (by decide) ?_
        refine z_icmp_ne 86 d_X12_lineOfPage_74 (by decide) (fun hc8 => ?_) (fun hc8 => ?_)
        · exact absurd hck (by omega)
        · exact absurd hck (by omega)
      · refine z_aload_n d_X12_lineOfPage_47 rfl rfl ?_
        refine z_cv (M1 := M_X12_valueHere) d_X12_lineOfPage_48 lv_X12_200 k_X12_valueHere [] rfl rfl rput_o ⟨_, _, rfl⟩ (Nat.le_of_ble_eq_true rfl) (by decide) (by decide) (Nat.le_of_ble_eq_true rfl) (y_val (N := N) s hm hN hN4 ha (by assumption)) ?_
        refine z_bipush d_X12_lineOfPage_51 (by decide) ?_
        refine z_icmp_lt 68 d_X12_lineOfPage_53 (by decide) (fun hc9 => ?_) (fun hc9 => ?_)
        · refine z_aload_n d_X12_lineOfPage_68 rfl rfl ?_
          refine z_getf (v := qI (L : Int)) d_X12_lineOfPage_69 fl_X12_222 rput_o rfl ?_
          refine z_bipush d_X12_lineOfPage_72 (by decide) ?_
          refine z_icmp_ne 86 d_X12_lineOfPage_74 (by decide) (fun hc10 => ?_) (fun hc10 => ?_)
          · exact absurd hck (by omega)
          · exact absurd hck (by omega)
        · exact absurd hck (by omega)
    · refine z_aload_n d_X12_lineOfPage_14 rfl rfl ?_
      refine z_cv (M1 := M_X12_isEnd) d_X12_lineOfPage_15 lv_X12_219 k_X12_isEnd [] rfl rfl rput_o ⟨_, _, rfl⟩ (Nat.le_of_ble_eq_true rfl) (by decide) (by decide) (Nat.le_of_ble_eq_true rfl) (y_isEnd (N := N) s hm hN hN4 ha hsk) ?_
      refine z_ifneB 40 d_X12_lineOfPage_18 (by decide) (fun hc11 => ?_) (fun hc11 => ?_)
      · refine z_aload_n d_X12_lineOfPage_40 rfl rfl ?_
        refine z_cv (M1 := M_X12_isNumber) d_X12_lineOfPage_41 lv_X12_192 k_X12_isNumber [] rfl rfl rput_o ⟨_, _, rfl⟩ (Nat.le_of_ble_eq_true rfl) (by decide) (by decide) (Nat.le_of_ble_eq_true rfl) (y_isNum (N := N) s hm hN hN4 ha hsk) ?_
        refine z_ifeqB 68 d_X12_lineOfPage_44 (by decide) (fun hc12 => ?_) (fun hc12 => ?_)
        · refine z_aload_n d_X12_lineOfPage_68 rfl rfl ?_
          refine z_getf (v := qI (L : Int)) d_X12_lineOfPage_69 fl_X12_222 rput_o rfl ?_
          refine z_bipush d_X12_lineOfPage_72 (by decide) ?_
          refine z_icmp_ne 86 d_X12_lineOfPage_74 (by decide) (fun hc13 => ?_) (fun hc13 => ?_)
          · exact absurd hck (by omega)
          · exact absurd hck (by omega)
        · refine z_aload_n d_X12_lineOfPage_47 rfl rfl ?_
          refine z_cv (M1 := M_X12_valueHere) d_X12_lineOfPage_48 lv_X12_200 k_X12_valueHere [] rfl rfl rput_o ⟨_, _, rfl⟩ (Nat.le_of_ble_eq_true rfl) (by decide) (by decide) (Nat.le_of_ble_eq_true rfl) (y_val (N := N) s hm hN hN4 ha (by assumption)) ?_
          refine z_bipush d_X12_lineOfPage_51 (by decide) ?_
          refine z_icmp_lt 68 d_X12_lineOfPage_53 (by decide) (fun hc14 => ?_) (fun hc14 => ?_)
          · refine z_aload_n d_X12_lineOfPage_68 rfl rfl ?_
            refine z_getf (v := qI (L : Int)) d_X12_lineOfPage_69 fl_X12_222 rput_o rfl ?_
            refine z_bipush d_X12_lineOfPage_72 (by decide) ?_
            refine z_icmp_ne 86 d_X12_lineOfPage_74 (by decide) (fun hc15 => ?_) (fun hc15 => ?_)
            · exact absurd hck (by omega)
            · exact absurd hck (by omega)
          · exact absurd hck (by omega)
      · refine z_aload_n d_X12_lineOfPage_21 rfl rfl ?_
        refine z_cv (M1 := M_X12_isNumber) d_X12_lineOfPage_22 lv_X12_192 k_X12_isNumber [] rfl rfl rput_o ⟨_, _, rfl⟩ (Nat.le_of_ble_eq_true rfl) (by decide) (by decide) (Nat.le_of_ble_eq_true rfl) (y_isNum (N := N) s hm hN hN4 ha hsk) ?_
        refine z_ifneB 40 d_X12_lineOfPage_25 (by decide) (fun hc16 => ?_) (fun hc16 => ?_)
        · refine z_aload_n d_X12_lineOfPage_40 rfl rfl ?_
          refine z_cv (M1 := M_X12_isNumber) d_X12_lineOfPage_41 lv_X12_192 k_X12_isNumber [] rfl rfl rput_o ⟨_, _, rfl⟩ (Nat.le_of_ble_eq_true rfl) (by decide) (by decide) (Nat.le_of_ble_eq_true rfl) (y_isNum (N := N) s hm hN hN4 ha hsk) ?_
          refine z_ifeqB 68 d_X12_lineOfPage_44 (by decide) (fun hc17 => ?_) (fun hc17 => ?_)
          · refine z_aload_n d_X12_lineOfPage_68 rfl rfl ?_
            refine z_getf (v := qI (L : Int)) d_X12_lineOfPage_69 fl_X12_222 rput_o rfl ?_
            refine z_bipush d_X12_lineOfPage_72 (by decide) ?_
            refine z_icmp_ne 86 d_X12_lineOfPage_74 (by decide) (fun hc18 => ?_) (fun hc18 => ?_)
            · exact absurd hck (by omega)
            · exact absurd hck (by omega)
          · refine z_aload_n d_X12_lineOfPage_47 rfl rfl ?_
            refine z_cv (M1 := M_X12_valueHere) d_X12_lineOfPage_48 lv_X12_200 k_X12_valueHere [] rfl rfl rput_o ⟨_, _, rfl⟩ (Nat.le_of_ble_eq_true rfl) (by decide) (by decide) (Nat.le_of_ble_eq_true rfl) (y_val (N := N) s hm hN hN4 ha (by assumption)) ?_
            refine z_bipush d_X12_lineOfPage_51 (by decide) ?_
            refine z_icmp_lt 68 d_X12_lineOfPage_53 (by decide) (fun hc19 => ?_) (fun hc19 => ?_)
            · refine z_aload_n d_X12_lineOfPage_68 rfl rfl ?_
              refine z_getf (v := qI (L : Int)) d_X12_lineOfPage_69 fl_X12_222 rput_o rfl ?_
              refine z_bipush d_X12_lineOfPage_72 (by decide) ?_
              refine z_icmp_ne 86 d_X12_lineOfPage_74 (by decide) (fun hc20 => ?_) (fun hc20 => ?_)
              · exact absurd hck (by omega)
              · exact absurd hck (by omega)
            · exact absurd hck (by omega)
        · refine z_aload_n d_X12_lineOfPage_28 rfl rfl ?_
          refine z_iconst d_X12_lineOfPage_29 (by decide) ?_
          refine z_aload_n d_X12_lineOfPage_30 rfl rfl ?_
          refine z_getf (v := qI ((s.1 : Nat) : Int)) d_X12_lineOfPage_31 fl_X12_150 rput_o rfl ?_
          refine z_cv0 (M1 := M_X12_wrong) d_X12_lineOfPage_34 lv_X12_196 k_X12_wrong [qI 1, qI ((s.1 : Nat) : Int)] rfl rfl rput_o ⟨_, _, rfl⟩ (Nat.le_of_ble_eq_true rfl) (by decide) (by decide) (Nat.le_of_ble_eq_true rfl) (y_wrong s 1 ((s.1 : Nat) : Int) hm) ?_
          rw [show wrS 1 ((s.1 : Nat) : Int) s = (s.1, 1, (s.1 : Int)) from if_pos hs0]
          refine z_goto 86 d_X12_lineOfPage_37 (by decide) ?_
          refine z_aload_n d_X12_lineOfPage_86 rfl rfl ?_
          refine z_getf (v := qI ((s.1, 1, (s.1 : Int)).2.1)) d_X12_lineOfPage_87 fl_X12_141 rput_o rfl ?_
          refine z_if_eq 94 d_X12_lineOfPage_90 (by decide) (fun hc21 => ?_) (fun hc21 => ?_)
          · exact absurd (show ((1 : Int) = 0) by assumption) (by decide)
          · exact z_vret d_X12_lineOfPage_93 rfl er eh
set_option maxRecDepth 20000 in
set_option maxHeartbeats 4000000 in
theorem c_lineOfPage2 {h : qH} {m : Nat} {f : Nat → Int} {g : Nat → Nat → Int} {N L : Nat} (s : pS) (hm : 2 ≤ m) (hN : f 2 = (N : Int)) (hN4 : N ≤ 400) (ha : s.1 ≤ N) (hsk : sk (g 1) N s.1 = s.1) (hs0 : s.2.1 = 0) (hL : L ≤ 24) (hck : kd (g 1) N s.1 = 2 ∧ vl (g 1) N s.1 ≥ 8) : qEx M_X12_lineOfPage 0 [qR m, qU] [] (rput h m (qup (qup (qup (qup f 20 (L : Int)) 3 ((s.1 : Nat) : Int)) 4 s.2.1) 5 s.2.2) g) none (rput h m (qup (qup (qup (qup f 20 (L : Int)) 3 (((s.1, 2, (s.1 : Int)).1 : Nat) : Int)) 4 ((s.1, 2, (s.1 : Int)).2.1)) 5 ((s.1, 2, (s.1 : Int)).2.2)) g) := by
  refine q_gen (fun r hr er eh => ?_)
  refine z_aload_n d_X12_lineOfPage_0 rfl rfl ?_
  refine z_cv (M1 := M_X12_isAny) d_X12_lineOfPage_1 lv_X12_213 k_X12_isAny [] rfl rfl rput_o ⟨_, _, rfl⟩ (Nat.le_of_ble_eq_true rfl) (by decide) (by decide) (Nat.le_of_ble_eq_true rfl) (y_isAny (N := N) s hm hN hN4 ha hsk) ?_
  refine z_ifneB 40 d_X12_lineOfPage_4 (by decide) (fun hc1 => ?_) (fun hc1 => ?_)
  · refine z_aload_n d_X12_lineOfPage_40 rfl rfl ?_
    refine z_cv (M1 := M_X12_isNumber) d_X12_lineOfPage_41 lv_X12_192 k_X12_isNumber [] rfl rfl rput_o ⟨_, _, rfl⟩ (Nat.le_of_ble_eq_true rfl) (by decide) (by decide) (Nat.le_of_ble_eq_true rfl) (y_isNum (N := N) s hm hN hN4 ha hsk) ?_
    refine z_ifeqB 68 d_X12_lineOfPage_44 (by decide) (fun hc2 => ?_) (fun hc2 => ?_)
    · refine z_aload_n d_X12_lineOfPage_68 rfl rfl ?_
      refine z_getf (v := qI (L : Int)) d_X12_lineOfPage_69 fl_X12_222 rput_o rfl ?_
      refine z_bipush d_X12_lineOfPage_72 (by decide) ?_
      refine z_icmp_ne 86 d_X12_lineOfPage_74 (by decide) (fun hc3 => ?_) (fun hc3 => ?_)
      · exact absurd hck (by omega)
      · exact absurd hck (by omega)
    · refine z_aload_n d_X12_lineOfPage_47 rfl rfl ?_
      refine z_cv (M1 := M_X12_valueHere) d_X12_lineOfPage_48 lv_X12_200 k_X12_valueHere [] rfl rfl rput_o ⟨_, _, rfl⟩ (Nat.le_of_ble_eq_true rfl) (by decide) (by decide) (Nat.le_of_ble_eq_true rfl) (y_val (N := N) s hm hN hN4 ha (by assumption)) ?_
      refine z_bipush d_X12_lineOfPage_51 (by decide) ?_
      refine z_icmp_lt 68 d_X12_lineOfPage_53 (by decide) (fun hc4 => ?_) (fun hc4 => ?_)
      · refine z_aload_n d_X12_lineOfPage_68 rfl rfl ?_
        refine z_getf (v := qI (L : Int)) d_X12_lineOfPage_69 fl_X12_222 rput_o rfl ?_
        refine z_bipush d_X12_lineOfPage_72 (by decide) ?_
        refine z_icmp_ne 86 d_X12_lineOfPage_74 (by decide) (fun hc5 => ?_) (fun hc5 => ?_)
        · exact absurd hck (by omega)
        · exact absurd hck (by omega)
      · refine z_aload_n d_X12_lineOfPage_56 rfl rfl ?_
        refine z_iconst d_X12_lineOfPage_57 (by decide) ?_
        refine z_aload_n d_X12_lineOfPage_58 rfl rfl ?_
        refine z_getf (v := qI ((s.1 : Nat) : Int)) d_X12_lineOfPage_59 fl_X12_150 rput_o rfl ?_
        refine z_cv0 (M1 := M_X12_wrong) d_X12_lineOfPage_62 lv_X12_196 k_X12_wrong [qI 2, qI ((s.1 : Nat) : Int)] rfl rfl rput_o ⟨_, _, rfl⟩ (Nat.le_of_ble_eq_true rfl) (by decide) (by decide) (Nat.le_of_ble_eq_true rfl) (y_wrong s 2 ((s.1 : Nat) : Int) hm) ?_
        rw [show wrS 2 ((s.1 : Nat) : Int) s = (s.1, 2, (s.1 : Int)) from if_pos hs0]
        refine z_goto 86 d_X12_lineOfPage_65 (by decide) ?_
        refine z_aload_n d_X12_lineOfPage_86 rfl rfl ?_
        refine z_getf (v := qI ((s.1, 2, (s.1 : Int)).2.1)) d_X12_lineOfPage_87 fl_X12_141 rput_o rfl ?_
        refine z_if_eq 94 d_X12_lineOfPage_90 (by decide) (fun hc6 => ?_) (fun hc6 => ?_)
        · exact absurd (show ((2 : Int) = 0) by assumption) (by decide)
        · exact z_vret d_X12_lineOfPage_93 rfl er eh
  · refine z_aload_n d_X12_lineOfPage_7 rfl rfl ?_
    refine z_cv (M1 := M_X12_isNot) d_X12_lineOfPage_8 lv_X12_216 k_X12_isNot [] rfl rfl rput_o ⟨_, _, rfl⟩ (Nat.le_of_ble_eq_true rfl) (by decide) (by decide) (Nat.le_of_ble_eq_true rfl) (y_isNot (N := N) s hm hN hN4 ha hsk) ?_
    refine z_ifneB 40 d_X12_lineOfPage_11 (by decide) (fun hc7 => ?_) (fun hc7 => ?_)
    · refine z_aload_n d_X12_lineOfPage_40 rfl rfl ?_
      refine z_cv (M1 := M_X12_isNumber) d_X12_lineOfPage_41 lv_X12_192 k_X12_isNumber [] rfl rfl rput_o ⟨_, _, rfl⟩ (Nat.le_of_ble_eq_true rfl) (by decide) (by decide) (Nat.le_of_ble_eq_true rfl) (y_isNum (N := N) s hm hN hN4 ha hsk) ?_
      refine z_ifeqB 68 d_X12_lineOfPage_44 (by decide) (fun hc8 => ?_) (fun hc8 => ?_)
      · refine z_aload_n d_X12_lineOfPage_68 rfl rfl ?_
        refine z_getf (v := qI (L : Int)) d_X12_lineOfPage_69 fl_X12_222 rput_o rfl ?_
        refine z_bipush d_X12_lineOfPage_72 (by decide) ?_
        refine z_icmp_ne 86 d_X12_lineOfPage_74 (by decide) (fun hc9 => ?_) (fun hc9 => ?_)
        · exact absurd hck (by omega)
        · exact absurd hck (by omega)
      · refine z_aload_n d_X12_lineOfPage_47 rfl rfl ?_
        refine z_cv (M1 := M_X12_valueHere) d_X12_lineOfPage_48 lv_X12_200 k_X12_valueHere [] rfl rfl rput_o ⟨_, _, rfl⟩ (Nat.le_of_ble_eq_true rfl) (by decide) (by decide) (Nat.le_of_ble_eq_true rfl) (y_val (N := N) s hm hN hN4 ha (by assumption)) ?_
        refine z_bipush d_X12_lineOfPage_51 (by decide) ?_
        refine z_icmp_lt 68 d_X12_lineOfPage_53 (by decide) (fun hc10 => ?_) (fun hc10 => ?_)
        · refine z_aload_n d_X12_lineOfPage_68 rfl rfl ?_
          refine z_getf (v := qI (L : Int)) d_X12_lineOfPage_69 fl_X12_222 rput_o rfl ?_
          refine z_bipush d_X12_lineOfPage_72 (by decide) ?_
          refine z_icmp_ne 86 d_X12_lineOfPage_74 (by decide) (fun hc11 => ?_) (fun hc11 => ?_)
          · exact absurd hck (by omega)
          · exact absurd hck (by omega)
        · refine z_aload_n d_X12_lineOfPage_56 rfl rfl ?_
          refine z_iconst d_X12_lineOfPage_57 (by decide) ?_
          refine z_aload_n d_X12_lineOfPage_58 rfl rfl ?_
          refine z_getf (v := qI ((s.1 : Nat) : Int)) d_X12_lineOfPage_59 fl_X12_150 rput_o rfl ?_
          refine z_cv0 (M1 := M_X12_wrong) d_X12_lineOfPage_62 lv_X12_196 k_X12_wrong [qI 2, qI ((s.1 : Nat) : Int)] rfl rfl rput_o ⟨_, _, rfl⟩ (Nat.le_of_ble_eq_true rfl) (by decide) (by decide) (Nat.le_of_ble_eq_true rfl) (y_wrong s 2 ((s.1 : Nat) : Int) hm) ?_
          rw [show wrS 2 ((s.1 : Nat) : Int) s = (s.1, 2, (s.1 : Int)) from if_pos hs0]
          refine z_goto 86 d_X12_lineOfPage_65 (by decide) ?_
          refine z_aload_n d_X12_lineOfPage_86 rfl rfl ?_
          refine z_getf (v := qI ((s.1, 2, (s.1 : Int)).2.1)) d_X12_lineOfPage_87 fl_X12_141 rput_o rfl ?_
          refine z_if_eq 94 d_X12_lineOfPage_90 (by decide) (fun hc12 => ?_) (fun hc12 => ?_)
          · exact absurd (show ((2 : Int) = 0) by assumption) (by decide)
          · exact z_vret d_X12_lineOfPage_93 rfl er eh
    · refine z_aload_n d_X12_lineOfPage_14 rfl rfl ?_
      refine z_cv (M1 := M_X12_isEnd) d_X12_lineOfPage_15 lv_X12_219 k_X12_isEnd [] rfl rfl rput_o ⟨_, _, rfl⟩ (Nat.le_of_ble_eq_true rfl) (by decide) (by decide) (Nat.le_of_ble_eq_true rfl) (y_isEnd (N := N) s hm hN hN4 ha hsk) ?_
      refine z_ifneB 40 d_X12_lineOfPage_18 (by decide) (fun hc13 => ?_) (fun hc13 => ?_)
      · refine z_aload_n d_X12_lineOfPage_40 rfl rfl ?_
        refine z_cv (M1 := M_X12_isNumber) d_X12_lineOfPage_41 lv_X12_192 k_X12_isNumber [] rfl rfl rput_o ⟨_, _, rfl⟩ (Nat.le_of_ble_eq_true rfl) (by decide) (by decide) (Nat.le_of_ble_eq_true rfl) (y_isNum (N := N) s hm hN hN4 ha hsk) ?_
        refine z_ifeqB 68 d_X12_lineOfPage_44 (by decide) (fun hc14 => ?_) (fun hc14 => ?_)
        · refine z_aload_n d_X12_lineOfPage_68 rfl rfl ?_
          refine z_getf (v := qI (L : Int)) d_X12_lineOfPage_69 fl_X12_222 rput_o rfl ?_
          refine z_bipush d_X12_lineOfPage_72 (by decide) ?_
          refine z_icmp_ne 86 d_X12_lineOfPage_74 (by decide) (fun hc15 => ?_) (fun hc15 => ?_)
          · exact absurd hck (by omega)
          · exact absurd hck (by omega)
        · refine z_aload_n d_X12_lineOfPage_47 rfl rfl ?_
          refine z_cv (M1 := M_X12_valueHere) d_X12_lineOfPage_48 lv_X12_200 k_X12_valueHere [] rfl rfl rput_o ⟨_, _, rfl⟩ (Nat.le_of_ble_eq_true rfl) (by decide) (by decide) (Nat.le_of_ble_eq_true rfl) (y_val (N := N) s hm hN hN4 ha (by assumption)) ?_
          refine z_bipush d_X12_lineOfPage_51 (by decide) ?_
          refine z_icmp_lt 68 d_X12_lineOfPage_53 (by decide) (fun hc16 => ?_) (fun hc16 => ?_)
          · refine z_aload_n d_X12_lineOfPage_68 rfl rfl ?_
            refine z_getf (v := qI (L : Int)) d_X12_lineOfPage_69 fl_X12_222 rput_o rfl ?_
            refine z_bipush d_X12_lineOfPage_72 (by decide) ?_
            refine z_icmp_ne 86 d_X12_lineOfPage_74 (by decide) (fun hc17 => ?_) (fun hc17 => ?_)
            · exact absurd hck (by omega)
            · exact absurd hck (by omega)
          · refine z_aload_n d_X12_lineOfPage_56 rfl rfl ?_
            refine z_iconst d_X12_lineOfPage_57 (by decide) ?_
            refine z_aload_n d_X12_lineOfPage_58 rfl rfl ?_
            refine z_getf (v := qI ((s.1 : Nat) : Int)) d_X12_lineOfPage_59 fl_X12_150 rput_o rfl ?_
            refine z_cv0 (M1 := M_X12_wrong) d_X12_lineOfPage_62 lv_X12_196 k_X12_wrong [qI 2, qI ((s.1 : Nat) : Int)] rfl rfl rput_o ⟨_, _, rfl⟩ (Nat.le_of_ble_eq_true rfl) (by decide) (by decide) (Nat.le_of_ble_eq_true rfl) (y_wrong s 2 ((s.1 : Nat) : Int) hm) ?_
            rw [show wrS 2 ((s.1 : Nat) : Int) s = (s.1, 2, (s.1 : Int)) from if_pos hs0]
            refine z_goto 86 d_X12_lineOfPage_65 (by decide) ?_
            refine z_aload_n d_X12_lineOfPage_86 rfl rfl ?_
            refine z_getf (v := qI ((s.1, 2, (s.1 : Int)).2.1)) d_X12_lineOfPage_87 fl_X12_141 rput_o rfl ?_
            refine z_if_eq 94 d_X12_lineOfPage_90 (by decide) (fun hc18 => ?_) (fun hc18 => ?_)
            · exact absurd (show ((2 : Int) = 0) by assumption) (by decide)
            · exact z_vret d_X12_lineOfPage_93 rfl er eh
      · refine z_aload_n d_X12_lineOfPage_21 rfl rfl ?_
        refine z_cv (M1 := M_X12_isNumber) d_X12_lineOfPage_22 lv_X12_192 k_X12_isNumber [] rfl rfl rput_o ⟨_, _, rfl⟩ (Nat.le_of_ble_eq_true rfl) (by decide) (by decide) (Nat.le_of_ble_eq_true rfl) (y_isNum (N := N) s hm hN hN4 ha hsk) ?_
        refine z_ifneB 40 d_X12_lineOfPage_25 (by decide) (fun hc19 => ?_) (fun hc19 => ?_)
        · refine z_aload_n d_X12_lineOfPage_40 rfl rfl ?_
          refine z_cv (M1 := M_X12_isNumber) d_X12_lineOfPage_41 lv_X12_192 k_X12_isNumber [] rfl rfl rput_o ⟨_, _, rfl⟩ (Nat.le_of_ble_eq_true rfl) (by decide) (by decide) (Nat.le_of_ble_eq_true rfl) (y_isNum (N := N) s hm hN hN4 ha hsk) ?_
          refine z_ifeqB 68 d_X12_lineOfPage_44 (by decide) (fun hc20 => ?_) (fun hc20 => ?_)
          · refine z_aload_n d_X12_lineOfPage_68 rfl rfl ?_
            refine z_getf (v := qI (L : Int)) d_X12_lineOfPage_69 fl_X12_222 rput_o rfl ?_
            refine z_bipush d_X12_lineOfPage_72 (by decide) ?_
            refine z_icmp_ne 86 d_X12_lineOfPage_74 (by decide) (fun hc21 => ?_) (fun hc21 => ?_)
            · exact absurd hck (by omega)
            · exact absurd hck (by omega)
          · refine z_aload_n d_X12_lineOfPage_47 rfl rfl ?_
            refine z_cv (M1 := M_X12_valueHere) d_X12_lineOfPage_48 lv_X12_200 k_X12_valueHere [] rfl rfl rput_o ⟨_, _, rfl⟩ (Nat.le_of_ble_eq_true rfl) (by decide) (by decide) (Nat.le_of_ble_eq_true rfl) (y_val (N := N) s hm hN hN4 ha (by assumption)) ?_
            refine z_bipush d_X12_lineOfPage_51 (by decide) ?_
            refine z_icmp_lt 68 d_X12_lineOfPage_53 (by decide) (fun hc22 => ?_) (fun hc22 => ?_)
            · refine z_aload_n d_X12_lineOfPage_68 rfl rfl ?_
              refine z_getf (v := qI (L : Int)) d_X12_lineOfPage_69 fl_X12_222 rput_o rfl ?_
              refine z_bipush d_X12_lineOfPage_72 (by decide) ?_
              refine z_icmp_ne 86 d_X12_lineOfPage_74 (by decide) (fun hc23 => ?_) (fun hc23 => ?_)
              · exact absurd hck (by omega)
              · exact absurd hck (by omega)
            · refine z_aload_n d_X12_lineOfPage_56 rfl rfl ?_
              refine z_iconst d_X12_lineOfPage_57 (by decide) ?_
              refine z_aload_n d_X12_lineOfPage_58 rfl rfl ?_
              refine z_getf (v := qI ((s.1 : Nat) : Int)) d_X12_lineOfPage_59 fl_X12_150 rput_o rfl ?_
              refine z_cv0 (M1 := M_X12_wrong) d_X12_lineOfPage_62 lv_X12_196 k_X12_wrong [qI 2, qI ((s.1 : Nat) : Int)] rfl rfl rput_o ⟨_, _, rfl⟩ (Nat.le_of_ble_eq_true rfl) (by decide) (by decide) (Nat.le_of_ble_eq_true rfl) (y_wrong s 2 ((s.1 : Nat) : Int) hm) ?_
              rw [show wrS 2 ((s.1 : Nat) : Int) s = (s.1, 2, (s.1 : Int)) from if_pos hs0]
              refine z_goto 86 d_X12_lineOfPage_65 (by decide) ?_
              refine z_aload_n d_X12_lineOfPage_86 rfl rfl ?_
              refine z_getf (v := qI ((s.1, 2, (s.1 : Int)).2.1)) d_X12_lineOfPage_87 fl_X12_141 rput_o rfl ?_
              refine z_if_eq 94 d_X12_lineOfPage_90 (by decide) (fun hc24 => ?_) (fun hc24 => ?_)
              · exact absurd (show ((2 : Int) = 0) by assumption) (by decide)
              · exact z_vret d_X12_lineOfPage_93 rfl er eh
        · exact absurd hck (by omega)
set_option maxRecDepth 20000 in
set_option maxHeartbeats 4000000 in
theorem c_lineOfPage3 {h : qH} {m : Nat} {f : Nat → Int} {g : Nat → Nat → Int} {N L : Nat} (s : pS) (hm : 2 ≤ m) (hN : f 2 = (N : Int)) (hN4 : N ≤ 400) (ha : s.1 ≤ N) (hsk : sk (g 1) N s.1 = s.1) (hs0 : s.2.1 = 0) (hL : L ≤ 24) (hck : (kd (g 1) N s.1 = 6 ∨ kd (g 1) N s.1 = 7 ∨ kd (g 1) N s.1 = 8 ∨ kd (g 1) N s.1 = 2) ∧ ¬ (kd (g 1) N s.1 = 2 ∧ vl (g 1) N s.1 ≥ 8) ∧ L = 24) : qEx M_X12_lineOfPage 0 [qR m, qU] [] (rput h m (qup (qup (qup (qup f 20 (L : Int)) 3 ((s.1 : Nat) : Int)) 4 s.2.1) 5 s.2.2) g) none (rput h m (qup (qup (qup (qup f 20 (L : Int)) 3 (((s.1, 3, (s.1 : Int)).1 : Nat) : Int)) 4 ((s.1, 3, (s.1 : Int)).2.1)) 5 ((s.1, 3, (s.1 : Int)).2.2)) g) := by
  refine q_gen (fun r hr er eh => ?_)
  refine z_aload_n d_X12_lineOfPage_0 rfl rfl ?_
  refine z_cv (M1 := M_X12_isAny) d_X12_lineOfPage_1 lv_X12_213 k_X12_isAny [] rfl rfl rput_o ⟨_, _, rfl⟩ (Nat.le_of_ble_eq_true rfl) (by decide) (by decide) (Nat.le_of_ble_eq_true rfl) (y_isAny (N := N) s hm hN hN4 ha hsk) ?_
  refine z_ifneB 40 d_X12_lineOfPage_4 (by decide) (fun hc1 => ?_) (fun hc1 => ?_)
  · refine z_aload_n d_X12_lineOfPage_40 rfl rfl ?_
    refine z_cv (M1 := M_X12_isNumber) d_X12_lineOfPage_41 lv_X12_192 k_X12_isNumber [] rfl rfl rput_o ⟨_, _, rfl⟩ (Nat.le_of_ble_eq_true rfl) (by decide) (by decide) (Nat.le_of_ble_eq_true rfl) (y_isNum (N := N) s hm hN hN4 ha hsk) ?_
    refine z_ifeqB 68 d_X12_lineOfPage_44 (by decide) (fun hc2 => ?_) (fun hc2 => ?_)
    · refine z_aload_n d_X12_lineOfPage_68 rfl rfl ?_
      refine z_getf (v := qI (L : Int)) d_X12_lineOfPage_69 fl_X12_222 rput_o rfl ?_
      refine z_bipush d_X12_lineOfPage_72 (by decide) ?_
      refine z_icmp_ne 86 d_X12_lineOfPage_74 (by decide) (fun hc3 => ?_) (fun hc3 => ?_)
      · exact absurd hck (by omega)
      · refine z_aload_n d_X12_lineOfPage_77 rfl rfl ?_
        refine z_iconst d_X12_lineOfPage_78 (by decide) ?_
        refine z_aload_n d_X12_lineOfPage_79 rfl rfl ?_
        refine z_getf (v := qI ((s.1 : Nat) : Int)) d_X12_lineOfPage_80 fl_X12_150 rput_o rfl ?_
        refine z_cv0 (M1 := M_X12_wrong) d_X12_lineOfPage_83 lv_X12_196 k_X12_wrong [qI 3, qI ((s.1 : Nat) : Int)] rfl rfl rput_o ⟨_, _, rfl⟩ (Nat.le_of_ble_eq_true rfl) (by decide) (by decide) (Nat.le_of_ble_eq_true rfl) (y_wrong s 3 ((s.1 : Nat) : Int) hm) ?_
        rw [show wrS 3 ((s.1 : Nat) : Int) s = (s.1, 3, (s.1 : Int)) from if_pos hs0]
        refine z_aload_n d_X12_lineOfPage_86 rfl rfl ?_
        refine z_getf (v := qI ((s.1, 3, (s.1 : Int)).2.1)) d_X12_lineOfPage_87 fl_X12_141 rput_o rfl ?_
        refine z_if_eq 94 d_X12_lineOfPage_90 (by decide) (fun hc4 => ?_) (fun hc4 => ?_)
        · exact absurd (show ((3 : Int) = 0) by assumption) (by decide)
        · exact z_vret d_X12_lineOfPage_93 rfl er eh
    · refine z_aload_n d_X12_lineOfPage_47 rfl rfl ?_
      refine z_cv (M1 := M_X12_valueHere) d_X12_lineOfPage_48 lv_X12_200 k_X12_valueHere [] rfl rfl rput_o ⟨_, _, rfl⟩ (Nat.le_of_ble_eq_true rfl) (by decide) (by decide) (Nat.le_of_ble_eq_true rfl) (y_val (N := N) s hm hN hN4 ha (by assumption)) ?_
      refine z_bipush d_X12_lineOfPage_51 (by decide) ?_
      refine z_icmp_lt 68 d_X12_lineOfPage_53 (by decide) (fun hc5 => ?_) (fun hc5 => ?_)
      · refine z_aload_n d_X12_lineOfPage_68 rfl rfl ?_
        refine z_getf (v := qI (L : Int)) d_X12_lineOfPage_69 fl_X12_222 rput_o rfl ?_
        refine z_bipush d_X12_lineOfPage_72 (by decide) ?_
        refine z_icmp_ne 86 d_X12_lineOfPage_74 (by decide) (fun hc6 => ?_) (fun hc6 => ?_)
        · exact absurd hck (by omega)
        · refine z_aload_n d_X12_lineOfPage_77 rfl rfl ?_
          refine z_iconst d_X12_lineOfPage_78 (by decide) ?_
          refine z_aload_n d_X12_lineOfPage_79 rfl rfl ?_
          refine z_getf (v := qI ((s.1 : Nat) : Int)) d_X12_lineOfPage_80 fl_X12_150 rput_o rfl ?_
          refine z_cv0 (M1 := M_X12_wrong) d_X12_lineOfPage_83 lv_X12_196 k_X12_wrong [qI 3, qI ((s.1 : Nat) : Int)] rfl rfl rput_o ⟨_, _, rfl⟩ (Nat.le_of_ble_eq_true rfl) (by decide) (by decide) (Nat.le_of_ble_eq_true rfl) (y_wrong s 3 ((s.1 : Nat) : Int) hm) ?_
          rw [show wrS 3 ((s.1 : Nat) : Int) s = (s.1, 3, (s.1 : Int)) from if_pos hs0]
          refine z_aload_n d_X12_lineOfPage_86 rfl rfl ?_
          refine z_getf (v := qI ((s.1, 3, (s.1 : Int)).2.1)) d_X12_lineOfPage_87 fl_X12_141 rput_o rfl ?_
          refine z_if_eq 94 d_X12_lineOfPage_90 (by decide) (fun hc7 => ?_) (fun hc7 => ?_)
          · exact absurd (show ((3 : Int) = 0) by assumption) (by decide)
          · exact z_vret d_X12_lineOfPage_93 rfl er eh
      · exact absurd hck (by omega)
  · refine z_aload_n d_X12_lineOfPage_7 rfl rfl ?_
    refine z_cv (M1 := M_X12_isNot) d_X12_lineOfPage_8 lv_X12_216 k_X12_isNot [] rfl rfl rput_o ⟨_, _, rfl⟩ (Nat.le_of_ble_eq_true rfl) (by decide) (by decide) (Nat.le_of_ble_eq_true rfl) (y_isNot (N := N) s hm hN hN4 ha hsk) ?_
    refine z_ifneB 40 d_X12_lineOfPage_11 (by decide) (fun hc8 => ?_) (fun hc8 => ?_)
    · refine z_aload_n d_X12_lineOfPage_40 rfl rfl ?_
      refine z_cv (M1 := M_X12_isNumber) d_X12_lineOfPage_41 lv_X12_192 k_X12_isNumber [] rfl rfl rput_o ⟨_, _, rfl⟩ (Nat.le_of_ble_eq_true rfl) (by decide) (by decide) (Nat.le_of_ble_eq_true rfl) (y_isNum (N := N) s hm hN hN4 ha hsk) ?_
      refine z_ifeqB 68 d_X12_lineOfPage_44 (by decide) (fun hc9 => ?_) (fun hc9 => ?_)
      · refine z_aload_n d_X12_lineOfPage_68 rfl rfl ?_
        refine z_getf (v := qI (L : Int)) d_X12_lineOfPage_69 fl_X12_222 rput_o rfl ?_
        refine z_bipush d_X12_lineOfPage_72 (by decide) ?_
        refine z_icmp_ne 86 d_X12_lineOfPage_74 (by decide) (fun hc10 => ?_) (fun hc10 => ?_)
        · exact absurd hck (by omega)
        · refine z_aload_n d_X12_lineOfPage_77 rfl rfl ?_
          refine z_iconst d_X12_lineOfPage_78 (by decide) ?_
          refine z_aload_n d_X12_lineOfPage_79 rfl rfl ?_
          refine z_getf (v := qI ((s.1 : Nat) : Int)) d_X12_lineOfPage_80 fl_X12_150 rput_o rfl ?_
          refine z_cv0 (M1 := M_X12_wrong) d_X12_lineOfPage_83 lv_X12_196 k_X12_wrong [qI 3, qI ((s.1 : Nat) : Int)] rfl rfl rput_o ⟨_, _, rfl⟩ (Nat.le_of_ble_eq_true rfl) (by decide) (by decide) (Nat.le_of_ble_eq_true rfl) (y_wrong s 3 ((s.1 : Nat) : Int) hm) ?_
          rw [show wrS 3 ((s.1 : Nat) : Int) s = (s.1, 3, (s.1 : Int)) from if_pos hs0]
          refine z_aload_n d_X12_lineOfPage_86 rfl rfl ?_
          refine z_getf (v := qI ((s.1, 3, (s.1 : Int)).2.1)) d_X12_lineOfPage_87 fl_X12_141 rput_o rfl ?_
          refine z_if_eq 94 d_X12_lineOfPage_90 (by decide) (fun hc11 => ?_) (fun hc11 => ?_)
          · exact absurd (show ((3 : Int) = 0) by assumption) (by decide)
          · exact z_vret d_X12_lineOfPage_93 rfl er eh
      · refine z_aload_n d_X12_lineOfPage_47 rfl rfl ?_
        refine z_cv (M1 := M_X12_valueHere) d_X12_lineOfPage_48 lv_X12_200 k_X12_valueHere [] rfl rfl rput_o ⟨_, _, rfl⟩ (Nat.le_of_ble_eq_true rfl) (by decide) (by decide) (Nat.le_of_ble_eq_true rfl) (y_val (N := N) s hm hN hN4 ha (by assumption)) ?_
        refine z_bipush d_X12_lineOfPage_51 (by decide) ?_
        refine z_icmp_lt 68 d_X12_lineOfPage_53 (by decide) (fun hc12 => ?_) (fun hc12 => ?_)
        · refine z_aload_n d_X12_lineOfPage_68 rfl rfl ?_
          refine z_getf (v := qI (L : Int)) d_X12_lineOfPage_69 fl_X12_222 rput_o rfl ?_
          refine z_bipush d_X12_lineOfPage_72 (by decide) ?_
          refine z_icmp_ne 86 d_X12_lineOfPage_74 (by decide) (fun hc13 => ?_) (fun hc13 => ?_)
          · exact absurd hck (by omega)
          · refine z_aload_n d_X12_lineOfPage_77 rfl rfl ?_
            refine z_iconst d_X12_lineOfPage_78 (by decide) ?_
            refine z_aload_n d_X12_lineOfPage_79 rfl rfl ?_
            refine z_getf (v := qI ((s.1 : Nat) : Int)) d_X12_lineOfPage_80 fl_X12_150 rput_o rfl ?_
            refine z_cv0 (M1 := M_X12_wrong) d_X12_lineOfPage_83 lv_X12_196 k_X12_wrong [qI 3, qI ((s.1 : Nat) : Int)] rfl rfl rput_o ⟨_, _, rfl⟩ (Nat.le_of_ble_eq_true rfl) (by decide) (by decide) (Nat.le_of_ble_eq_true rfl) (y_wrong s 3 ((s.1 : Nat) : Int) hm) ?_
            rw [show wrS 3 ((s.1 : Nat) : Int) s = (s.1, 3, (s.1 : Int)) from if_pos hs0]
            refine z_aload_n d_X12_lineOfPage_86 rfl rfl ?_
            refine z_getf (v := qI ((s.1, 3, (s.1 : Int)).2.1)) d_X12_lineOfPage_87 fl_X12_141 rput_o rfl ?_
            refine z_if_eq 94 d_X12_lineOfPage_90 (by decide) (fun hc14 => ?_) (fun hc14 => ?_)
            · exact absurd (show ((3 : Int) = 0) by assumption) (by decide)
            · exact z_vret d_X12_lineOfPage_93 rfl er eh
        · exact absurd hck (by omega)
    · refine z_aload_n d_X12_lineOfPage_14 rfl rfl ?_
      refine z_cv (M1 := M_X12_isEnd) d_X12_lineOfPage_15 lv_X12_219 k_X12_isEnd [] rfl rfl rput_o ⟨_, _, rfl⟩ (Nat.le_of_ble_eq_true rfl) (by decide) (by decide) (Nat.le_of_ble_eq_true rfl) (y_isEnd (N := N) s hm hN hN4 ha hsk) ?_
      refine z_ifneB 40 d_X12_lineOfPage_18 (by decide) (fun hc15 => ?_) (fun hc15 => ?_)
      · refine z_aload_n d_X12_lineOfPage_40 rfl rfl ?_
        refine z_cv (M1 := M_X12_isNumber) d_X12_lineOfPage_41 lv_X12_192 k_X12_isNumber [] rfl rfl rput_o ⟨_, _, rfl⟩ (Nat.le_of_ble_eq_true rfl) (by decide) (by decide) (Nat.le_of_ble_eq_true rfl) (y_isNum (N := N) s hm hN hN4 ha hsk) ?_
        refine z_ifeqB 68 d_X12_lineOfPage_44 (by decide) (fun hc16 => ?_) (fun hc16 => ?_)
        · refine z_aload_n d_X12_lineOfPage_68 rfl rfl ?_
          refine z_getf (v := qI (L : Int)) d_X12_lineOfPage_69 fl_X12_222 rput_o rfl ?_
          refine z_bipush d_X12_lineOfPage_72 (by decide) ?_
          refine z_icmp_ne 86 d_X12_lineOfPage_74 (by decide) (fun hc17 => ?_) (fun hc17 => ?_)
          · exact absurd hck (by omega)
          · refine z_aload_n d_X12_lineOfPage_77 rfl rfl ?_
            refine z_iconst d_X12_lineOfPage_78 (by decide) ?_
            refine z_aload_n d_X12_lineOfPage_79 rfl rfl ?_
            refine z_getf (v := qI ((s.1 : Nat) : Int)) d_X12_lineOfPage_80 fl_X12_150 rput_o rfl ?_
            refine z_cv0 (M1 := M_X12_wrong) d_X12_lineOfPage_83 lv_X12_196 k_X12_wrong [qI 3, qI ((s.1 : Nat) : Int)] rfl rfl rput_o ⟨_, _, rfl⟩ (Nat.le_of_ble_eq_true rfl) (by decide) (by decide) (Nat.le_of_ble_eq_true rfl) (y_wrong s 3 ((s.1 : Nat) : Int) hm) ?_
            rw [show wrS 3 ((s.1 : Nat) : Int) s = (s.1, 3, (s.1 : Int)) from if_pos hs0]
            refine z_aload_n d_X12_lineOfPage_86 rfl rfl ?_
            refine z_getf (v := qI ((s.1, 3, (s.1 : Int)).2.1)) d_X12_lineOfPage_87 fl_X12_141 rput_o rfl ?_
            refine z_if_eq 94 d_X12_lineOfPage_90 (by decide) (fun hc18 => ?_) (fun hc18 => ?_)
            · exact absurd (show ((3 : Int) = 0) by assumption) (by decide)
            · exact z_vret d_X12_lineOfPage_93 rfl er eh
        · refine z_aload_n d_X12_lineOfPage_47 rfl rfl ?_
          refine z_cv (M1 := M_X12_valueHere) d_X12_lineOfPage_48 lv_X12_200 k_X12_valueHere [] rfl rfl rput_o ⟨_, _, rfl⟩ (Nat.le_of_ble_eq_true rfl) (by decide) (by decide) (Nat.le_of_ble_eq_true rfl) (y_val (N := N) s hm hN hN4 ha (by assumption)) ?_
          refine z_bipush d_X12_lineOfPage_51 (by decide) ?_
          refine z_icmp_lt 68 d_X12_lineOfPage_53 (by decide) (fun hc19 => ?_) (fun hc19 => ?_)
          · refine z_aload_n d_X12_lineOfPage_68 rfl rfl ?_
            refine z_getf (v := qI (L : Int)) d_X12_lineOfPage_69 fl_X12_222 rput_o rfl ?_
            refine z_bipush d_X12_lineOfPage_72 (by decide) ?_
            refine z_icmp_ne 86 d_X12_lineOfPage_74 (by decide) (fun hc20 => ?_) (fun hc20 => ?_)
            · exact absurd hck (by omega)
            · refine z_aload_n d_X12_lineOfPage_77 rfl rfl ?_
              refine z_iconst d_X12_lineOfPage_78 (by decide) ?_
              refine z_aload_n d_X12_lineOfPage_79 rfl rfl ?_
              refine z_getf (v := qI ((s.1 : Nat) : Int)) d_X12_lineOfPage_80 fl_X12_150 rput_o rfl ?_
              refine z_cv0 (M1 := M_X12_wrong) d_X12_lineOfPage_83 lv_X12_196 k_X12_wrong [qI 3, qI ((s.1 : Nat) : Int)] rfl rfl rput_o ⟨_, _, rfl⟩ (Nat.le_of_ble_eq_true rfl) (by decide) (by decide) (Nat.le_of_ble_eq_true rfl) (y_wrong s 3 ((s.1 : Nat) : Int) hm) ?_
              rw [show wrS 3 ((s.1 : Nat) : Int) s = (s.1, 3, (s.1 : Int)) from if_pos hs0]
              refine z_aload_n d_X12_lineOfPage_86 rfl rfl ?_
              refine z_getf (v := qI ((s.1, 3, (s.1 : Int)).2.1)) d_X12_lineOfPage_87 fl_X12_141 rput_o rfl ?_
              refine z_if_eq 94 d_X12_lineOfPage_90 (by decide) (fun hc21 => ?_) (fun hc21 => ?_)
              · exact absurd (show ((3 : Int) = 0) by assumption) (by decide)
              · exact z_vret d_X12_lineOfPage_93 rfl er eh
          · exact absurd hck (by omega)
      · refine z_aload_n d_X12_lineOfPage_21 rfl rfl ?_
        refine z_cv (M1 := M_X12_isNumber) d_X12_lineOfPage_22 lv_X12_192 k_X12_isNumber [] rfl rfl rput_o ⟨_, _, rfl⟩ (Nat.le_of_ble_eq_true rfl) (by decide) (by decide) (Nat.le_of_ble_eq_true rfl) (y_isNum (N := N) s hm hN hN4 ha hsk) ?_
        refine z_ifneB 40 d_X12_lineOfPage_25 (by decide) (fun hc22 => ?_) (fun hc22 => ?_)
        · refine z_aload_n d_X12_lineOfPage_40 rfl rfl ?_
          refine z_cv (M1 := M_X12_isNumber) d_X12_lineOfPage_41 lv_X12_192 k_X12_isNumber [] rfl rfl rput_o ⟨_, _, rfl⟩ (Nat.le_of_ble_eq_true rfl) (by decide) (by decide) (Nat.le_of_ble_eq_true rfl) (y_isNum (N := N) s hm hN hN4 ha hsk) ?_
          refine z_ifeqB 68 d_X12_lineOfPage_44 (by decide) (fun hc23 => ?_) (fun hc23 => ?_)
          · refine z_aload_n d_X12_lineOfPage_68 rfl rfl ?_
            refine z_getf (v := qI (L : Int)) d_X12_lineOfPage_69 fl_X12_222 rput_o rfl ?_
            refine z_bipush d_X12_lineOfPage_72 (by decide) ?_
            refine z_icmp_ne 86 d_X12_lineOfPage_74 (by decide) (fun hc24 => ?_) (fun hc24 => ?_)
            · exact absurd hck (by omega)
            · refine z_aload_n d_X12_lineOfPage_77 rfl rfl ?_
              refine z_iconst d_X12_lineOfPage_78 (by decide) ?_
              refine z_aload_n d_X12_lineOfPage_79 rfl rfl ?_
              refine z_getf (v := qI ((s.1 : Nat) : Int)) d_X12_lineOfPage_80 fl_X12_150 rput_o rfl ?_
              refine z_cv0 (M1 := M_X12_wrong) d_X12_lineOfPage_83 lv_X12_196 k_X12_wrong [qI 3, qI ((s.1 : Nat) : Int)] rfl rfl rput_o ⟨_, _, rfl⟩ (Nat.le_of_ble_eq_true rfl) (by decide) (by decide) (Nat.le_of_ble_eq_true rfl) (y_wrong s 3 ((s.1 : Nat) : Int) hm) ?_
              rw [show wrS 3 ((s.1 : Nat) : Int) s = (s.1, 3, (s.1 : Int)) from if_pos hs0]
              refine z_aload_n d_X12_lineOfPage_86 rfl rfl ?_
              refine z_getf (v := qI ((s.1, 3, (s.1 : Int)).2.1)) d_X12_lineOfPage_87 fl_X12_141 rput_o rfl ?_
              refine z_if_eq 94 d_X12_lineOfPage_90 (by decide) (fun hc25 => ?_) (fun hc25 => ?_)
              · exact absurd (show ((3 : Int) = 0) by assumption) (by decide)
              · exact z_vret d_X12_lineOfPage_93 rfl er eh
          · refine z_aload_n d_X12_lineOfPage_47 rfl rfl ?_
            refine z_cv (M1 := M_X12_valueHere) d_X12_lineOfPage_48 lv_X12_200 k_X12_valueHere [] rfl rfl rput_o ⟨_, _, rfl⟩ (Nat.le_of_ble_eq_true rfl) (by decide) (by decide) (Nat.le_of_ble_eq_true rfl) (y_val (N := N) s hm hN hN4 ha (by assumption)) ?_
            refine z_bipush d_X12_lineOfPage_51 (by decide) ?_
            refine z_icmp_lt 68 d_X12_lineOfPage_53 (by decide) (fun hc26 => ?_) (fun hc26 => ?_)
            · refine z_aload_n d_X12_lineOfPage_68 rfl rfl ?_
              refine z_getf (v := qI (L : Int)) d_X12_lineOfPage_69 fl_X12_222 rput_o rfl ?_
              refine z_bipush d_X12_lineOfPage_72 (by decide) ?_
              refine z_icmp_ne 86 d_X12_lineOfPage_74 (by decide) (fun hc27 => ?_) (fun hc27 => ?_)
              · exact absurd hck (by omega)
              · refine z_aload_n d_X12_lineOfPage_77 rfl rfl ?_
                refine z_iconst d_X12_lineOfPage_78 (by decide) ?_
                refine z_aload_n d_X12_lineOfPage_79 rfl rfl ?_
                refine z_getf (v := qI ((s.1 : Nat) : Int)) d_X12_lineOfPage_80 fl_X12_150 rput_o rfl ?_
                refine z_cv0 (M1 := M_X12_wrong) d_X12_lineOfPage_83 lv_X12_196 k_X12_wrong [qI 3, qI ((s.1 : Nat) : Int)] rfl rfl rput_o ⟨_, _, rfl⟩ (Nat.le_of_ble_eq_true rfl) (by decide) (by decide) (Nat.le_of_ble_eq_true rfl) (y_wrong s 3 ((s.1 : Nat) : Int) hm) ?_
                rw [show wrS 3 ((s.1 : Nat) : Int) s = (s.1, 3, (s.1 : Int)) from if_pos hs0]
                refine z_aload_n d_X12_lineOfPage_86 rfl rfl ?_
                refine z_getf (v := qI ((s.1, 3, (s.1 : Int)).2.1)) d_X12_lineOfPage_87 fl_X12_141 rput_o rfl ?_
                refine z_if_eq 94 d_X12_lineOfPage_90 (by decide) (fun hc28 => ?_) (fun hc28 => ?_)
                · exact absurd (show ((3 : Int) = 0) by assumption) (by decide)
                · exact z_vret d_X12_lineOfPage_93 rfl er eh
            · exact absurd hck (by omega)
        · exact absurd hck (by omega)
set_option maxRecDepth 20000 in
set_option maxHeartbeats 4000000 in
theorem c_lineOfPage {h : qH} {m : Nat} {f : Nat → Int} {g : Nat → Nat → Int} {N L : Nat} (s : pS) (hm : 2 ≤ m) (hN : f 2 = (N : Int)) (hN4 : N ≤ 400) (ha : s.1 ≤ N) (hsk : sk (g 1) N s.1 = s.1) (hs0 : s.2.1 = 0) (hL : L ≤ 24) (hck : (kd (g 1) N s.1 = 6 ∨ kd (g 1) N s.1 = 7 ∨ kd (g 1) N s.1 = 8 ∨ kd (g 1) N s.1 = 2) ∧ ¬ (kd (g 1) N s.1 = 2 ∧ vl (g 1) N s.1 ≥ 8) ∧ L < 24) : qEx M_X12_lineOfPage 0 [qR m, qU] [] (rput h m (qup (qup (qup (qup f 20 (L : Int)) 3 ((s.1 : Nat) : Int)) 4 s.2.1) 5 s.2.2) g) none (rput h m (qup (qup (qup (qup f 20 ((L : Int) + 1)) 3 (((lnS (g 1) N s).1 : Nat) : Int)) 4 ((lnS (g 1) N s).2.1)) 5 ((lnS (g 1) N s).2.2)) (gup g 4 (row4 (g 4) (4 * L) (seV (g 1) N s) (seV (g 1) N (seS (g 1) N s)) (seV (g 1) N (seS (g 1) N (seS (g 1) N s))) (lnM (g 1) N s)))) := by
  refine q_gen (fun r hr er eh => ?_)
  suffices kH0 : qEx M_X12_lineOfPage 94 [qR m, qU] [] (rput h m (qup (qup (qup (qup f 20 (L : Int)) 3 ((s.1 : Nat) : Int)) 4 s.2.1) 5 s.2.2) g) r hr by
    refine z_aload_n d_X12_lineOfPage_0 rfl rfl ?_
    refine z_cv (M1 := M_X12_isAny) d_X12_lineOfPage_1 lv_X12_213 k_X12_isAny [] rfl rfl rput_o ⟨_, _, rfl⟩ (Nat.le_of_ble_eq_true rfl) (by decide) (by decide) (Nat.le_of_ble_eq_true rfl) (y_isAny (N := N) s hm hN hN4 ha hsk) ?_
    refine z_ifneB 40 d_X12_lineOfPage_4 (by decide) (fun hc1 => ?_) (fun hc1 => ?_)
    · refine z_aload_n d_X12_lineOfPage_40 rfl rfl ?_
      refine z_cv (M1 := M_X12_isNumber) d_X12_lineOfPage_41 lv_X12_192 k_X12_isNumber [] rfl rfl rput_o ⟨_, _, rfl⟩ (Nat.le_of_ble_eq_true rfl) (by decide) (by decide) (Nat.le_of_ble_eq_true rfl) (y_isNum (N := N) s hm hN hN4 ha hsk) ?_
      refine z_ifeqB 68 d_X12_lineOfPage_44 (by decide) (fun hc2 => ?_) (fun hc2 => ?_)
      · refine z_aload_n d_X12_lineOfPage_68 rfl rfl ?_
        refine z_getf (v := qI (L : Int)) d_X12_lineOfPage_69 fl_X12_222 rput_o rfl ?_
        refine z_bipush d_X12_lineOfPage_72 (by decide) ?_
        refine z_icmp_ne 86 d_X12_lineOfPage_74 (by decide) (fun hc3 => ?_) (fun hc3 => ?_)
        · refine z_aload_n d_X12_lineOfPage_86 rfl rfl ?_
          refine z_getf (v := qI s.2.1) d_X12_lineOfPage_87 fl_X12_141 rput_o rfl ?_
          refine z_if_eq 94 d_X12_lineOfPage_90 (by decide) (fun hc4 => ?_) (fun hc4 => absurd hc4 (by omega))
          exact z_eq rfl rfl rfl kH0
        · exact absurd hck (by omega)
      · refine z_aload_n d_X12_lineOfPage_47 rfl rfl ?_
        refine z_cv (M1 := M_X12_valueHere) d_X12_lineOfPage_48 lv_X12_200 k_X12_valueHere [] rfl rfl rput_o ⟨_, _, rfl⟩ (Nat.le_of_ble_eq_true rfl) (by decide) (by decide) (Nat.le_of_ble_eq_true rfl) (y_val (N := N) s hm hN hN4 ha (by assumption)) ?_
        refine z_bipush d_X12_lineOfPage_51 (by decide) ?_
        refine z_icmp_lt 68 d_X12_lineOfPage_53 (by decide) (fun hc5 => ?_) (fun hc5 => ?_)
        · refine z_aload_n d_X12_lineOfPage_68 rfl rfl ?_
          refine z_getf (v := qI (L : Int)) d_X12_lineOfPage_69 fl_X12_222 rput_o rfl ?_
          refine z_bipush d_X12_lineOfPage_72 (by decide) ?_
          refine z_icmp_ne 86 d_X12_lineOfPage_74 (by decide) (fun hc6 => ?_) (fun hc6 => ?_)
          · refine z_aload_n d_X12_lineOfPage_86 rfl rfl ?_
            refine z_getf (v := qI s.2.1) d_X12_lineOfPage_87 fl_X12_141 rput_o rfl ?_
            refine z_if_eq 94 d_X12_lineOfPage_90 (by decide) (fun hc7 => ?_) (fun hc7 => absurd hc7 (by omega))
            exact z_eq rfl rfl rfl kH0
          · exact absurd hck (by omega)
        · exact absurd hck (by omega)
    · refine z_aload_n d_X12_lineOfPage_7 rfl rfl ?_
      refine z_cv (M1 := M_X12_isNot) d_X12_lineOfPage_8 lv_X12_216 k_X12_isNot [] rfl rfl rput_o ⟨_, _, rfl⟩ (Nat.le_of_ble_eq_true rfl) (by decide) (by decide) (Nat.le_of_ble_eq_true rfl) (y_isNot (N := N) s hm hN hN4 ha hsk) ?_
      refine z_ifneB 40 d_X12_lineOfPage_11 (by decide) (fun hc8 => ?_) (fun hc8 => ?_)
      · refine z_aload_n d_X12_lineOfPage_40 rfl rfl ?_
        refine z_cv (M1 := M_X12_isNumber) d_X12_lineOfPage_41 lv_X12_192 k_X12_isNumber [] rfl rfl rput_o ⟨_, _, rfl⟩ (Nat.le_of_ble_eq_true rfl) (by decide) (by decide) (Nat.le_of_ble_eq_true rfl) (y_isNum (N := N) s hm hN hN4 ha hsk) ?_
        refine z_ifeqB 68 d_X12_lineOfPage_44 (by decide) (fun hc9 => ?_) (fun hc9 => ?_)
        · refine z_aload_n d_X12_lineOfPage_68 rfl rfl ?_
          refine z_getf (v := qI (L : Int)) d_X12_lineOfPage_69 fl_X12_222 rput_o rfl ?_
          refine z_bipush d_X12_lineOfPage_72 (by decide) ?_
          refine z_icmp_ne 86 d_X12_lineOfPage_74 (by decide) (fun hc10 => ?_) (fun hc10 => ?_)
          · refine z_aload_n d_X12_lineOfPage_86 rfl rfl ?_
            refine z_getf (v := qI s.2.1) d_X12_lineOfPage_87 fl_X12_141 rput_o rfl ?_
            refine z_if_eq 94 d_X12_lineOfPage_90 (by decide) (fun hc11 => ?_) (fun hc11 => absurd hc11 (by omega))
            exact z_eq rfl rfl rfl kH0
          · exact absurd hck (by omega)
        · refine z_aload_n d_X12_lineOfPage_47 rfl rfl ?_
          refine z_cv (M1 := M_X12_valueHere) d_X12_lineOfPage_48 lv_X12_200 k_X12_valueHere [] rfl rfl rput_o ⟨_, _, rfl⟩ (Nat.le_of_ble_eq_true rfl) (by decide) (by decide) (Nat.le_of_ble_eq_true rfl) (y_val (N := N) s hm hN hN4 ha (by assumption)) ?_
          refine z_bipush d_X12_lineOfPage_51 (by decide) ?_
          refine z_icmp_lt 68 d_X12_lineOfPage_53 (by decide) (fun hc12 => ?_) (fun hc12 => ?_)
          · refine z_aload_n d_X12_lineOfPage_68 rfl rfl ?_
            refine z_getf (v := qI (L : Int)) d_X12_lineOfPage_69 fl_X12_222 rput_o rfl ?_
            refine z_bipush d_X12_lineOfPage_72 (by decide) ?_
            refine z_icmp_ne 86 d_X12_lineOfPage_74 (by decide) (fun hc13 => ?_) (fun hc13 => ?_)
            · refine z_aload_n d_X12_lineOfPage_86 rfl rfl ?_
              refine z_getf (v := qI s.2.1) d_X12_lineOfPage_87 fl_X12_141 rput_o rfl ?_
              refine z_if_eq 94 d_X12_lineOfPage_90 (by decide) (fun hc14 => ?_) (fun hc14 => absurd hc14 (by omega))
              exact z_eq rfl rfl rfl kH0
            · exact absurd hck (by omega)
          · exact absurd hck (by omega)
      · refine z_aload_n d_X12_lineOfPage_14 rfl rfl ?_
        refine z_cv (M1 := M_X12_isEnd) d_X12_lineOfPage_15 lv_X12_219 k_X12_isEnd [] rfl rfl rput_o ⟨_, _, rfl⟩ (Nat.le_of_ble_eq_true rfl) (by decide) (by decide) (Nat.le_of_ble_eq_true rfl) (y_isEnd (N := N) s hm hN hN4 ha hsk) ?_
        refine z_ifneB 40 d_X12_lineOfPage_18 (by decide) (fun hc15 => ?_) (fun hc15 => ?_)
        · refine z_aload_n d_X12_lineOfPage_40 rfl rfl ?_
          refine z_cv (M1 := M_X12_isNumber) d_X12_lineOfPage_41 lv_X12_192 k_X12_isNumber [] rfl rfl rput_o ⟨_, _, rfl⟩ (Nat.le_of_ble_eq_true rfl) (by decide) (by decide) (Nat.le_of_ble_eq_true rfl) (y_isNum (N := N) s hm hN hN4 ha hsk) ?_
          refine z_ifeqB 68 d_X12_lineOfPage_44 (by decide) (fun hc16 => ?_) (fun hc16 => ?_)
          · refine z_aload_n d_X12_lineOfPage_68 rfl rfl ?_
            refine z_getf (v := qI (L : Int)) d_X12_lineOfPage_69 fl_X12_222 rput_o rfl ?_
            refine z_bipush d_X12_lineOfPage_72 (by decide) ?_
            refine z_icmp_ne 86 d_X12_lineOfPage_74 (by decide) (fun hc17 => ?_) (fun hc17 => ?_)
            · refine z_aload_n d_X12_lineOfPage_86 rfl rfl ?_
              refine z_getf (v := qI s.2.1) d_X12_lineOfPage_87 fl_X12_141 rput_o rfl ?_
              refine z_if_eq 94 d_X12_lineOfPage_90 (by decide) (fun hc18 => ?_) (fun hc18 => absurd hc18 (by omega))
              exact z_eq rfl rfl rfl kH0
            · exact absurd hck (by omega)
          · refine z_aload_n d_X12_lineOfPage_47 rfl rfl ?_
            refine z_cv (M1 := M_X12_valueHere) d_X12_lineOfPage_48 lv_X12_200 k_X12_valueHere [] rfl rfl rput_o ⟨_, _, rfl⟩ (Nat.le_of_ble_eq_true rfl) (by decide) (by decide) (Nat.le_of_ble_eq_true rfl) (y_val (N := N) s hm hN hN4 ha (by assumption)) ?_
            refine z_bipush d_X12_lineOfPage_51 (by decide) ?_
            refine z_icmp_lt 68 d_X12_lineOfPage_53 (by decide) (fun hc19 => ?_) (fun hc19 => ?_)
            · refine z_aload_n d_X12_lineOfPage_68 rfl rfl ?_
              refine z_getf (v := qI (L : Int)) d_X12_lineOfPage_69 fl_X12_222 rput_o rfl ?_
              refine z_bipush d_X12_lineOfPage_72 (by decide) ?_
              refine z_icmp_ne 86 d_X12_lineOfPage_74 (by decide) (fun hc20 => ?_) (fun hc20 => ?_)
              · refine z_aload_n d_X12_lineOfPage_86 rfl rfl ?_
                refine z_getf (v := qI s.2.1) d_X12_lineOfPage_87 fl_X12_141 rput_o rfl ?_
                refine z_if_eq 94 d_X12_lineOfPage_90 (by decide) (fun hc21 => ?_) (fun hc21 => absurd hc21 (by omega))
                exact z_eq rfl rfl rfl kH0
              · exact absurd hck (by omega)
            · exact absurd hck (by omega)
        · refine z_aload_n d_X12_lineOfPage_21 rfl rfl ?_
          refine z_cv (M1 := M_X12_isNumber) d_X12_lineOfPage_22 lv_X12_192 k_X12_isNumber [] rfl rfl rput_o ⟨_, _, rfl⟩ (Nat.le_of_ble_eq_true rfl) (by decide) (by decide) (Nat.le_of_ble_eq_true rfl) (y_isNum (N := N) s hm hN hN4 ha hsk) ?_
          refine z_ifneB 40 d_X12_lineOfPage_25 (by decide) (fun hc22 => ?_) (fun hc22 => ?_)
          · refine z_aload_n d_X12_lineOfPage_40 rfl rfl ?_
            refine z_cv (M1 := M_X12_isNumber) d_X12_lineOfPage_41 lv_X12_192 k_X12_isNumber [] rfl rfl rput_o ⟨_, _, rfl⟩ (Nat.le_of_ble_eq_true rfl) (by decide) (by decide) (Nat.le_of_ble_eq_true rfl) (y_isNum (N := N) s hm hN hN4 ha hsk) ?_
            refine z_ifeqB 68 d_X12_lineOfPage_44 (by decide) (fun hc23 => ?_) (fun hc23 => ?_)
            · refine z_aload_n d_X12_lineOfPage_68 rfl rfl ?_
              refine z_getf (v := qI (L : Int)) d_X12_lineOfPage_69 fl_X12_222 rput_o rfl ?_
              refine z_bipush d_X12_lineOfPage_72 (by decide) ?_
              refine z_icmp_ne 86 d_X12_lineOfPage_74 (by decide) (fun hc24 => ?_) (fun hc24 => ?_)
              · refine z_aload_n d_X12_lineOfPage_86 rfl rfl ?_
                refine z_getf (v := qI s.2.1) d_X12_lineOfPage_87 fl_X12_141 rput_o rfl ?_
                refine z_if_eq 94 d_X12_lineOfPage_90 (by decide) (fun hc25 => ?_) (fun hc25 => absurd hc25 (by omega))
                exact z_eq rfl rfl rfl kH0
              · exact absurd hck (by omega)
            · refine z_aload_n d_X12_lineOfPage_47 rfl rfl ?_
              refine z_cv (M1 := M_X12_valueHere) d_X12_lineOfPage_48 lv_X12_200 k_X12_valueHere [] rfl rfl rput_o ⟨_, _, rfl⟩ (Nat.le_of_ble_eq_true rfl) (by decide) (by decide) (Nat.le_of_ble_eq_true rfl) (y_val (N := N) s hm hN hN4 ha (by assumption)) ?_
              refine z_bipush d_X12_lineOfPage_51 (by decide) ?_
              refine z_icmp_lt 68 d_X12_lineOfPage_53 (by decide) (fun hc26 => ?_) (fun hc26 => ?_)
              · refine z_aload_n d_X12_lineOfPage_68 rfl rfl ?_
                refine z_getf (v := qI (L : Int)) d_X12_lineOfPage_69 fl_X12_222 rput_o rfl ?_
                refine z_bipush d_X12_lineOfPage_72 (by decide) ?_
                refine z_icmp_ne 86 d_X12_lineOfPage_74 (by decide) (fun hc27 => ?_) (fun hc27 => ?_)
                · refine z_aload_n d_X12_lineOfPage_86 rfl rfl ?_
                  refine z_getf (v := qI s.2.1) d_X12_lineOfPage_87 fl_X12_141 rput_o rfl ?_
                  refine z_if_eq 94 d_X12_lineOfPage_90 (by decide) (fun hc28 => ?_) (fun hc28 => absurd hc28 (by omega))
                  exact z_eq rfl rfl rfl kH0
                · exact absurd hck (by omega)
              · exact absurd hck (by omega)
          · exact absurd hck (by omega)
  refine z_iconst d_X12_lineOfPage_94 (by decide) ?_
  refine z_istore_n (ls' := [qR m, qI 0]) d_X12_lineOfPage_95 rfl (by decide) rfl ?_
  refine z_iload_n d_X12_lineOfPage_96 rfl rfl ?_
  refine z_iconst d_X12_lineOfPage_97 (by decide) ?_
  refine z_icmp_ge 124 d_X12_lineOfPage_98 (by decide) (fun hc29 => absurd hc29 (by decide)) (fun hc29 => ?_)
  refine z_aload_n d_X12_lineOfPage_101 rfl rfl ?_
  refine z_getf (v := qR (m + 4)) d_X12_lineOfPage_102 fl_X12_23 rput_o rfl ?_
  refine z_iconst d_X12_lineOfPage_105 (by decide) ?_
  refine z_aload_n d_X12_lineOfPage_106 rfl rfl ?_
  refine z_getf (v := qI (L : Int)) d_X12_lineOfPage_107 fl_X12_222 rput_o rfl ?_
  refine z_imul d_X12_lineOfPage_110 (by omega) ?_
  refine z_iload_n d_X12_lineOfPage_111 rfl rfl ?_
  refine z_iadd d_X12_lineOfPage_112 (by omega) ?_
  refine z_aload_n d_X12_lineOfPage_113 rfl rfl ?_
  refine z_cv (M1 := M_X12_seen) d_X12_lineOfPage_114 lv_X12_225 k_X12_seen [] rfl rfl rput_o ⟨_, _, rfl⟩ (Nat.le_of_ble_eq_true rfl) (by decide) (by decide) (Nat.le_of_ble_eq_true rfl) (c_seen (N := N) s hm hN hN4 ha) ?_
  refine z_ist ((4 * L) + 0) d_X12_lineOfPage_117 (rput_a2 4 (t := 0) (n := 96) (F := (g 4)) rfl rfl rfl (by decide) (by decide)) (by omega) rfl (by omega) ?_
  refine z_eq rfl rfl (rput_sa 4 rfl rfl (by decide) (by decide)) ?_
  refine z_iinc (ls' := [qR m, qI 1]) d_X12_lineOfPage_118 rfl (by decide) (by omega) rfl ?_
  refine z_goto 96 d_X12_lineOfPage_121 (by decide) ?_
  refine z_iload_n d_X12_lineOfPage_96 rfl rfl ?_
  refine z_iconst d_X12_lineOfPage_97 (by decide) ?_
  refine z_icmp_ge 124 d_X12_lineOfPage_98 (by decide) (fun hc30 => absurd hc30 (by decide)) (fun hc30 => ?_)
  refine z_aload_n d_X12_lineOfPage_101 rfl rfl ?_
  refine z_getf (v := qR (m + 4)) d_X12_lineOfPage_102 fl_X12_23 rput_o rfl ?_
  refine z_iconst d_X12_lineOfPage_105 (by decide) ?_
  refine z_aload_n d_X12_lineOfPage_106 rfl rfl ?_
  refine z_getf (v := qI (L : Int)) d_X12_lineOfPage_107 fl_X12_222 rput_o rfl ?_
  refine z_imul d_X12_lineOfPage_110 (by omega) ?_
  refine z_iload_n d_X12_lineOfPage_111 rfl rfl ?_
  refine z_iadd d_X12_lineOfPage_112 (by omega) ?_
  refine z_aload_n d_X12_lineOfPage_113 rfl rfl ?_
  refine z_cv (M1 := M_X12_seen) d_X12_lineOfPage_114 lv_X12_225 k_X12_seen [] rfl rfl rput_o ⟨_, _, rfl⟩ (Nat.le_of_ble_eq_true rfl) (by decide) (by decide) (Nat.le_of_ble_eq_true rfl) (c_seen (N := N) (seS (g 1) N s) hm hN hN4 (seS_le ha)) ?_
  refine z_ist ((4 * L) + 1) d_X12_lineOfPage_117 (rput_a2 4 (t := 0) (n := 96) (F := (qup (g 4) ((4 * L) + 0) (seV (g 1) N s))) rfl rfl rfl (by decide) (by decide)) (by omega) rfl (by omega) ?_
  refine z_eq rfl rfl ((rput_sa 4 rfl rfl (by decide) (by decide)).trans (rput_cg rfl (gup_gup _ _ _))) ?_
  refine z_iinc (ls' := [qR m, qI 2]) d_X12_lineOfPage_118 rfl (by decide) (by omega) rfl ?_
  refine z_goto 96 d_X12_lineOfPage_121 (by decide) ?_
  refine z_iload_n d_X12_lineOfPage_96 rfl rfl ?_
  refine z_iconst d_X12_lineOfPage_97 (by decide) ?_
  refine z_icmp_ge 124 d_X12_lineOfPage_98 (by decide) (fun hc31 => absurd hc31 (by decide)) (fun hc31 => ?_)
  refine z_aload_n d_X12_lineOfPage_101 rfl rfl ?_
  refine z_getf (v := qR (m + 4)) d_X12_lineOfPage_102 fl_X12_23 rput_o rfl ?_
  refine z_iconst d_X12_lineOfPage_105 (by decide) ?_
  refine z_aload_n d_X12_lineOfPage_106 rfl rfl ?_
  refine z_getf (v := qI (L : Int)) d_X12_lineOfPage_107 fl_X12_222 rput_o rfl ?_
  refine z_imul d_X12_lineOfPage_110 (by omega) ?_
  refine z_iload_n d_X12_lineOfPage_111 rfl rfl ?_
  refine z_iadd d_X12_lineOfPage_112 (by omega) ?_
  refine z_aload_n d_X12_lineOfPage_113 rfl rfl ?_
  refine z_cv (M1 := M_X12_seen) d_X12_lineOfPage_114 lv_X12_225 k_X12_seen [] rfl rfl rput_o ⟨_, _, rfl⟩ (Nat.le_of_ble_eq_true rfl) (by decide) (by decide) (Nat.le_of_ble_eq_true rfl) (c_seen (N := N) (seS (g 1) N (seS (g 1) N s)) hm hN hN4 (seS_le (seS_le ha))) ?_
  refine z_ist ((4 * L) + 2) d_X12_lineOfPage_117 (rput_a2 4 (t := 0) (n := 96) (F := (qup (qup (g 4) ((4 * L) + 0) (seV (g 1) N s)) ((4 * L) + 1) (seV (g 1) N (seS (g 1) N s)))) rfl rfl rfl (by decide) (by decide)) (by omega) rfl (by omega) ?_
  refine z_eq rfl rfl ((rput_sa 4 rfl rfl (by decide) (by decide)).trans (rput_cg rfl (gup_gup _ _ _))) ?_
  refine z_iinc (ls' := [qR m, qI 3]) d_X12_lineOfPage_118 rfl (by decide) (by omega) rfl ?_
  refine z_goto 96 d_X12_lineOfPage_121 (by decide) ?_
  refine z_iload_n d_X12_lineOfPage_96 rfl rfl ?_
  refine z_iconst d_X12_lineOfPage_97 (by decide) ?_
  refine z_icmp_ge 124 d_X12_lineOfPage_98 (by decide) (fun hc32 => ?_) (fun hc32 => absurd (by decide) hc32)
  refine z_aload_n d_X12_lineOfPage_124 rfl rfl ?_
  refine z_bipush d_X12_lineOfPage_125 (by decide) ?_
  refine z_cv0 (M1 := M_X12_sign) d_X12_lineOfPage_127 lv_X12_228 k_X12_sign [qI 62] rfl rfl rput_o ⟨_, _, rfl⟩ (Nat.le_of_ble_eq_true rfl) (by decide) (by decide) (Nat.le_of_ble_eq_true rfl) (y_sign (N := N) (seS (g 1) N (seS (g 1) N (seS (g 1) N s))) 62 hm hN hN4 (seS_le (seS_le (seS_le ha)))) ?_
  refine z_aload_n d_X12_lineOfPage_130 rfl rfl ?_
  refine z_getf (v := qR (m + 4)) d_X12_lineOfPage_131 fl_X12_23 rput_o rfl ?_
  refine z_iconst d_X12_lineOfPage_134 (by decide) ?_
  refine z_aload_n d_X12_lineOfPage_135 rfl rfl ?_
  refine z_getf (v := qI (L : Int)) d_X12_lineOfPage_136 fl_X12_222 rput_o rfl ?_
  refine z_imul d_X12_lineOfPage_139 (by omega) ?_
  refine z_iconst d_X12_lineOfPage_140 (by decide) ?_
  refine z_iadd d_X12_lineOfPage_141 (by omega) ?_
  refine z_aload_n d_X12_lineOfPage_142 rfl rfl ?_
  refine z_bipush d_X12_lineOfPage_143 (by decide) ?_
  refine z_iconst d_X12_lineOfPage_145 (by decide) ?_
  refine z_bipush d_X12_lineOfPage_146 (by decide) ?_
  refine z_iconst d_X12_lineOfPage_148 (by decide) ?_
  refine z_iconst d_X12_lineOfPage_149 (by decide) ?_
  refine z_iconst d_X12_lineOfPage_150 (by decide) ?_
  refine z_cv (M1 := M_X12_takes) d_X12_lineOfPage_151 lv_X12_203 k_X12_takes [qI 19, qI 1, qI 13, qI 5, qI 0, qI 0] rfl rfl rput_o ⟨_, _, rfl⟩ (Nat.le_of_ble_eq_true rfl) (by decide) (by decide) (Nat.le_of_ble_eq_true rfl) (y_takes2 (N := N) (gnS (g 1) N 62 (seS (g 1) N (seS (g 1) N (seS (g 1) N s)))) 3 9 19 1 13 5 0 0 hm hN hN4 (gnS_le (by decide) (seS_le (seS_le (seS_le ha)))) (by decide) (by decide) (by decide +kernel) (by decide) (by decide) (by decide) (by decide) (by decide) (by decide)) ?_
  refine z_ifeqB 162 d_X12_lineOfPage_154 (by decide) (fun q9 => ?_) (fun q9 => ?_)
  · refine z_aload_n d_X12_lineOfPage_162 rfl rfl ?_
    refine z_iconst d_X12_lineOfPage_163 (by decide) ?_
    refine z_bipush d_X12_lineOfPage_164 (by decide) ?_
    refine z_cv (M1 := M_X12_number) d_X12_lineOfPage_166 lv_X12_206 k_X12_number [qI 0, qI 7] rfl rfl rput_o ⟨_, _, rfl⟩ (Nat.le_of_ble_eq_true rfl) (by decide) (by decide) (Nat.le_of_ble_eq_true rfl) (y_number (N := N) (tkS (g 1) N 9 (gnS (g 1) N 62 (seS (g 1) N (seS (g 1) N (seS (g 1) N s))))) 0 7 hm hN hN4 (tkS_le (by decide) (gnS_le (by decide) (seS_le (seS_le (seS_le ha)))))) ?_
    refine z_ist ((4 * L) + 3) d_X12_lineOfPage_169 (rput_a2 4 (t := 0) (n := 96) (F := (qup (qup (qup (g 4) ((4 * L) + 0) (seV (g 1) N s)) ((4 * L) + 1) (seV (g 1) N (seS (g 1) N s))) ((4 * L) + 2) (seV (g 1) N (seS (g 1) N (seS (g 1) N s))))) rfl rfl rfl (by decide) (by decide)) (by omega) rfl (by omega) ?_
    refine z_eq rfl rfl ((rput_sa 4 rfl rfl (by decide) (by decide)).trans (rput_cg rfl (gup_gup _ _ _))) ?_
    refine z_aload_n d_X12_lineOfPage_170 rfl rfl ?_
    refine z_bipush d_X12_lineOfPage_171 (by decide) ?_
    refine z_cv0 (M1 := M_X12_sign) d_X12_lineOfPage_173 lv_X12_228 k_X12_sign [qI 59] rfl rfl rput_o ⟨_, _, rfl⟩ (Nat.le_of_ble_eq_true rfl) (by decide) (by decide) (Nat.le_of_ble_eq_true rfl) (y_sign (N := N) (nuS (g 1) N 0 7 (tkS (g 1) N 9 (gnS (g 1) N 62 (seS (g 1) N (seS (g 1) N (seS (g 1) N s)))))) 59 hm hN hN4 (nuS_le (tkS_le (by decide) (gnS_le (by decide) (seS_le (seS_le (seS_le ha))))))) ?_
    refine z_aload_n d_X12_lineOfPage_176 rfl rfl ?_
    refine z_dup d_X12_lineOfPage_177 rfl ?_
    refine z_getf (v := qI (L : Int)) d_X12_lineOfPage_178 fl_X12_222 rput_o rfl ?_
    refine z_iconst d_X12_lineOfPage_181 (by decide) ?_
    refine z_iadd d_X12_lineOfPage_182 (by omega) ?_
    refine z_putf (fs' := [qI (f 0), qI (f 1), qI (f 2), qI (((gnS (g 1) N 59 (nuS (g 1) N 0 7 (tkS (g 1) N 9 (gnS (g 1) N 62 (seS (g 1) N (seS (g 1) N (seS (g 1) N s))))))).1 : Nat) : Int), qI ((gnS (g 1) N 59 (nuS (g 1) N 0 7 (tkS (g 1) N 9 (gnS (g 1) N 62 (seS (g 1) N (seS (g 1) N (seS (g 1) N s))))))).2.1), qI ((gnS (g 1) N 59 (nuS (g 1) N 0 7 (tkS (g 1) N 9 (gnS (g 1) N 62 (seS (g 1) N (seS (g 1) N (seS (g 1) N s))))))).2.2), qI (f 6), qI (f 7), qR (m + 1), qR (m + 2), qR (m + 3), qR (m + 4), qR (m + 5), qR (m + 6), qR (m + 7), qR (m + 8), qR (m + 9), qR (m + 10), qI (f 18), qI (f 19), qI ((L : Int) + 1), qR (m + 11), qR (m + 12), qR (m + 13), qR (m + 14), qI (f 25), qR (m + 15), qI (f 27), qR (m + 16), qR (m + 17), qR (m + 18), qR (m + 19), qR (m + 20), qR (m + 21), qR (m + 22), qR (m + 23), qR (m + 24), qI (f 37), qI (f 38), qI (f 39), qI (f 40), qR (m + 25), qR (m + 26), qR (m + 27), qR (m + 28), qR (m + 29), qR (m + 30), qR (m + 31), qI (f 48), qR (m + 32), qR (m + 33), qR (m + 34), qR (m + 35), qR (m + 36), qR (m + 37)]) d_X12_lineOfPage_183 fp_X12_222 rput_o (fun _ => rfl) (fun _ => rfl) (Nat.le_of_ble_eq_true rfl) rfl ?_
    refine z_eq rfl rfl ((rput_sf (f' := qup (qup (qup (qup (qup f 20 (L : Int)) 3 (((gnS (g 1) N 59 (nuS (g 1) N 0 7 (tkS (g 1) N 9 (gnS (g 1) N 62 (seS (g 1) N (seS (g 1) N (seS (g 1) N s))))))).1 : Nat) : Int)) 4 ((gnS (g 1) N 59 (nuS (g 1) N 0 7 (tkS (g 1) N 9 (gnS (g 1) N 62 (seS (g 1) N (seS (g 1) N (seS (g 1) N s))))))).2.1)) 5 ((gnS (g 1) N 59 (nuS (g 1) N 0 7 (tkS (g 1) N 9 (gnS (g 1) N 62 (seS (g 1) N (seS (g 1) N (seS (g 1) N s))))))).2.2)) 20 ((L : Int) + 1)) rfl).trans (rput_cg ((qup_comm (by decide)).trans (congrArg (fun z => qup z 5 ((gnS (g 1) N 59 (nuS (g 1) N 0 7 (tkS (g 1) N 9 (gnS (g 1) N 62 (seS (g 1) N (seS (g 1) N (seS (g 1) N s))))))).2.2)) ((qup_comm (by decide)).trans (congrArg (fun z => qup z 4 ((gnS (g 1) N 59 (nuS (g 1) N 0 7 (tkS (g 1) N 9 (gnS (g 1) N 62 (seS (g 1) N (seS (g 1) N (seS (g 1) N s))))))).2.1)) ((qup_comm (by decide)).trans (congrArg (fun z => qup z 3 (((gnS (g 1) N 59 (nuS (g 1) N 0 7 (tkS (g 1) N 9 (gnS (g 1) N 62 (seS (g 1) N (seS (g 1) N (seS (g 1) N s))))))).1 : Nat) : Int)) (qup_qup _ _ _ _))))))) rfl)) ?_
    exact z_vret d_X12_lineOfPage_186 rfl er (eh.trans (by unfold lnS lnB lnM row4; rw [qif_f (show ¬ tkQ (g 1) N 9 (lnA (g 1) N s) from q9), qif_f (show ¬ tkQ (g 1) N 9 (lnA (g 1) N s) from q9)]; rfl))
  · refine z_bipush d_X12_lineOfPage_157 (by decide) ?_
    refine z_goto 169 d_X12_lineOfPage_159 (by decide) ?_
    refine z_ist ((4 * L) + 3) d_X12_lineOfPage_169 (rput_a2 4 (t := 0) (n := 96) (F := (qup (qup (qup (g 4) ((4 * L) + 0) (seV (g 1) N s)) ((4 * L) + 1) (seV (g 1) N (seS (g 1) N s))) ((4 * L) + 2) (seV (g 1) N (seS (g 1) N (seS (g 1) N s))))) rfl rfl rfl (by decide) (by decide)) (by omega) rfl (by omega) ?_
    refine z_eq rfl rfl ((rput_sa 4 rfl rfl (by decide) (by decide)).trans (rput_cg rfl (gup_gup _ _ _))) ?_
    refine z_aload_n d_X12_lineOfPage_170 rfl rfl ?_
    refine z_bipush d_X12_lineOfPage_171 (by decide) ?_
    refine z_cv0 (M1 := M_X12_sign) d_X12_lineOfPage_173 lv_X12_228 k_X12_sign [qI 59] rfl rfl rput_o ⟨_, _, rfl⟩ (Nat.le_of_ble_eq_true rfl) (by decide) (by decide) (Nat.le_of_ble_eq_true rfl) (y_sign (N := N) (tkS (g 1) N 9 (gnS (g 1) N 62 (seS (g 1) N (seS (g 1) N (seS (g 1) N s))))) 59 hm hN hN4 (tkS_le (by decide) (gnS_le (by decide) (seS_le (seS_le (seS_le ha)))))) ?_
    refine z_aload_n d_X12_lineOfPage_176 rfl rfl ?_
    refine z_dup d_X12_lineOfPage_177 rfl ?_
    refine z_getf (v := qI (L : Int)) d_X12_lineOfPage_178 fl_X12_222 rput_o rfl ?_
    refine z_iconst d_X12_lineOfPage_181 (by decide) ?_
    refine z_iadd d_X12_lineOfPage_182 (by omega) ?_
    refine z_putf (fs' := [qI (f 0), qI (f 1), qI (f 2), qI (((gnS (g 1) N 59 (tkS (g 1) N 9 (gnS (g 1) N 62 (seS (g 1) N (seS (g 1) N (seS (g 1) N s)))))).1 : Nat) : Int), qI ((gnS (g 1) N 59 (tkS (g 1) N 9 (gnS (g 1) N 62 (seS (g 1) N (seS (g 1) N (seS (g 1) N s)))))).2.1), qI ((gnS (g 1) N 59 (tkS (g 1) N 9 (gnS (g 1) N 62 (seS (g 1) N (seS (g 1) N (seS (g 1) N s)))))).2.2), qI (f 6), qI (f 7), qR (m + 1), qR (m + 2), qR (m + 3), qR (m + 4), qR (m + 5), qR (m + 6), qR (m + 7), qR (m + 8), qR (m + 9), qR (m + 10), qI (f 18), qI (f 19), qI ((L : Int) + 1), qR (m + 11), qR (m + 12), qR (m + 13), qR (m + 14), qI (f 25), qR (m + 15), qI (f 27), qR (m + 16), qR (m + 17), qR (m + 18), qR (m + 19), qR (m + 20), qR (m + 21), qR (m + 22), qR (m + 23), qR (m + 24), qI (f 37), qI (f 38), qI (f 39), qI (f 40), qR (m + 25), qR (m + 26), qR (m + 27), qR (m + 28), qR (m + 29), qR (m + 30), qR (m + 31), qI (f 48), qR (m + 32), qR (m + 33), qR (m + 34), qR (m + 35), qR (m + 36), qR (m + 37)]) d_X12_lineOfPage_183 fp_X12_222 rput_o (fun _ => rfl) (fun _ => rfl) (Nat.le_of_ble_eq_true rfl) rfl ?_
    refine z_eq rfl rfl ((rput_sf (f' := qup (qup (qup (qup (qup f 20 (L : Int)) 3 (((gnS (g 1) N 59 (tkS (g 1) N 9 (gnS (g 1) N 62 (seS (g 1) N (seS (g 1) N (seS (g 1) N s)))))).1 : Nat) : Int)) 4 ((gnS (g 1) N 59 (tkS (g 1) N 9 (gnS (g 1) N 62 (seS (g 1) N (seS (g 1) N (seS (g 1) N s)))))).2.1)) 5 ((gnS (g 1) N 59 (tkS (g 1) N 9 (gnS (g 1) N 62 (seS (g 1) N (seS (g 1) N (seS (g 1) N s)))))).2.2)) 20 ((L : Int) + 1)) rfl).trans (rput_cg ((qup_comm (by decide)).trans (congrArg (fun z => qup z 5 ((gnS (g 1) N 59 (tkS (g 1) N 9 (gnS (g 1) N 62 (seS (g 1) N (seS (g 1) N (seS (g 1) N s)))))).2.2)) ((qup_comm (by decide)).trans (congrArg (fun z => qup z 4 ((gnS (g 1) N 59 (tkS (g 1) N 9 (gnS (g 1) N 62 (seS (g 1) N (seS (g 1) N (seS (g 1) N s)))))).2.1)) ((qup_comm (by decide)).trans (congrArg (fun z => qup z 3 (((gnS (g 1) N 59 (tkS (g 1) N 9 (gnS (g 1) N 62 (seS (g 1) N (seS (g 1) N (seS (g 1) N s)))))).1 : Nat) : Int)) (qup_qup _ _ _ _))))))) rfl)) ?_
    exact z_vret d_X12_lineOfPage_186 rfl er (eh.trans (by unfold lnS lnB lnM row4; rw [qif_t (show tkQ (g 1) N 9 (lnA (g 1) N s) from q9), qif_t (show tkQ (g 1) N 9 (lnA (g 1) N s) from q9)]; rfl))
section ActWords
variable (B : Nat → Int) (N : Nat)
def acQ (s : pS) : Prop := s.2.1 = 0 ∧ 11 ≤ kd B N (sk B N s.1) ∧ kd B N (sk B N s.1) ≤ 16
noncomputable def acV (s : pS) : Int := qif (acQ B N s) (kd B N (sk B N s.1) - 11) (-1)
noncomputable def acS (s : pS) : pS := qif (s.2.1 ≠ 0) s (qif (11 ≤ kd B N (sk B N s.1) ∧ kd B N (sk B N s.1) ≤ 16) (en B N (sk B N s.1), s.2) (sk B N s.1, s.2))
end ActWords
theorem acS_le {B : Nat → Int} {N : Nat} {s : pS} (h : s.1 ≤ N) : (acS B N s).1 ≤ N := by
  have h1 := sk_sp B h
  unfold acS
  by_cases c : s.2.1 ≠ 0
  · rw [qif_t c]; exact h
  · rw [qif_f c]
    by_cases d : 11 ≤ kd B N (sk B N s.1) ∧ kd B N (sk B N s.1) ≤ 16
    · rw [qif_t d]
      have : sk B N s.1 < N := by
        rcases Nat.lt_or_ge (sk B N s.1) N with q | q
        · exact q
        · have := (kd_0 (B := B)).mpr q; omega
      exact (en_sp this).2
    · rw [qif_f d]; exact h1.2.1
theorem acV_y {B : Nat → Int} {N : Nat} {s : pS} {k : Int} (h : s.2.1 = 0) (hk : kd B N (sk B N s.1) = 11 + k) (hb : 0 ≤ k ∧ k ≤ 5) : acV B N s = k := by
  unfold acV acQ
  rw [qif_t ⟨h, by omega⟩]
  omega
theorem acS_y {B : Nat → Int} {N : Nat} {s : pS} {W : Int} (h : s.2.1 = 0) (hk : kd B N (sk B N s.1) = W) (hb : 11 ≤ W ∧ W ≤ 16) : acS B N s = tkS B N W s := by
  rw [tkS_y h hk]
  unfold acS
  rw [qif_f (fun z => z h), qif_t (by omega)]
theorem acV_n {B : Nat → Int} {N : Nat} {s : pS} (hk : ¬ (11 ≤ kd B N (sk B N s.1) ∧ kd B N (sk B N s.1) ≤ 16)) : acV B N s = -1 := by
  unfold acV acQ
  rw [qif_f (fun z => hk z.2)]
theorem acS_n {B : Nat → Int} {N : Nat} {s : pS} (h : s.2.1 = 0) (hk : ¬ (11 ≤ kd B N (sk B N s.1) ∧ kd B N (sk B N s.1) ≤ 16)) : acS B N s = skS B N s := by
  unfold acS
  rw [qif_f (fun z => z h), qif_f hk]
  rfl
set_option maxRecDepth 20000 in
set_option maxHeartbeats 4000000 in
theorem c_actHereF {h : qH} {m : Nat} {f : Nat → Int} {g : Nat → Nat → Int} {N : Nat} (s : pS) (hm : 2 ≤ m) (hN : f 2 = (N : Int)) (hN4 : N ≤ 400) (ha : s.1 ≤ N) (hs : s.2.1 ≠ 0) : qEx M_X12_actHere 0 [qR m] [] (rput h m (qup (qup (qup f 3 ((s.1 : Nat) : Int)) 4 s.2.1) 5 s.2.2) g) (some (qI (-1))) (rput h m (qup (qup (qup f 3 ((s.1 : Nat) : Int)) 4 s.2.1) 5 s.2.2) g) := by
  refine q_gen (fun r hr er eh => ?_)
  refine z_aload_n d_X12_actHere_0 rfl rfl ?_
  refine z_bipush d_X12_actHere_1 (by decide) ?_
  refine z_iconst d_X12_actHere_3 (by decide) ?_
  refine z_bipush d_X12_actHere_4 (by decide) ?_
  refine z_bipush d_X12_actHere_6 (by decide) ?_
  refine z_iconst d_X12_actHere_8 (by decide) ?_
  refine z_iconst d_X12_actHere_9 (by decide) ?_
  refine z_cv (M1 := M_X12_takes) d_X12_actHere_10 lv_X12_203 k_X12_takes [qI 20, qI 5, qI 12, qI 12, qI 0, qI 0] rfl rfl rput_o ⟨_, _, rfl⟩ (Nat.le_of_ble_eq_true rfl) (by decide) (by decide) (Nat.le_of_ble_eq_true rfl) (z_end (y_takes2 (N := N) s 5 11 20 5 12 12 0 0 hm hN hN4 ha (by decide) (by decide) (by decide +kernel) (by decide) (by decide) (by decide) (by decide) (by decide) (by decide)) (show _ = some (qI 0) by rw [qb_f (fun z => hs z.1)]) (show _ = (rput h m (qup (qup (qup f 3 ((s.1 : Nat) : Int)) 4 s.2.1) 5 s.2.2) g) by rw [tkS_f hs])) ?_
  refine z_if_eq 18 d_X12_actHere_13 (by decide) (fun hc1 => ?_) (fun hc1 => absurd (by decide) hc1)
  refine z_aload_n d_X12_actHere_18 rfl rfl ?_
  refine z_iconst d_X12_actHere_19 (by decide) ?_
  refine z_iconst d_X12_actHere_20 (by decide) ?_
  refine z_iconst d_X12_actHere_21 (by decide) ?_
  refine z_bipush d_X12_actHere_22 (by decide) ?_
  refine z_iconst d_X12_actHere_24 (by decide) ?_
  refine z_iconst d_X12_actHere_25 (by decide) ?_
  refine z_cv (M1 := M_X12_takes) d_X12_actHere_26 lv_X12_203 k_X12_takes [qI 4, qI 5, qI 1, qI 6, qI 0, qI 0] rfl rfl rput_o ⟨_, _, rfl⟩ (Nat.le_of_ble_eq_true rfl) (by decide) (by decide) (Nat.le_of_ble_eq_true rfl) (z_end (y_takes2 (N := N) s 6 12 4 5 1 6 0 0 hm hN hN4 ha (by decide) (by decide) (by decide +kernel) (by decide) (by decide) (by decide) (by decide) (by decide) (by decide)) (show _ = some (qI 0) by rw [qb_f (fun z => hs z.1)]) (show _ = (rput h m (qup (qup (qup f 3 ((s.1 : Nat) : Int)) 4 s.2.1) 5 s.2.2) g) by rw [tkS_f hs])) ?_
  refine z_if_eq 34 d_X12_actHere_29 (by decide) (fun hc2 => ?_) (fun hc2 => absurd (by decide) hc2)
  refine z_aload_n d_X12_actHere_34 rfl rfl ?_
  refine z_bipush d_X12_actHere_35 (by decide) ?_
  refine z_iconst d_X12_actHere_37 (by decide) ?_
  refine z_bipush d_X12_actHere_38 (by decide) ?_
  refine z_iconst d_X12_actHere_40 (by decide) ?_
  refine z_iconst d_X12_actHere_41 (by decide) ?_
  refine z_iconst d_X12_actHere_42 (by decide) ?_
  refine z_cv (M1 := M_X12_takes) d_X12_actHere_43 lv_X12_203 k_X12_takes [qI 23, qI 1, qI 11, qI 5, qI 0, qI 0] rfl rfl rput_o ⟨_, _, rfl⟩ (Nat.le_of_ble_eq_true rfl) (by decide) (by decide) (Nat.le_of_ble_eq_true rfl) (z_end (y_takes2 (N := N) s 7 13 23 1 11 5 0 0 hm hN hN4 ha (by decide) (by decide) (by decide +kernel) (by decide) (by decide) (by decide) (by decide) (by decide) (by decide)) (show _ = some (qI 0) by rw [qb_f (fun z => hs z.1)]) (show _ = (rput h m (qup (qup (qup f 3 ((s.1 : Nat) : Int)) 4 s.2.1) 5 s.2.2) g) by rw [tkS_f hs])) ?_
  refine z_if_eq 51 d_X12_actHere_46 (by decide) (fun hc3 => ?_) (fun hc3 => absurd (by decide) hc3)
  refine z_aload_n d_X12_actHere_51 rfl rfl ?_
  refine z_bipush d_X12_actHere_52 (by decide) ?_
  refine z_iconst d_X12_actHere_54 (by decide) ?_
  refine z_bipush d_X12_actHere_55 (by decide) ?_
  refine z_iconst d_X12_actHere_57 (by decide) ?_
  refine z_iconst d_X12_actHere_58 (by decide) ?_
  refine z_iconst d_X12_actHere_59 (by decide) ?_
  refine z_cv (M1 := M_X12_takes) d_X12_actHere_60 lv_X12_203 k_X12_takes [qI 12, qI 1, qI 20, qI 5, qI 0, qI 0] rfl rfl rput_o ⟨_, _, rfl⟩ (Nat.le_of_ble_eq_true rfl) (by decide) (by decide) (Nat.le_of_ble_eq_true rfl) (z_end (y_takes2 (N := N) s 8 14 12 1 20 5 0 0 hm hN hN4 ha (by decide) (by decide) (by decide +kernel) (by decide) (by decide) (by decide) (by decide) (by decide) (by decide)) (show _ = some (qI 0) by rw [qb_f (fun z => hs z.1)]) (show _ = (rput h m (qup (qup (qup f 3 ((s.1 : Nat) : Int)) 4 s.2.1) 5 s.2.2) g) by rw [tkS_f hs])) ?_
  refine z_if_eq 68 d_X12_actHere_63 (by decide) (fun hc4 => ?_) (fun hc4 => absurd (by decide) hc4)
  refine z_aload_n d_X12_actHere_68 rfl rfl ?_
  refine z_bipush d_X12_actHere_69 (by decide) ?_
  refine z_bipush d_X12_actHere_71 (by decide) ?_
  refine z_bipush d_X12_actHere_73 (by decide) ?_
  refine z_bipush d_X12_actHere_75 (by decide) ?_
  refine z_iconst d_X12_actHere_77 (by decide) ?_
  refine z_iconst d_X12_actHere_78 (by decide) ?_
  refine z_cv (M1 := M_X12_takes) d_X12_actHere_79 lv_X12_203 k_X12_takes [qI 19, qI 15, qI 15, qI 14, qI 0, qI 0] rfl rfl rput_o ⟨_, _, rfl⟩ (Nat.le_of_ble_eq_true rfl) (by decide) (by decide) (Nat.le_of_ble_eq_true rfl) (z_end (y_takes2 (N := N) s 9 15 19 15 15 14 0 0 hm hN hN4 ha (by decide) (by decide) (by decide +kernel) (by decide) (by decide) (by decide) (by decide) (by decide) (by decide)) (show _ = some (qI 0) by rw [qb_f (fun z => hs z.1)]) (show _ = (rput h m (qup (qup (qup f 3 ((s.1 : Nat) : Int)) 4 s.2.1) 5 s.2.2) g) by rw [tkS_f hs])) ?_
  refine z_if_eq 87 d_X12_actHere_82 (by decide) (fun hc5 => ?_) (fun hc5 => absurd (by decide) hc5)
  refine z_aload_n d_X12_actHere_87 rfl rfl ?_
  refine z_bipush d_X12_actHere_88 (by decide) ?_
  refine z_iconst d_X12_actHere_90 (by decide) ?_
  refine z_bipush d_X12_actHere_91 (by decide) ?_
  refine z_iconst d_X12_actHere_93 (by decide) ?_
  refine z_iconst d_X12_actHere_94 (by decide) ?_
  refine z_iconst d_X12_actHere_95 (by decide) ?_
  refine z_cv (M1 := M_X12_takes) d_X12_actHere_96 lv_X12_203 k_X12_takes [qI 7, qI 1, qI 20, qI 5, qI 0, qI 0] rfl rfl rput_o ⟨_, _, rfl⟩ (Nat.le_of_ble_eq_true rfl) (by decide) (by decide) (Nat.le_of_ble_eq_true rfl) (z_end (y_takes2 (N := N) s 10 16 7 1 20 5 0 0 hm hN hN4 ha (by decide) (by decide) (by decide +kernel) (by decide) (by decide) (by decide) (by decide) (by decide) (by decide)) (show _ = some (qI 0) by rw [qb_f (fun z => hs z.1)]) (show _ = (rput h m (qup (qup (qup f 3 ((s.1 : Nat) : Int)) 4 s.2.1) 5 s.2.2) g) by rw [tkS_f hs])) ?_
  refine z_if_eq 106 d_X12_actHere_99 (by decide) (fun hc6 => ?_) (fun hc6 => absurd (by decide) hc6)
  refine z_iconst d_X12_actHere_106 (by decide) ?_
  exact z_iret d_X12_actHere_107 rfl er eh
set_option maxRecDepth 20000 in
set_option maxHeartbeats 4000000 in
theorem c_actHere0 {h : qH} {m : Nat} {f : Nat → Int} {g : Nat → Nat → Int} {N : Nat} (s : pS) (hm : 2 ≤ m) (hN : f 2 = (N : Int)) (hN4 : N ≤ 400) (ha : s.1 ≤ N) (hs : s.2.1 = 0) : qEx M_X12_actHere 0 [qR m] [] (rput h m (qup (qup (qup f 3 ((s.1 : Nat) : Int)) 4 s.2.1) 5 s.2.2) g) (some (qI (acV (g 1) N s))) (rput h m (qup (qup (qup f 3 (((acS (g 1) N s).1 : Nat) : Int)) 4 ((acS (g 1) N s).2.1)) 5 ((acS (g 1) N s).2.2)) g) := by
  refine q_gen (fun r hr er eh => ?_)
  refine z_aload_n d_X12_actHere_0 rfl rfl ?_
  refine z_bipush d_X12_actHere_1 (by decide) ?_
  refine z_iconst d_X12_actHere_3 (by decide) ?_
  refine z_bipush d_X12_actHere_4 (by decide) ?_
  refine z_bipush d_X12_actHere_6 (by decide) ?_
  refine z_iconst d_X12_actHere_8 (by decide) ?_
  refine z_iconst d_X12_actHere_9 (by decide) ?_
  refine z_cv (M1 := M_X12_takes) d_X12_actHere_10 lv_X12_203 k_X12_takes [qI 20, qI 5, qI 12, qI 12, qI 0, qI 0] rfl rfl rput_o ⟨_, _, rfl⟩ (Nat.le_of_ble_eq_true rfl) (by decide) (by decide) (Nat.le_of_ble_eq_true rfl) (y_takes2 (N := N) s 5 11 20 5 12 12 0 0 hm hN hN4 ha (by decide) (by decide) (by decide +kernel) (by decide) (by decide) (by decide) (by decide) (by decide) (by decide)) ?_
  refine z_ifeqB 18 d_X12_actHere_13 (by decide) (fun q11 => ?_) (fun q11 => ?_)
  · refine z_eq rfl rfl (show (rput h m (qup (qup (qup f 3 (((tkS (g 1) N 11 s).1 : Nat) : Int)) 4 ((tkS (g 1) N 11 s).2.1)) 5 ((tkS (g 1) N 11 s).2.2)) g) = (rput h m (qup (qup (qup f 3 (((skS (g 1) N s).1 : Nat) : Int)) 4 ((skS (g 1) N s).2.1)) 5 ((skS (g 1) N s).2.2)) g) by rw [show tkS (g 1) N 11 s = skS (g 1) N s from tkS_n hs (fun z => q11 ⟨hs, z⟩)]) ?_
    refine z_aload_n d_X12_actHere_18 rfl rfl ?_
    refine z_iconst d_X12_actHere_19 (by decide) ?_
    refine z_iconst d_X12_actHere_20 (by decide) ?_
    refine z_iconst d_X12_actHere_21 (by decide) ?_
    refine z_bipush d_X12_actHere_22 (by decide) ?_
    refine z_iconst d_X12_actHere_24 (by decide) ?_
    refine z_iconst d_X12_actHere_25 (by decide) ?_
    refine z_cv (M1 := M_X12_takes) d_X12_actHere_26 lv_X12_203 k_X12_takes [qI 4, qI 5, qI 1, qI 6, qI 0, qI 0] rfl rfl rput_o ⟨_, _, rfl⟩ (Nat.le_of_ble_eq_true rfl) (by decide) (by decide) (Nat.le_of_ble_eq_true rfl) (y_takes2 (N := N) (skS (g 1) N s) 6 12 4 5 1 6 0 0 hm hN hN4 (skS_le ha) (by decide) (by decide) (by decide +kernel) (by decide) (by decide) (by decide) (by decide) (by decide) (by decide)) ?_
    refine z_ifeqB 34 d_X12_actHere_29 (by decide) (fun q12 => ?_) (fun q12 => ?_)
    · refine z_eq rfl rfl (show (rput h m (qup (qup (qup f 3 (((tkS (g 1) N 12 (skS (g 1) N s)).1 : Nat) : Int)) 4 ((tkS (g 1) N 12 (skS (g 1) N s)).2.1)) 5 ((tkS (g 1) N 12 (skS (g 1) N s)).2.2)) g) = (rput h m (qup (qup (qup f 3 (((skS (g 1) N s).1 : Nat) : Int)) 4 ((skS (g 1) N s).2.1)) 5 ((skS (g 1) N s).2.2)) g) by rw [show tkS (g 1) N 12 (skS (g 1) N s) = skS (g 1) N s from ((tkS_sk ha hs).trans (tkS_n hs (fun z => q12 ((tkQ_sk ha).mpr ⟨hs, z⟩))))]) ?_
      refine z_aload_n d_X12_actHere_34 rfl rfl ?_
      refine z_bipush d_X12_actHere_35 (by decide) ?_
      refine z_iconst d_X12_actHere_37 (by decide) ?_
      refine z_bipush d_X12_actHere_38 (by decide) ?_
      refine z_iconst d_X12_actHere_40 (by decide) ?_
      refine z_iconst d_X12_actHere_41 (by decide) ?_
      refine z_iconst d_X12_actHere_42 (by decide) ?_
      refine z_cv (M1 := M_X12_takes) d_X12_actHere_43 lv_X12_203 k_X12_takes [qI 23, qI 1, qI 11, qI 5, qI 0, qI 0] rfl rfl rput_o ⟨_, _, rfl⟩ (Nat.le_of_ble_eq_true rfl) (by decide) (by decide) (Nat.le_of_ble_eq_true rfl) (y_takes2 (N := N) (skS (g 1) N s) 7 13 23 1 11 5 0 0 hm hN hN4 (skS_le ha) (by decide) (by decide) (by decide +kernel) (by decide) (by decide) (by decide) (by decide) (by decide) (by decide)) ?_
      refine z_ifeqB 51 d_X12_actHere_46 (by decide) (fun q13 => ?_) (fun q13 => ?_)
      · refine z_eq rfl rfl (show (rput h m (qup (qup (qup f 3 (((tkS (g 1) N 13 (skS (g 1) N s)).1 : Nat) : Int)) 4 ((tkS (g 1) N 13 (skS (g 1) N s)).2.1)) 5 ((tkS (g 1) N 13 (skS (g 1) N s)).2.2)) g) = (rput h m (qup (qup (qup f 3 (((skS (g 1) N s).1 : Nat) : Int)) 4 ((skS (g 1) N s).2.1)) 5 ((skS (g 1) N s).2.2)) g) by rw [show tkS (g 1) N 13 (skS (g 1) N s) = skS (g 1) N s from ((tkS_sk ha hs).trans (tkS_n hs (fun z => q13 ((tkQ_sk ha).mpr ⟨hs, z⟩))))]) ?_
        refine z_aload_n d_X12_actHere_51 rfl rfl ?_
        refine z_bipush d_X12_actHere_52 (by decide) ?_
        refine z_iconst d_X12_actHere_54 (by decide) ?_
        refine z_bipush d_X12_actHere_55 (by decide) ?_
        refine z_iconst d_X12_actHere_57 (by decide) ?_
        refine z_iconst d_X12_actHere_58 (by decide) ?_
        refine z_iconst d_X12_actHere_59 (by decide) ?_
        refine z_cv (M1 := M_X12_takes) d_X12_actHere_60 lv_X12_203 k_X12_takes [qI 12, qI 1, qI 20, qI 5, qI 0, qI 0] rfl rfl rput_o ⟨_, _, rfl⟩ (Nat.le_of_ble_eq_true rfl) (by decide) (by decide) (Nat.le_of_ble_eq_true rfl) (y_takes2 (N := N) (skS (g 1) N s) 8 14 12 1 20 5 0 0 hm hN hN4 (skS_le ha) (by decide) (by decide) (by decide +kernel) (by decide) (by decide) (by decide) (by decide) (by decide) (by decide)) ?_
        refine z_ifeqB 68 d_X12_actHere_63 (by decide) (fun q14 => ?_) (fun q14 => ?_)
        · refine z_eq rfl rfl (show (rput h m (qup (qup (qup f 3 (((tkS (g 1) N 14 (skS (g 1) N s)).1 : Nat) : Int)) 4 ((tkS (g 1) N 14 (skS (g 1) N s)).2.1)) 5 ((tkS (g 1) N 14 (skS (g 1) N s)).2.2)) g) = (rput h m (qup (qup (qup f 3 (((skS (g 1) N s).1 : Nat) : Int)) 4 ((skS (g 1) N s).2.1)) 5 ((skS (g 1) N s).2.2)) g) by rw [show tkS (g 1) N 14 (skS (g 1) N s) = skS (g 1) N s from ((tkS_sk ha hs).trans (tkS_n hs (fun z => q14 ((tkQ_sk ha).mpr ⟨hs, z⟩))))]) ?_
          refine z_aload_n d_X12_actHere_68 rfl rfl ?_
          refine z_bipush d_X12_actHere_69 (by decide) ?_
          refine z_bipush d_X12_actHere_71 (by decide) ?_
          refine z_bipush d_X12_actHere_73 (by decide) ?_
          refine z_bipush d_X12_actHere_75 (by decide) ?_
          refine z_iconst d_X12_actHere_77 (by decide) ?_
          refine z_iconst d_X12_actHere_78 (by decide) ?_
          refine z_cv (M1 := M_X12_takes) d_X12_actHere_79 lv_X12_203 k_X12_takes [qI 19, qI 15, qI 15, qI 14, qI 0, qI 0] rfl rfl rput_o ⟨_, _, rfl⟩ (Nat.le_of_ble_eq_true rfl) (by decide) (by decide) (Nat.le_of_ble_eq_true rfl) (y_takes2 (N := N) (skS (g 1) N s) 9 15 19 15 15 14 0 0 hm hN hN4 (skS_le ha) (by decide) (by decide) (by decide +kernel) (by decide) (by decide) (by decide) (by decide) (by decide) (by decide)) ?_
          refine z_ifeqB 87 d_X12_actHere_82 (by decide) (fun q15 => ?_) (fun q15 => ?_)
          · refine z_eq rfl rfl (show (rput h m (qup (qup (qup f 3 (((tkS (g 1) N 15 (skS (g 1) N s)).1 : Nat) : Int)) 4 ((tkS (g 1) N 15 (skS (g 1) N s)).2.1)) 5 ((tkS (g 1) N 15 (skS (g 1) N s)).2.2)) g) = (rput h m (qup (qup (qup f 3 (((skS (g 1) N s).1 : Nat) : Int)) 4 ((skS (g 1) N s).2.1)) 5 ((skS (g 1) N s).2.2)) g) by rw [show tkS (g 1) N 15 (skS (g 1) N s) = skS (g 1) N s from ((tkS_sk ha hs).trans (tkS_n hs (fun z => q15 ((tkQ_sk ha).mpr ⟨hs, z⟩))))]) ?_
            refine z_aload_n d_X12_actHere_87 rfl rfl ?_
            refine z_bipush d_X12_actHere_88 (by decide) ?_
            refine z_iconst d_X12_actHere_90 (by decide) ?_
            refine z_bipush d_X12_actHere_91 (by decide) ?_
            refine z_iconst d_X12_actHere_93 (by decide) ?_
            refine z_iconst d_X12_actHere_94 (by decide) ?_
            refine z_iconst d_X12_actHere_95 (by decide) ?_
            refine z_cv (M1 := M_X12_takes) d_X12_actHere_96 lv_X12_203 k_X12_takes [qI 7, qI 1, qI 20, qI 5, qI 0, qI 0] rfl rfl rput_o ⟨_, _, rfl⟩ (Nat.le_of_ble_eq_true rfl) (by decide) (by decide) (Nat.le_of_ble_eq_true rfl) (y_takes2 (N := N) (skS (g 1) N s) 10 16 7 1 20 5 0 0 hm hN hN4 (skS_le ha) (by decide) (by decide) (by decide +kernel) (by decide) (by decide) (by decide) (by decide) (by decide) (by decide)) ?_
            refine z_ifeqB 106 d_X12_actHere_99 (by decide) (fun q16 => ?_) (fun q16 => ?_)
            · refine z_eq rfl rfl (show (rput h m (qup (qup (qup f 3 (((tkS (g 1) N 16 (skS (g 1) N s)).1 : Nat) : Int)) 4 ((tkS (g 1) N 16 (skS (g 1) N s)).2.1)) 5 ((tkS (g 1) N 16 (skS (g 1) N s)).2.2)) g) = (rput h m (qup (qup (qup f 3 (((skS (g 1) N s).1 : Nat) : Int)) 4 ((skS (g 1) N s).2.1)) 5 ((skS (g 1) N s).2.2)) g) by rw [show tkS (g 1) N 16 (skS (g 1) N s) = skS (g 1) N s from ((tkS_sk ha hs).trans (tkS_n hs (fun z => q16 ((tkQ_sk ha).mpr ⟨hs, z⟩))))]) ?_
              refine z_iconst d_X12_actHere_106 (by decide) ?_
              exact z_iret d_X12_actHere_107 rfl (qer er (acV_n (fun z => by have h6 : ¬ kd (g 1) N (sk (g 1) N s.1) = 11 := fun y => q11 ⟨hs, y⟩; have h12 : ¬ kd (g 1) N (sk (g 1) N s.1) = 12 := fun y => q12 ((tkQ_sk ha).mpr ⟨hs, y⟩); have h13 : ¬ kd (g 1) N (sk (g 1) N s.1) = 13 := fun y => q13 ((tkQ_sk ha).mpr ⟨hs, y⟩); have h14 : ¬ kd (g 1) N (sk (g 1) N s.1) = 14 := fun y => q14 ((tkQ_sk ha).mpr ⟨hs, y⟩); have h15 : ¬ kd (g 1) N (sk (g 1) N s.1) = 15 := fun y => q15 ((tkQ_sk ha).mpr ⟨hs, y⟩); have h16 : ¬ kd (g 1) N (sk (g 1) N s.1) = 16 := fun y => q16 ((tkQ_sk ha).mpr ⟨hs, y⟩); omega))) (eh.trans (by rw [acS_n hs (fun z => by have h6 : ¬ kd (g 1) N (sk (g 1) N s.1) = 11 := fun y => q11 ⟨hs, y⟩; have h12 : ¬ kd (g 1) N (sk (g 1) N s.1) = 12 := fun y => q12 ((tkQ_sk ha).mpr ⟨hs, y⟩); have h13 : ¬ kd (g 1) N (sk (g 1) N s.1) = 13 := fun y => q13 ((tkQ_sk ha).mpr ⟨hs, y⟩); have h14 : ¬ kd (g 1) N (sk (g 1) N s.1) = 14 := fun y => q14 ((tkQ_sk ha).mpr ⟨hs, y⟩); have h15 : ¬ kd (g 1) N (sk (g 1) N s.1) = 15 := fun y => q15 ((tkQ_sk ha).mpr ⟨hs, y⟩); have h16 : ¬ kd (g 1) N (sk (g 1) N s.1) = 16 := fun y => q16 ((tkQ_sk ha).mpr ⟨hs, y⟩); omega)]))
            · refine z_iconst d_X12_actHere_102 (by decide) ?_
              refine z_goto 107 d_X12_actHere_103 (by decide) ?_
              exact z_iret d_X12_actHere_107 rfl (qer er (acV_y hs ((tkQ_sk ha).mp q16).2 (by decide))) (eh.trans (by rw [acS_y hs ((tkQ_sk ha).mp q16).2 (by decide), tkS_sk ha hs]))
          · refine z_iconst d_X12_actHere_85 (by decide) ?_
            exact z_iret d_X12_actHere_86 rfl (qer er (acV_y hs ((tkQ_sk ha).mp q15).2 (by decide))) (eh.trans (by rw [acS_y hs ((tkQ_sk ha).mp q15).2 (by decide), tkS_sk ha hs]))
        · refine z_iconst d_X12_actHere_66 (by decide) ?_
          exact z_iret d_X12_actHere_67 rfl (qer er (acV_y hs ((tkQ_sk ha).mp q14).2 (by decide))) (eh.trans (by rw [acS_y hs ((tkQ_sk ha).mp q14).2 (by decide), tkS_sk ha hs]))
      · refine z_iconst d_X12_actHere_49 (by decide) ?_
        exact z_iret d_X12_actHere_50 rfl (qer er (acV_y hs ((tkQ_sk ha).mp q13).2 (by decide))) (eh.trans (by rw [acS_y hs ((tkQ_sk ha).mp q13).2 (by decide), tkS_sk ha hs]))
    · refine z_iconst d_X12_actHere_32 (by decide) ?_
      exact z_iret d_X12_actHere_33 rfl (qer er (acV_y hs ((tkQ_sk ha).mp q12).2 (by decide))) (eh.trans (by rw [acS_y hs ((tkQ_sk ha).mp q12).2 (by decide), tkS_sk ha hs]))
  · refine z_iconst d_X12_actHere_16 (by decide) ?_
    exact z_iret d_X12_actHere_17 rfl (qer er (acV_y hs q11.2 (by decide))) (eh.trans (by rw [acS_y hs q11.2 (by decide)]))
theorem c_actHere {h : qH} {m : Nat} {f : Nat → Int} {g : Nat → Nat → Int} {N : Nat} (s : pS) (hm : 2 ≤ m) (hN : f 2 = (N : Int)) (hN4 : N ≤ 400) (ha : s.1 ≤ N) : qEx M_X12_actHere 0 [qR m] [] (rput h m (qup (qup (qup f 3 ((s.1 : Nat) : Int)) 4 s.2.1) 5 s.2.2) g) (some (qI (acV (g 1) N s))) (rput h m (qup (qup (qup f 3 (((acS (g 1) N s).1 : Nat) : Int)) 4 ((acS (g 1) N s).2.1)) 5 ((acS (g 1) N s).2.2)) g) := by
  by_cases hs : s.2.1 = 0
  · exact c_actHere0 s hm hN hN4 ha hs
  · have k := c_actHereF (h := h) (f := f) (g := g) s hm hN hN4 ha hs
    rw [show acV (g 1) N s = -1 from qif_f (fun z => hs z.1), show acS (g 1) N s = s from qif_t hs]
    exact k
theorem nu_ok {B : Nat → Int} {N : Nat} {lo hi : Int} {s : pS} (h : (nuS B N lo hi s).2.1 = 0) : s.2.1 = 0 ∧ kd B N (sk B N s.1) = 2 ∧ nuV B N s = vl B N (sk B N s.1) ∧ lo ≤ nuV B N s ∧ nuV B N s ≤ hi ∧ nuS B N lo hi s = (en B N (sk B N s.1), s.2) := by
  unfold nuS at h ⊢
  unfold nuV
  by_cases c : s.2.1 ≠ 0
  · rw [qif_t c] at h; exact absurd h c
  · rw [qif_f c] at h ⊢
    by_cases d : kd B N (sk B N s.1) = 2
    · rw [qif_t d] at h ⊢
      by_cases e : lo ≤ vl B N (sk B N s.1) ∧ vl B N (sk B N s.1) ≤ hi
      · rw [qif_t e] at h ⊢
        rw [qif_f c, qif_t d]
        exact ⟨Classical.not_not.mp c, d, rfl, e.1, e.2, rfl⟩
      · rw [qif_f e] at h; exact absurd h (show ¬ ((2 : Int) = 0) by decide)
    · rw [qif_f d] at h; exact absurd h (show ¬ ((1 : Int) = 0) by decide)
theorem tk_2 {B : Nat → Int} {N : Nat} {W : Int} {s : pS} : (tkS B N W s).2 = s.2 := by
  unfold tkS
  exact qif_or (fun z : pS => z.2 = s.2) rfl (qif_or (fun z : pS => z.2 = s.2) rfl rfl)
theorem ac_2 {B : Nat → Int} {N : Nat} {s : pS} : (acS B N s).2 = s.2 := by
  unfold acS
  exact qif_or (fun z : pS => z.2 = s.2) rfl (qif_or (fun z : pS => z.2 = s.2) rfl rfl)
theorem wr_0 {k p : Int} {s : pS} (hk : k ≠ 0) (h : (wrS k p s).2.1 = 0) : False := by
  unfold wrS at h
  by_cases c : s.2.1 = 0
  · rw [if_pos c] at h; exact hk h
  · rw [if_neg c] at h; exact c h
theorem gn_0 {B : Nat → Int} {N : Nat} {c : Int} {s : pS} (h : (gnS B N c s).2.1 = 0) : s.2.1 = 0 ∧ bAt B N (sk B N s.1) = c ∧ gnS B N c s = (sk B N s.1 + 1, s.2) := by
  unfold gnS at h ⊢
  by_cases d : s.2.1 ≠ 0
  · rw [qif_t d] at h; exact absurd h d
  · rw [qif_f d] at h ⊢
    by_cases e : bAt B N (sk B N s.1) = c
    · rw [qif_t e]; exact ⟨Classical.not_not.mp d, e, rfl⟩
    · rw [qif_f e] at h; exact absurd h (show ¬ ((1 : Int) = 0) by decide)
section PlanWords
variable (B : Nat → Int) (N : Nat)
noncomputable def pl1 (s : pS) : pS := nuS B N 0 999 (tkS B N 10 s)
noncomputable def plW (s : pS) : Int := acV B N (pl1 B N s)
noncomputable def pl3 (s : pS) : pS := qif (plW B N s = -1) (wrS 1 (acS B N (pl1 B N s)).1 (acS B N (pl1 B N s))) (acS B N (pl1 B N s))
noncomputable def pl4 (s : pS) : pS := nuS B N 0 31 (pl3 B N s)
noncomputable def pl5 (s : pS) : pS := qif (plW B N s = 0) (nuS B N 0 7 (pl4 B N s)) (qif (plW B N s = 5) (nuS B N 0 3 (pl4 B N s)) (pl4 B N s))
noncomputable def plM (s : pS) : Int := qif (plW B N s = 0) (nuV B N (pl4 B N s)) (qif (plW B N s = 5) (nuV B N (pl4 B N s)) 0)
noncomputable def plS (s : pS) : pS := gnS B N 59 (pl5 B N s)
end PlanWords
theorem pl3_le {B : Nat → Int} {N : Nat} {s : pS} (h : s.1 ≤ N) : (pl3 B N s).1 ≤ N := by
  have h2 : (acS B N (pl1 B N s)).1 ≤ N := acS_le (nuS_le (tkS_le (by decide) h))
  exact qif_or (fun z : pS => z.1 ≤ N) (wrS_le h2) h2
theorem pl5_le {B : Nat → Int} {N : Nat} {s : pS} (h : s.1 ≤ N) : (pl5 B N s).1 ≤ N := by
  have h2 : (pl4 B N s).1 ≤ N := nuS_le (pl3_le h)
  exact qif_or (fun z : pS => z.1 ≤ N) (nuS_le h2) (qif_or (fun z : pS => z.1 ≤ N) (nuS_le h2) h2)
theorem plS_le {B : Nat → Int} {N : Nat} {s : pS} (h : s.1 ≤ N) : (plS B N s).1 ≤ N := gnS_le (by decide) (pl5_le h)
set_option maxRecDepth 20000 in
set_option maxHeartbeats 4000000 in
theorem c_lineOfPlan1 {h : qH} {m : Nat} {f : Nat → Int} {g : Nat → Nat → Int} {N L : Nat} (s : pS) (hm : 2 ≤ m) (hN : f 2 = (N : Int)) (hN4 : N ≤ 400) (ha : s.1 ≤ N) (hsk : sk (g 1) N s.1 = s.1) (hs0 : s.2.1 = 0) (hL : L ≤ 16) (hck : ¬ kd (g 1) N s.1 = 10) : qEx M_X12_lineOfPlan 0 [qR m, qU] [] (rput h m (qup (qup (qup (qup f 20 (L : Int)) 3 ((s.1 : Nat) : Int)) 4 s.2.1) 5 s.2.2) g) none (rput h m (qup (qup (qup (qup f 20 (L : Int)) 3 (((s.1, 1, (s.1 : Int)).1 : Nat) : Int)) 4 ((s.1, 1, (s.1 : Int)).2.1)) 5 ((s.1, 1, (s.1 : Int)).2.2)) g) := by
  refine q_gen (fun r hr er eh => ?_)
  refine z_aload_n d_X12_lineOfPlan_0 rfl rfl ?_
  refine z_iconst d_X12_lineOfPlan_1 (by decide) ?_
  refine z_bipush d_X12_lineOfPlan_2 (by decide) ?_
  refine z_iconst d_X12_lineOfPlan_4 (by decide) ?_
  refine z_iconst d_X12_lineOfPlan_5 (by decide) ?_
  refine z_iconst d_X12_lineOfPlan_6 (by decide) ?_
  refine z_iconst d_X12_lineOfPlan_7 (by decide) ?_
  refine z_cv (M1 := M_X12_isWord) d_X12_lineOfPlan_8 lv_X12_185 k_X12_isWord [qI 1, qI 20, qI 0, qI 0, qI 0, qI 0] rfl rfl rput_o ⟨_, _, rfl⟩ (Nat.le_of_ble_eq_true rfl) (by decide) (by decide) (Nat.le_of_ble_eq_true rfl) (y_isW (N := N) s 4 10 1 20 0 0 0 0 hm hN hN4 ha hsk (by decide) (by decide) (by decide +kernel) (by decide) (by decide) (by decide) (by decide) (by decide) (by decide)) ?_
  refine z_ifneB 26 d_X12_lineOfPlan_11 (by decide) (fun hc1 => ?_) (fun hc1 => ?_)
  · refine z_aload_n d_X12_lineOfPlan_26 rfl rfl ?_
    refine z_getf (v := qI (L : Int)) d_X12_lineOfPlan_27 fl_X12_222 rput_o rfl ?_
    refine z_bipush d_X12_lineOfPlan_30 (by decide) ?_
    refine z_icmp_ne 44 d_X12_lineOfPlan_32 (by decide) (fun hc2 => ?_) (fun hc2 => ?_)
    · exact absurd hck (by omega)
    · exact absurd hck (by omega)
  · refine z_aload_n d_X12_lineOfPlan_14 rfl rfl ?_
    refine z_iconst d_X12_lineOfPlan_15 (by decide) ?_
    refine z_aload_n d_X12_lineOfPlan_16 rfl rfl ?_
    refine z_getf (v := qI ((s.1 : Nat) : Int)) d_X12_lineOfPlan_17 fl_X12_150 rput_o rfl ?_
    refine z_cv0 (M1 := M_X12_wrong) d_X12_lineOfPlan_20 lv_X12_196 k_X12_wrong [qI 1, qI ((s.1 : Nat) : Int)] rfl rfl rput_o ⟨_, _, rfl⟩ (Nat.le_of_ble_eq_true rfl) (by decide) (by decide) (Nat.le_of_ble_eq_true rfl) (y_wrong s 1 ((s.1 : Nat) : Int) hm) ?_
    rw [show wrS 1 ((s.1 : Nat) : Int) s = (s.1, 1, (s.1 : Int)) from if_pos hs0]
    refine z_goto 44 d_X12_lineOfPlan_23 (by decide) ?_
    refine z_aload_n d_X12_lineOfPlan_44 rfl rfl ?_
    refine z_iconst d_X12_lineOfPlan_45 (by decide) ?_
    refine z_bipush d_X12_lineOfPlan_46 (by decide) ?_
    refine z_iconst d_X12_lineOfPlan_48 (by decide) ?_
    refine z_iconst d_X12_lineOfPlan_49 (by decide) ?_
    refine z_iconst d_X12_lineOfPlan_50 (by decide) ?_
    refine z_iconst d_X12_lineOfPlan_51 (by decide) ?_
    refine z_cv (M1 := M_X12_takes) d_X12_lineOfPlan_52 lv_X12_203 k_X12_takes [qI 1, qI 20, qI 0, qI 0, qI 0, qI 0] rfl rfl rput_o ⟨_, _, rfl⟩ (Nat.le_of_ble_eq_true rfl) (by decide) (by decide) (Nat.le_of_ble_eq_true rfl) (z_end (y_takes2 (N := N) (s.1, 1, (s.1 : Int)) 4 10 1 20 0 0 0 0 hm hN hN4 ha (by decide) (by decide) (by decide +kernel) (by decide) (by decide) (by decide) (by decide) (by decide) (by decide)) (show _ = some (qI 0) by rw [qb_f (fun z => absurd z.1 (show ¬ ((1 : Int) = 0) by decide))]) (show _ = (rput h m (qup (qup (qup (qup f 20 (L : Int)) 3 (((s.1, 1, (s.1 : Int)).1 : Nat) : Int)) 4 ((s.1, 1, (s.1 : Int)).2.1)) 5 ((s.1, 1, (s.1 : Int)).2.2)) g) by rw [tkS_f (s := (s.1, 1, (s.1 : Int))) (show ¬ ((1 : Int) = 0) by decide)])) ?_
    refine z_if_ne 59 d_X12_lineOfPlan_55 (by decide) (fun hc3 => absurd hc3 (by decide)) (fun hc3 => ?_)
    exact z_vret d_X12_lineOfPlan_58 rfl er eh
set_option maxRecDepth 20000 in
set_option maxHeartbeats 4000000 in
theorem c_lineOfPlan3 {h : qH} {m : Nat} {f : Nat → Int} {g : Nat → Nat → Int} {N L : Nat} (s : pS) (hm : 2 ≤ m) (hN : f 2 = (N : Int)) (hN4 : N ≤ 400) (ha : s.1 ≤ N) (hsk : sk (g 1) N s.1 = s.1) (hs0 : s.2.1 = 0) (hL : L ≤ 16) (hck : kd (g 1) N s.1 = 10 ∧ L = 16) : qEx M_X12_lineOfPlan 0 [qR m, qU] [] (rput h m (qup (qup (qup (qup f 20 (L : Int)) 3 ((s.1 : Nat) : Int)) 4 s.2.1) 5 s.2.2) g) none (rput h m (qup (qup (qup (qup f 20 (L : Int)) 3 (((s.1, 3, (s.1 : Int)).1 : Nat) : Int)) 4 ((s.1, 3, (s.1 : Int)).2.1)) 5 ((s.1, 3, (s.1 : Int)).2.2)) g) := by
  refine q_gen (fun r hr er eh => ?_)
  refine z_aload_n d_X12_lineOfPlan_0 rfl rfl ?_
  refine z_iconst d_X12_lineOfPlan_1 (by decide) ?_
  refine z_bipush d_X12_lineOfPlan_2 (by decide) ?_
  refine z_iconst d_X12_lineOfPlan_4 (by decide) ?_
  refine z_iconst d_X12_lineOfPlan_5 (by decide) ?_
  refine z_iconst d_X12_lineOfPlan_6 (by decide) ?_
  refine z_iconst d_X12_lineOfPlan_7 (by decide) ?_
  refine z_cv (M1 := M_X12_isWord) d_X12_lineOfPlan_8 lv_X12_185 k_X12_isWord [qI 1, qI 20, qI 0, qI 0, qI 0, qI 0] rfl rfl rput_o ⟨_, _, rfl⟩ (Nat.le_of_ble_eq_true rfl) (by decide) (by decide) (Nat.le_of_ble_eq_true rfl) (y_isW (N := N) s 4 10 1 20 0 0 0 0 hm hN hN4 ha hsk (by decide) (by decide) (by decide +kernel) (by decide) (by decide) (by decide) (by decide) (by decide) (by decide)) ?_
  refine z_ifneB 26 d_X12_lineOfPlan_11 (by decide) (fun hc1 => ?_) (fun hc1 => ?_)
  · refine z_aload_n d_X12_lineOfPlan_26 rfl rfl ?_
    refine z_getf (v := qI (L : Int)) d_X12_lineOfPlan_27 fl_X12_222 rput_o rfl ?_
    refine z_bipush d_X12_lineOfPlan_30 (by decide) ?_
    refine z_icmp_ne 44 d_X12_lineOfPlan_32 (by decide) (fun hc2 => ?_) (fun hc2 => ?_)
    · exact absurd hck (by omega)
    · refine z_aload_n d_X12_lineOfPlan_35 rfl rfl ?_
      refine z_iconst d_X12_lineOfPlan_36 (by decide) ?_
      refine z_aload_n d_X12_lineOfPlan_37 rfl rfl ?_
      refine z_getf (v := qI ((s.1 : Nat) : Int)) d_X12_lineOfPlan_38 fl_X12_150 rput_o rfl ?_
      refine z_cv0 (M1 := M_X12_wrong) d_X12_lineOfPlan_41 lv_X12_196 k_X12_wrong [qI 3, qI ((s.1 : Nat) : Int)] rfl rfl rput_o ⟨_, _, rfl⟩ (Nat.le_of_ble_eq_true rfl) (by decide) (by decide) (Nat.le_of_ble_eq_true rfl) (y_wrong s 3 ((s.1 : Nat) : Int) hm) ?_
      rw [show wrS 3 ((s.1 : Nat) : Int) s = (s.1, 3, (s.1 : Int)) from if_pos hs0]
      refine z_aload_n d_X12_lineOfPlan_44 rfl rfl ?_
      refine z_iconst d_X12_lineOfPlan_45 (by decide) ?_
      refine z_bipush d_X12_lineOfPlan_46 (by decide) ?_
      refine z_iconst d_X12_lineOfPlan_48 (by decide) ?_
      refine z_iconst d_X12_lineOfPlan_49 (by decide) ?_
      refine z_iconst d_X12_lineOfPlan_50 (by decide) ?_
      refine z_iconst d_X12_lineOfPlan_51 (by decide) ?_
      refine z_cv (M1 := M_X12_takes) d_X12_lineOfPlan_52 lv_X12_203 k_X12_takes [qI 1, qI 20, qI 0, qI 0, qI 0, qI 0] rfl rfl rput_o ⟨_, _, rfl⟩ (Nat.le_of_ble_eq_true rfl) (by decide) (by decide) (Nat.le_of_ble_eq_true rfl) (z_end (y_takes2 (N := N) (s.1, 3, (s.1 : Int)) 4 10 1 20 0 0 0 0 hm hN hN4 ha (by decide) (by decide) (by decide +kernel) (by decide) (by decide) (by decide) (by decide) (by decide) (by decide)) (show _ = some (qI 0) by rw [qb_f (fun z => absurd z.1 (show ¬ ((3 : Int) = 0) by decide))]) (show _ = (rput h m (qup (qup (qup (qup f 20 (L : Int)) 3 (((s.1, 3, (s.1 : Int)).1 : Nat) : Int)) 4 ((s.1, 3, (s.1 : Int)).2.1)) 5 ((s.1, 3, (s.1 : Int)).2.2)) g) by rw [tkS_f (s := (s.1, 3, (s.1 : Int))) (show ¬ ((3 : Int) = 0) by decide)])) ?_
      refine z_if_ne 59 d_X12_lineOfPlan_55 (by decide) (fun hc3 => absurd hc3 (by decide)) (fun hc3 => ?_)
      exact z_vret d_X12_lineOfPlan_58 rfl er eh
  · exact absurd hck (by omega)
set_option maxRecDepth 20000 in
set_option maxHeartbeats 4000000 in
theorem c_lineOfTree1 {h : qH} {m : Nat} {f : Nat → Int} {g : Nat → Nat → Int} {N L : Nat} (s : pS) (hm : 2 ≤ m) (hN : f 2 = (N : Int)) (hN4 : N ≤ 400) (ha : s.1 ≤ N) (hsk : sk (g 1) N s.1 = s.1) (hs0 : s.2.1 = 0) (hL : L ≤ 16) (hck : ¬ kd (g 1) N s.1 = 17) : qEx M_X12_lineOfTree 0 [qR m, qU, qU, qU] [] (rput h m (qup (qup (qup (qup f 20 (L : Int)) 3 ((s.1 : Nat) : Int)) 4 s.2.1) 5 s.2.2) g) none (rput h m (qup (qup (qup (qup f 20 (L : Int)) 3 (((s.1, 1, (s.1 : Int)).1 : Nat) : Int)) 4 ((s.1, 1, (s.1 : Int)).2.1)) 5 ((s.1, 1, (s.1 : Int)).2.2)) g) := by
  refine q_gen (fun r hr er eh => ?_)
  refine z_aload_n d_X12_lineOfTree_0 rfl rfl ?_
  refine z_bipush d_X12_lineOfTree_1 (by decide) ?_
  refine z_iconst d_X12_lineOfTree_3 (by decide) ?_
  refine z_iconst d_X12_lineOfTree_4 (by decide) ?_
  refine z_bipush d_X12_lineOfTree_5 (by decide) ?_
  refine z_iconst d_X12_lineOfTree_7 (by decide) ?_
  refine z_bipush d_X12_lineOfTree_8 (by decide) ?_
  refine z_cv (M1 := M_X12_isWord) d_X12_lineOfTree_10 lv_X12_185 k_X12_isWord [qI 11, qI 5, qI 5, qI 16, qI 5, qI 18] rfl rfl rput_o ⟨_, _, rfl⟩ (Nat.le_of_ble_eq_true rfl) (by decide) (by decide) (Nat.le_of_ble_eq_true rfl) (y_isW (N := N) s 11 17 11 5 5 16 5 18 hm hN hN4 ha hsk (by decide) (by decide) (by decide +kernel) (by decide) (by decide) (by decide) (by decide) (by decide) (by decide)) ?_
  refine z_ifneB 28 d_X12_lineOfTree_13 (by decide) (fun hc1 => ?_) (fun hc1 => ?_)
  · refine z_aload_n d_X12_lineOfTree_28 rfl rfl ?_
    refine z_getf (v := qI (L : Int)) d_X12_lineOfTree_29 fl_X12_222 rput_o rfl ?_
    refine z_bipush d_X12_lineOfTree_32 (by decide) ?_
    refine z_icmp_ne 46 d_X12_lineOfTree_34 (by decide) (fun hc2 => ?_) (fun hc2 => ?_)
    · exact absurd hck (by omega)
    · exact absurd hck (by omega)
  · refine z_aload_n d_X12_lineOfTree_16 rfl rfl ?_
    refine z_iconst d_X12_lineOfTree_17 (by decide) ?_
    refine z_aload_n d_X12_lineOfTree_18 rfl rfl ?_
    refine z_getf (v := qI ((s.1 : Nat) : Int)) d_X12_lineOfTree_19 fl_X12_150 rput_o rfl ?_
    refine z_cv0 (M1 := M_X12_wrong) d_X12_lineOfTree_22 lv_X12_196 k_X12_wrong [qI 1, qI ((s.1 : Nat) : Int)] rfl rfl rput_o ⟨_, _, rfl⟩ (Nat.le_of_ble_eq_true rfl) (by decide) (by decide) (Nat.le_of_ble_eq_true rfl) (y_wrong s 1 ((s.1 : Nat) : Int) hm) ?_
    rw [show wrS 1 ((s.1 : Nat) : Int) s = (s.1, 1, (s.1 : Int)) from if_pos hs0]
    refine z_goto 46 d_X12_lineOfTree_25 (by decide) ?_
    refine z_aload_n d_X12_lineOfTree_46 rfl rfl ?_
    refine z_bipush d_X12_lineOfTree_47 (by decide) ?_
    refine z_iconst d_X12_lineOfTree_49 (by decide) ?_
    refine z_iconst d_X12_lineOfTree_50 (by decide) ?_
    refine z_bipush d_X12_lineOfTree_51 (by decide) ?_
    refine z_iconst d_X12_lineOfTree_53 (by decide) ?_
    refine z_bipush d_X12_lineOfTree_54 (by decide) ?_
    refine z_cv (M1 := M_X12_takes) d_X12_lineOfTree_56 lv_X12_203 k_X12_takes [qI 11, qI 5, qI 5, qI 16, qI 5, qI 18] rfl rfl rput_o ⟨_, _, rfl⟩ (Nat.le_of_ble_eq_true rfl) (by decide) (by decide) (Nat.le_of_ble_eq_true rfl) (z_end (y_takes2 (N := N) (s.1, 1, (s.1 : Int)) 11 17 11 5 5 16 5 18 hm hN hN4 ha (by decide) (by decide) (by decide +kernel) (by decide) (by decide) (by decide) (by decide) (by decide) (by decide)) (show _ = some (qI 0) by rw [qb_f (fun z => absurd z.1 (show ¬ ((1 : Int) = 0) by decide))]) (show _ = (rput h m (qup (qup (qup (qup f 20 (L : Int)) 3 (((s.1, 1, (s.1 : Int)).1 : Nat) : Int)) 4 ((s.1, 1, (s.1 : Int)).2.1)) 5 ((s.1, 1, (s.1 : Int)).2.2)) g) by rw [tkS_f (s := (s.1, 1, (s.1 : Int))) (show ¬ ((1 : Int) = 0) by decide)])) ?_
    refine z_if_ne 63 d_X12_lineOfTree_59 (by decide) (fun hc3 => absurd hc3 (by decide)) (fun hc3 => ?_)
    exact z_vret d_X12_lineOfTree_62 rfl er eh
set_option maxRecDepth 20000 in
set_option maxHeartbeats 4000000 in
theorem c_lineOfTree3 {h : qH} {m : Nat} {f : Nat → Int} {g : Nat → Nat → Int} {N L : Nat} (s : pS) (hm : 2 ≤ m) (hN : f 2 = (N : Int)) (hN4 : N ≤ 400) (ha : s.1 ≤ N) (hsk : sk (g 1) N s.1 = s.1) (hs0 : s.2.1 = 0) (hL : L ≤ 16) (hck : kd (g 1) N s.1 = 17 ∧ L = 16) : qEx M_X12_lineOfTree 0 [qR m, qU, qU, qU] [] (rput h m (qup (qup (qup (qup f 20 (L : Int)) 3 ((s.1 : Nat) : Int)) 4 s.2.1) 5 s.2.2) g) none (rput h m (qup (qup (qup (qup f 20 (L : Int)) 3 (((s.1, 3, (s.1 : Int)).1 : Nat) : Int)) 4 ((s.1, 3, (s.1 : Int)).2.1)) 5 ((s.1, 3, (s.1 : Int)).2.2)) g) := by
  refine q_gen (fun r hr er eh => ?_)
  refine z_aload_n d_X12_lineOfTree_0 rfl rfl ?_
  refine z_bipush d_X12_lineOfTree_1 (by decide) ?_
  refine z_iconst d_X12_lineOfTree_3 (by decide) ?_
  refine z_iconst d_X12_lineOfTree_4 (by decide) ?_
  refine z_bipush d_X12_lineOfTree_5 (by decide) ?_
  refine z_iconst d_X12_lineOfTree_7 (by decide) ?_
  refine z_bipush d_X12_lineOfTree_8 (by decide) ?_
  refine z_cv (M1 := M_X12_isWord) d_X12_lineOfTree_10 lv_X12_185 k_X12_isWord [qI 11, qI 5, qI 5, qI 16, qI 5, qI 18] rfl rfl rput_o ⟨_, _, rfl⟩ (Nat.le_of_ble_eq_true rfl) (by decide) (by decide) (Nat.le_of_ble_eq_true rfl) (y_isW (N := N) s 11 17 11 5 5 16 5 18 hm hN hN4 ha hsk (by decide) (by decide) (by decide +kernel) (by decide) (by decide) (by decide) (by decide) (by decide) (by decide)) ?_
  refine z_ifneB 28 d_X12_lineOfTree_13 (by decide) (fun hc1 => ?_) (fun hc1 => ?_)
  · refine z_aload_n d_X12_lineOfTree_28 rfl rfl ?_
    refine z_getf (v := qI (L : Int)) d_X12_lineOfTree_29 fl_X12_222 rput_o rfl ?_
    refine z_bipush d_X12_lineOfTree_32 (by decide) ?_
    refine z_icmp_ne 46 d_X12_lineOfTree_34 (by decide) (fun hc2 => ?_) (fun hc2 => ?_)
    · exact absurd hck (by omega)
    · refine z_aload_n d_X12_lineOfTree_37 rfl rfl ?_
      refine z_iconst d_X12_lineOfTree_38 (by decide) ?_
      refine z_aload_n d_X12_lineOfTree_39 rfl rfl ?_
      refine z_getf (v := qI ((s.1 : Nat) : Int)) d_X12_lineOfTree_40 fl_X12_150 rput_o rfl ?_
      refine z_cv0 (M1 := M_X12_wrong) d_X12_lineOfTree_43 lv_X12_196 k_X12_wrong [qI 3, qI ((s.1 : Nat) : Int)] rfl rfl rput_o ⟨_, _, rfl⟩ (Nat.le_of_ble_eq_true rfl) (by decide) (by decide) (Nat.le_of_ble_eq_true rfl) (y_wrong s 3 ((s.1 : Nat) : Int) hm) ?_
      rw [show wrS 3 ((s.1 : Nat) : Int) s = (s.1, 3, (s.1 : Int)) from if_pos hs0]
      refine z_aload_n d_X12_lineOfTree_46 rfl rfl ?_
      refine z_bipush d_X12_lineOfTree_47 (by decide) ?_
      refine z_iconst d_X12_lineOfTree_49 (by decide) ?_
      refine z_iconst d_X12_lineOfTree_50 (by decide) ?_
      refine z_bipush d_X12_lineOfTree_51 (by decide) ?_
      refine z_iconst d_X12_lineOfTree_53 (by decide) ?_
      refine z_bipush d_X12_lineOfTree_54 (by decide) ?_
      refine z_cv (M1 := M_X12_takes) d_X12_lineOfTree_56 lv_X12_203 k_X12_takes [qI 11, qI 5, qI 5, qI 16, qI 5, qI 18] rfl rfl rput_o ⟨_, _, rfl⟩ (Nat.le_of_ble_eq_true rfl) (by decide) (by decide) (Nat.le_of_ble_eq_true rfl) (z_end (y_takes2 (N := N) (s.1, 3, (s.1 : Int)) 11 17 11 5 5 16 5 18 hm hN hN4 ha (by decide) (by decide) (by decide +kernel) (by decide) (by decide) (by decide) (by decide) (by decide) (by decide)) (show _ = some (qI 0) by rw [qb_f (fun z => absurd z.1 (show ¬ ((3 : Int) = 0) by decide))]) (show _ = (rput h m (qup (qup (qup (qup f 20 (L : Int)) 3 (((s.1, 3, (s.1 : Int)).1 : Nat) : Int)) 4 ((s.1, 3, (s.1 : Int)).2.1)) 5 ((s.1, 3, (s.1 : Int)).2.2)) g) by rw [tkS_f (s := (s.1, 3, (s.1 : Int))) (show ¬ ((3 : Int) = 0) by decide)])) ?_
      refine z_if_ne 63 d_X12_lineOfTree_59 (by decide) (fun hc3 => absurd hc3 (by decide)) (fun hc3 => ?_)
      exact z_vret d_X12_lineOfTree_62 rfl er eh
  · exact absurd hck (by omega)
set_option maxRecDepth 20000 in
set_option maxHeartbeats 4000000 in
theorem c_lineOfPlan {h : qH} {m : Nat} {f : Nat → Int} {g : Nat → Nat → Int} {N L : Nat} (s : pS) (hm : 2 ≤ m) (hN : f 2 = (N : Int)) (hN4 : N ≤ 400) (ha : s.1 ≤ N) (hsk : sk (g 1) N s.1 = s.1) (hs0 : s.2.1 = 0) (hL : L ≤ 16) (hck : kd (g 1) N s.1 = 10 ∧ L < 16) : qEx M_X12_lineOfPlan 0 [qR m, qU] [] (rput h m (qup (qup (qup (qup f 20 (L : Int)) 3 ((s.1 : Nat) : Int)) 4 s.2.1) 5 s.2.2) g) none (rput h m (qup (qup (qup (qup f 20 ((L : Int) + 1)) 3 (((plS (g 1) N s).1 : Nat) : Int)) 4 ((plS (g 1) N s).2.1)) 5 ((plS (g 1) N s).2.2)) (gup g 8 (row4 (g 8) (4 * L) (nuV (g 1) N (tkS (g 1) N 10 s)) (plW (g 1) N s) (nuV (g 1) N (pl3 (g 1) N s)) (plM (g 1) N s)))) := by
  refine q_gen (fun r hr er eh => ?_)
  refine z_aload_n d_X12_lineOfPlan_0 rfl rfl ?_
  refine z_iconst d_X12_lineOfPlan_1 (by decide) ?_
  refine z_bipush d_X12_lineOfPlan_2 (by decide) ?_
  refine z_iconst d_X12_lineOfPlan_4 (by decide) ?_
  refine z_iconst d_X12_lineOfPlan_5 (by decide) ?_
  refine z_iconst d_X12_lineOfPlan_6 (by decide) ?_
  refine z_iconst d_X12_lineOfPlan_7 (by decide) ?_
  refine z_cv (M1 := M_X12_isWord) d_X12_lineOfPlan_8 lv_X12_185 k_X12_isWord [qI 1, qI 20, qI 0, qI 0, qI 0, qI 0] rfl rfl rput_o ⟨_, _, rfl⟩ (Nat.le_of_ble_eq_true rfl) (by decide) (by decide) (Nat.le_of_ble_eq_true rfl) (y_isW (N := N) s 4 10 1 20 0 0 0 0 hm hN hN4 ha hsk (by decide) (by decide) (by decide +kernel) (by decide) (by decide) (by decide) (by decide) (by decide) (by decide)) ?_
  refine z_ifneB 26 d_X12_lineOfPlan_11 (by decide) (fun hc1 => ?_) (fun hc1 => ?_)
  · refine z_aload_n d_X12_lineOfPlan_26 rfl rfl ?_
    refine z_getf (v := qI (L : Int)) d_X12_lineOfPlan_27 fl_X12_222 rput_o rfl ?_
    refine z_bipush d_X12_lineOfPlan_30 (by decide) ?_
    refine z_icmp_ne 44 d_X12_lineOfPlan_32 (by decide) (fun hc2 => ?_) (fun hc2 => ?_)
    · refine z_aload_n d_X12_lineOfPlan_44 rfl rfl ?_
      refine z_iconst d_X12_lineOfPlan_45 (by decide) ?_
      refine z_bipush d_X12_lineOfPlan_46 (by decide) ?_
      refine z_iconst d_X12_lineOfPlan_48 (by decide) ?_
      refine z_iconst d_X12_lineOfPlan_49 (by decide) ?_
      refine z_iconst d_X12_lineOfPlan_50 (by decide) ?_
      refine z_iconst d_X12_lineOfPlan_51 (by decide) ?_
      refine z_cv (M1 := M_X12_takes) d_X12_lineOfPlan_52 lv_X12_203 k_X12_takes [qI 1, qI 20, qI 0, qI 0, qI 0, qI 0] rfl rfl rput_o ⟨_, _, rfl⟩ (Nat.le_of_ble_eq_true rfl) (by decide) (by decide) (Nat.le_of_ble_eq_true rfl) (z_end (y_takes2 (N := N) s 4 10 1 20 0 0 0 0 hm hN hN4 ha (by decide) (by decide) (by decide +kernel) (by decide) (by decide) (by decide) (by decide) (by decide) (by decide)) (show _ = some (qI 1) by rw [qb_t ⟨hs0, by rw [hsk]; exact hck.1⟩]) (show _ = (rput h m (qup (qup (qup (qup f 20 (L : Int)) 3 (((tkS (g 1) N 10 s).1 : Nat) : Int)) 4 ((tkS (g 1) N 10 s).2.1)) 5 ((tkS (g 1) N 10 s).2.2)) g) from rfl)) ?_
      refine z_if_ne 59 d_X12_lineOfPlan_55 (by decide) (fun hc3 => ?_) (fun hc3 => absurd (by decide) hc3)
      refine z_aload_n d_X12_lineOfPlan_59 rfl rfl ?_
      refine z_getf (v := qR (m + 8)) d_X12_lineOfPlan_60 fl_X12_35 rput_o rfl ?_
      refine z_iconst d_X12_lineOfPlan_63 (by decide) ?_
      refine z_aload_n d_X12_lineOfPlan_64 rfl rfl ?_
      refine z_getf (v := qI (L : Int)) d_X12_lineOfPlan_65 fl_X12_222 rput_o rfl ?_
      refine z_imul d_X12_lineOfPlan_68 (by omega) ?_
      refine z_iconst d_X12_lineOfPlan_69 (by decide) ?_
      refine z_iadd d_X12_lineOfPlan_70 (by omega) ?_
      refine z_aload_n d_X12_lineOfPlan_71 rfl rfl ?_
      refine z_iconst d_X12_lineOfPlan_72 (by decide) ?_
      refine z_sipush d_X12_lineOfPlan_73 (by decide) ?_
      refine z_cv (M1 := M_X12_number) d_X12_lineOfPlan_76 lv_X12_206 k_X12_number [qI 0, qI 999] rfl rfl rput_o ⟨_, _, rfl⟩ (Nat.le_of_ble_eq_true rfl) (by decide) (by decide) (Nat.le_of_ble_eq_true rfl) (y_number (N := N) (tkS (g 1) N 10 s) 0 999 hm hN hN4 (tkS_le (by decide) ha)) ?_
      refine z_ist ((4 * L) + 0) d_X12_lineOfPlan_79 (rput_a2 8 (t := 0) (n := 64) (F := (g 8)) rfl rfl rfl (by decide) (by decide)) (by omega) rfl (by omega) ?_
      refine z_eq rfl rfl (rput_sa 8 rfl rfl (by decide) (by decide)) ?_
      refine z_eq rfl rfl (show (rput h m (qup (qup (qup (qup f 20 (L : Int)) 3 (((nuS (g 1) N 0 999 (tkS (g 1) N 10 s)).1 : Nat) : Int)) 4 ((nuS (g 1) N 0 999 (tkS (g 1) N 10 s)).2.1)) 5 ((nuS (g 1) N 0 999 (tkS (g 1) N 10 s)).2.2)) (gup g 8 (qup (g 8) ((4 * L) + 0) (nuV (g 1) N (tkS (g 1) N 10 s))))) = (rput h m (qup (qup (qup (qup f 20 (L : Int)) 3 (((pl1 (g 1) N s).1 : Nat) : Int)) 4 ((pl1 (g 1) N s).2.1)) 5 ((pl1 (g 1) N s).2.2)) (gup g 8 (qup (g 8) ((4 * L) + 0) (nuV (g 1) N (tkS (g 1) N 10 s))))) from rfl) ?_
      refine z_aload_n d_X12_lineOfPlan_80 rfl rfl ?_
      refine z_cv (M1 := M_X12_actHere) d_X12_lineOfPlan_81 lv_X12_231 k_X12_actHere [] rfl rfl rput_o ⟨_, _, rfl⟩ (Nat.le_of_ble_eq_true rfl) (by decide) (by decide) (Nat.le_of_ble_eq_true rfl) (c_actHere (N := N) (pl1 (g 1) N s) hm hN hN4 (nuS_le (tkS_le (by decide) ha))) ?_
      refine z_istore_n (ls' := [qR m, qI (plW (g 1) N s)]) d_X12_lineOfPlan_84 rfl (by decide) rfl ?_
      suffices kH85 : qEx M_X12_lineOfPlan 99 [qR m, qI (plW (g 1) N s)] [] (rput h m (qup (qup (qup (qup f 20 (L : Int)) 3 (((pl3 (g 1) N s).1 : Nat) : Int)) 4 ((pl3 (g 1) N s).2.1)) 5 ((pl3 (g 1) N s).2.2)) (gup g 8 (qup (g 8) ((4 * L) + 0) (nuV (g 1) N (tkS (g 1) N 10 s))))) r hr by
        refine z_iload_n d_X12_lineOfPlan_85 rfl rfl ?_
        refine z_iconst d_X12_lineOfPlan_86 (by decide) ?_
        refine z_icmp_ne 99 d_X12_lineOfPlan_87 (by decide) (fun q7 => ?_) (fun q7 => ?_)
        · exact z_eq rfl rfl (by unfold pl3; rw [qif_f q7]; try rfl) kH85
        · refine z_aload_n d_X12_lineOfPlan_90 rfl rfl ?_
          refine z_iconst d_X12_lineOfPlan_91 (by decide) ?_
          refine z_aload_n d_X12_lineOfPlan_92 rfl rfl ?_
          refine z_getf (v := qI (((acS (g 1) N (pl1 (g 1) N s)).1 : Nat) : Int)) d_X12_lineOfPlan_93 fl_X12_150 rput_o rfl ?_
          refine z_cv0 (M1 := M_X12_wrong) d_X12_lineOfPlan_96 lv_X12_196 k_X12_wrong [qI 1, qI (((acS (g 1) N (pl1 (g 1) N s)).1 : Nat) : Int)] rfl rfl rput_o ⟨_, _, rfl⟩ (Nat.le_of_ble_eq_true rfl) (by decide) (by decide) (Nat.le_of_ble_eq_true rfl) (y_wrong (acS (g 1) N (pl1 (g 1) N s)) 1 (((acS (g 1) N (pl1 (g 1) N s)).1 : Nat) : Int) hm) ?_
          exact z_eq rfl rfl (by unfold pl3; rw [qif_t (Classical.not_not.mp q7)]; try rfl) kH85
      refine z_aload_n d_X12_lineOfPlan_99 rfl rfl ?_
      refine z_getf (v := qR (m + 8)) d_X12_lineOfPlan_100 fl_X12_35 rput_o rfl ?_
      refine z_iconst d_X12_lineOfPlan_103 (by decide) ?_
      refine z_aload_n d_X12_lineOfPlan_104 rfl rfl ?_
      refine z_getf (v := qI (L : Int)) d_X12_lineOfPlan_105 fl_X12_222 rput_o rfl ?_
      refine z_imul d_X12_lineOfPlan_108 (by omega) ?_
      refine z_iconst d_X12_lineOfPlan_109 (by decide) ?_
      refine z_iadd d_X12_lineOfPlan_110 (by omega) ?_
      refine z_iload_n d_X12_lineOfPlan_111 rfl rfl ?_
      refine z_ist ((4 * L) + 1) d_X12_lineOfPlan_112 (rput_a2 8 (t := 0) (n := 64) (F := (qup (g 8) ((4 * L) + 0) (nuV (g 1) N (tkS (g 1) N 10 s)))) rfl rfl rfl (by decide) (by decide)) (by omega) rfl (by omega) ?_
      refine z_eq rfl rfl ((rput_sa 8 rfl rfl (by decide) (by decide)).trans (rput_cg rfl (gup_gup _ _ _))) ?_
      refine z_aload_n d_X12_lineOfPlan_113 rfl rfl ?_
      refine z_getf (v := qR (m + 8)) d_X12_lineOfPlan_114 fl_X12_35 rput_o rfl ?_
      refine z_iconst d_X12_lineOfPlan_117 (by decide) ?_
      refine z_aload_n d_X12_lineOfPlan_118 rfl rfl ?_
      refine z_getf (v := qI (L : Int)) d_X12_lineOfPlan_119 fl_X12_222 rput_o rfl ?_
      refine z_imul d_X12_lineOfPlan_122 (by omega) ?_
      refine z_iconst d_X12_lineOfPlan_123 (by decide) ?_
      refine z_iadd d_X12_lineOfPlan_124 (by omega) ?_
      refine z_aload_n d_X12_lineOfPlan_125 rfl rfl ?_
      refine z_iconst d_X12_lineOfPlan_126 (by decide) ?_
      refine z_bipush d_X12_lineOfPlan_127 (by decide) ?_
      refine z_cv (M1 := M_X12_number) d_X12_lineOfPlan_129 lv_X12_206 k_X12_number [qI 0, qI 31] rfl rfl rput_o ⟨_, _, rfl⟩ (Nat.le_of_ble_eq_true rfl) (by decide) (by decide) (Nat.le_of_ble_eq_true rfl) (y_number (N := N) (pl3 (g 1) N s) 0 31 hm hN hN4 (pl3_le ha)) ?_
      refine z_ist ((4 * L) + 2) d_X12_lineOfPlan_132 (rput_a2 8 (t := 0) (n := 64) (F := (qup (qup (g 8) ((4 * L) + 0) (nuV (g 1) N (tkS (g 1) N 10 s))) ((4 * L) + 1) (plW (g 1) N s))) rfl rfl rfl (by decide) (by decide)) (by omega) rfl (by omega) ?_
      refine z_eq rfl rfl ((rput_sa 8 rfl rfl (by decide) (by decide)).trans (rput_cg rfl (gup_gup _ _ _))) ?_
      refine z_eq rfl rfl (show (rput h m (qup (qup (qup (qup f 20 (L : Int)) 3 (((nuS (g 1) N 0 31 (pl3 (g 1) N s)).1 : Nat) : Int)) 4 ((nuS (g 1) N 0 31 (pl3 (g 1) N s)).2.1)) 5 ((nuS (g 1) N 0 31 (pl3 (g 1) N s)).2.2)) (gup g 8 (qup (qup (qup (g 8) ((4 * L) + 0) (nuV (g 1) N (tkS (g 1) N 10 s))) ((4 * L) + 1) (plW (g 1) N s)) ((4 * L) + 2) (nuV (g 1) N (pl3 (g 1) N s))))) = (rput h m (qup (qup (qup (qup f 20 (L : Int)) 3 (((pl4 (g 1) N s).1 : Nat) : Int)) 4 ((pl4 (g 1) N s).2.1)) 5 ((pl4 (g 1) N s).2.2)) (gup g 8 (qup (qup (qup (g 8) ((4 * L) + 0) (nuV (g 1) N (tkS (g 1) N 10 s))) ((4 * L) + 1) (plW (g 1) N s)) ((4 * L) + 2) (nuV (g 1) N (pl3 (g 1) N s))))) from rfl) ?_
      refine z_aload_n d_X12_lineOfPlan_133 rfl rfl ?_
      refine z_getf (v := qR (m + 8)) d_X12_lineOfPlan_134 fl_X12_35 rput_o rfl ?_
      refine z_iconst d_X12_lineOfPlan_137 (by decide) ?_
      refine z_aload_n d_X12_lineOfPlan_138 rfl rfl ?_
      refine z_getf (v := qI (L : Int)) d_X12_lineOfPlan_139 fl_X12_222 rput_o rfl ?_
      refine z_imul d_X12_lineOfPlan_142 (by omega) ?_
      refine z_iconst d_X12_lineOfPlan_143 (by decide) ?_
      refine z_iadd d_X12_lineOfPlan_144 (by omega) ?_
      refine z_iload_n d_X12_lineOfPlan_145 rfl rfl ?_
      refine z_if_ne 159 d_X12_lineOfPlan_146 (by decide) (fun q0 => ?_) (fun q0 => ?_)
      · refine z_iload_n d_X12_lineOfPlan_159 rfl rfl ?_
        refine z_iconst d_X12_lineOfPlan_160 (by decide) ?_
        refine z_icmp_ne 173 d_X12_lineOfPlan_161 (by decide) (fun q5 => ?_) (fun q5 => ?_)
        · refine z_iconst d_X12_lineOfPlan_173 (by decide) ?_
          refine z_ist ((4 * L) + 3) d_X12_lineOfPlan_174 (rput_a2 8 (t := 0) (n := 64) (F := (qup (qup (qup (g 8) ((4 * L) + 0) (nuV (g 1) N (tkS (g 1) N 10 s))) ((4 * L) + 1) (plW (g 1) N s)) ((4 * L) + 2) (nuV (g 1) N (pl3 (g 1) N s)))) rfl rfl rfl (by decide) (by decide)) (by omega) rfl (by omega) ?_
          refine z_eq rfl rfl ((rput_sa 8 rfl rfl (by decide) (by decide)).trans (rput_cg rfl (gup_gup _ _ _))) ?_
          refine z_aload_n d_X12_lineOfPlan_175 rfl rfl ?_
          refine z_bipush d_X12_lineOfPlan_176 (by decide) ?_
          refine z_cv0 (M1 := M_X12_sign) d_X12_lineOfPlan_178 lv_X12_228 k_X12_sign [qI 59] rfl rfl rput_o ⟨_, _, rfl⟩ (Nat.le_of_ble_eq_true rfl) (by decide) (by decide) (Nat.le_of_ble_eq_true rfl) (y_sign (N := N) (pl4 (g 1) N s) 59 hm hN hN4 (nuS_le (pl3_le ha))) ?_
          refine z_aload_n d_X12_lineOfPlan_181 rfl rfl ?_
          refine z_dup d_X12_lineOfPlan_182 rfl ?_
          refine z_getf (v := qI (L : Int)) d_X12_lineOfPlan_183 fl_X12_222 rput_o rfl ?_
          refine z_iconst d_X12_lineOfPlan_186 (by decide) ?_
          refine z_iadd d_X12_lineOfPlan_187 (by omega) ?_
          refine z_putf (fs' := [qI (f 0), qI (f 1), qI (f 2), qI (((gnS (g 1) N 59 (pl4 (g 1) N s)).1 : Nat) : Int), qI ((gnS (g 1) N 59 (pl4 (g 1) N s)).2.1), qI ((gnS (g 1) N 59 (pl4 (g 1) N s)).2.2), qI (f 6), qI (f 7), qR (m + 1), qR (m + 2), qR (m + 3), qR (m + 4), qR (m + 5), qR (m + 6), qR (m + 7), qR (m + 8), qR (m + 9), qR (m + 10), qI (f 18), qI (f 19), qI ((L : Int) + 1), qR (m + 11), qR (m + 12), qR (m + 13), qR (m + 14), qI (f 25), qR (m + 15), qI (f 27), qR (m + 16), qR (m + 17), qR (m + 18), qR (m + 19), qR (m + 20), qR (m + 21), qR (m + 22), qR (m + 23), qR (m + 24), qI (f 37), qI (f 38), qI (f 39), qI (f 40), qR (m + 25), qR (m + 26), qR (m + 27), qR (m + 28), qR (m + 29), qR (m + 30), qR (m + 31), qI (f 48), qR (m + 32), qR (m + 33), qR (m + 34), qR (m + 35), qR (m + 36), qR (m + 37)]) d_X12_lineOfPlan_188 fp_X12_222 rput_o (fun _ => rfl) (fun _ => rfl) (Nat.le_of_ble_eq_true rfl) rfl ?_
          refine z_eq rfl rfl ((rput_sf (f' := qup (qup (qup (qup (qup f 20 (L : Int)) 3 (((gnS (g 1) N 59 (pl4 (g 1) N s)).1 : Nat) : Int)) 4 ((gnS (g 1) N 59 (pl4 (g 1) N s)).2.1)) 5 ((gnS (g 1) N 59 (pl4 (g 1) N s)).2.2)) 20 ((L : Int) + 1)) rfl).trans (rput_cg ((qup_comm (by decide)).trans (congrArg (fun z => qup z 5 ((gnS (g 1) N 59 (pl4 (g 1) N s)).2.2)) ((qup_comm (by decide)).trans (congrArg (fun z => qup z 4 ((gnS (g 1) N 59 (pl4 (g 1) N s)).2.1)) ((qup_comm (by decide)).trans (congrArg (fun z => qup z 3 (((gnS (g 1) N 59 (pl4 (g 1) N s)).1 : Nat) : Int)) (qup_qup _ _ _ _))))))) rfl)) ?_
          exact z_vret d_X12_lineOfPlan_191 rfl er (eh.trans (by unfold plS pl5 plM row4; rw [qif_f q0, qif_f q5, qif_f q0, qif_f q5]; try rfl))
        · refine z_aload_n d_X12_lineOfPlan_164 rfl rfl ?_
          refine z_iconst d_X12_lineOfPlan_165 (by decide) ?_
          refine z_iconst d_X12_lineOfPlan_166 (by decide) ?_
          refine z_cv (M1 := M_X12_number) d_X12_lineOfPlan_167 lv_X12_206 k_X12_number [qI 0, qI 3] rfl rfl rput_o ⟨_, _, rfl⟩ (Nat.le_of_ble_eq_true rfl) (by decide) (by decide) (Nat.le_of_ble_eq_true rfl) (y_number (N := N) (pl4 (g 1) N s) 0 3 hm hN hN4 (nuS_le (pl3_le ha))) ?_
          refine z_goto 174 d_X12_lineOfPlan_170 (by decide) ?_
          refine z_ist ((4 * L) + 3) d_X12_lineOfPlan_174 (rput_a2 8 (t := 0) (n := 64) (F := (qup (qup (qup (g 8) ((4 * L) + 0) (nuV (g 1) N (tkS (g 1) N 10 s))) ((4 * L) + 1) (plW (g 1) N s)) ((4 * L) + 2) (nuV (g 1) N (pl3 (g 1) N s)))) rfl rfl rfl (by decide) (by decide)) (by omega) rfl (by omega) ?_
          refine z_eq rfl rfl ((rput_sa 8 rfl rfl (by decide) (by decide)).trans (rput_cg rfl (gup_gup _ _ _))) ?_
          refine z_aload_n d_X12_lineOfPlan_175 rfl rfl ?_
          refine z_bipush d_X12_lineOfPlan_176 (by decide) ?_
          refine z_cv0 (M1 := M_X12_sign) d_X12_lineOfPlan_178 lv_X12_228 k_X12_sign [qI 59] rfl rfl rput_o ⟨_, _, rfl⟩ (Nat.le_of_ble_eq_true rfl) (by decide) (by decide) (Nat.le_of_ble_eq_true rfl) (y_sign (N := N) (nuS (g 1) N 0 3 (pl4 (g 1) N s)) 59 hm hN hN4 (nuS_le (nuS_le (pl3_le ha)))) ?_
          refine z_aload_n d_X12_lineOfPlan_181 rfl rfl ?_
          refine z_dup d_X12_lineOfPlan_182 rfl ?_
          refine z_getf (v := qI (L : Int)) d_X12_lineOfPlan_183 fl_X12_222 rput_o rfl ?_
          refine z_iconst d_X12_lineOfPlan_186 (by decide) ?_
          refine z_iadd d_X12_lineOfPlan_187 (by omega) ?_
          refine z_putf (fs' := [qI (f 0), qI (f 1), qI (f 2), qI (((gnS (g 1) N 59 (nuS (g 1) N 0 3 (pl4 (g 1) N s))).1 : Nat) : Int), qI ((gnS (g 1) N 59 (nuS (g 1) N 0 3 (pl4 (g 1) N s))).2.1), qI ((gnS (g 1) N 59 (nuS (g 1) N 0 3 (pl4 (g 1) N s))).2.2), qI (f 6), qI (f 7), qR (m + 1), qR (m + 2), qR (m + 3), qR (m + 4), qR (m + 5), qR (m + 6), qR (m + 7), qR (m + 8), qR (m + 9), qR (m + 10), qI (f 18), qI (f 19), qI ((L : Int) + 1), qR (m + 11), qR (m + 12), qR (m + 13), qR (m + 14), qI (f 25), qR (m + 15), qI (f 27), qR (m + 16), qR (m + 17), qR (m + 18), qR (m + 19), qR (m + 20), qR (m + 21), qR (m + 22), qR (m + 23), qR (m + 24), qI (f 37), qI (f 38), qI (f 39), qI (f 40), qR (m + 25), qR (m + 26), qR (m + 27), qR (m + 28), qR (m + 29), qR (m + 30), qR (m + 31), qI (f 48), qR (m + 32), qR (m + 33), qR (m + 34), qR (m + 35), qR (m + 36), qR (m + 37)]) d_X12_lineOfPlan_188 fp_X12_222 rput_o (fun _ => rfl) (fun _ => rfl) (Nat.le_of_ble_eq_true rfl) rfl ?_
          refine z_eq rfl rfl ((rput_sf (f' := qup (qup (qup (qup (qup f 20 (L : Int)) 3 (((gnS (g 1) N 59 (nuS (g 1) N 0 3 (pl4 (g 1) N s))).1 : Nat) : Int)) 4 ((gnS (g 1) N 59 (nuS (g 1) N 0 3 (pl4 (g 1) N s))).2.1)) 5 ((gnS (g 1) N 59 (nuS (g 1) N 0 3 (pl4 (g 1) N s))).2.2)) 20 ((L : Int) + 1)) rfl).trans (rput_cg ((qup_comm (by decide)).trans (congrArg (fun z => qup z 5 ((gnS (g 1) N 59 (nuS (g 1) N 0 3 (pl4 (g 1) N s))).2.2)) ((qup_comm (by decide)).trans (congrArg (fun z => qup z 4 ((gnS (g 1) N 59 (nuS (g 1) N 0 3 (pl4 (g 1) N s))).2.1)) ((qup_comm (by decide)).trans (congrArg (fun z => qup z 3 (((gnS (g 1) N 59 (nuS (g 1) N 0 3 (pl4 (g 1) N s))).1 : Nat) : Int)) (qup_qup _ _ _ _))))))) rfl)) ?_
          exact z_vret d_X12_lineOfPlan_191 rfl er (eh.trans (by unfold plS pl5 plM row4; rw [qif_f q0, qif_t (Classical.not_not.mp q5), qif_f q0, qif_t (Classical.not_not.mp q5)]; try rfl))
      · refine z_aload_n d_X12_lineOfPlan_149 rfl rfl ?_
        refine z_iconst d_X12_lineOfPlan_150 (by decide) ?_
        refine z_bipush d_X12_lineOfPlan_151 (by decide) ?_
        refine z_cv (M1 := M_X12_number) d_X12_lineOfPlan_153 lv_X12_206 k_X12_number [qI 0, qI 7] rfl rfl rput_o ⟨_, _, rfl⟩ (Nat.le_of_ble_eq_true rfl) (by decide) (by decide) (Nat.le_of_ble_eq_true rfl) (y_number (N := N) (pl4 (g 1) N s) 0 7 hm hN hN4 (nuS_le (pl3_le ha))) ?_
        refine z_goto 174 d_X12_lineOfPlan_156 (by decide) ?_
        refine z_ist ((4 * L) + 3) d_X12_lineOfPlan_174 (rput_a2 8 (t := 0) (n := 64) (F := (qup (qup (qup (g 8) ((4 * L) + 0) (nuV (g 1) N (tkS (g 1) N 10 s))) ((4 * L) + 1) (plW (g 1) N s)) ((4 * L) + 2) (nuV (g 1) N (pl3 (g 1) N s)))) rfl rfl rfl (by decide) (by decide)) (by omega) rfl (by omega) ?_
        refine z_eq rfl rfl ((rput_sa 8 rfl rfl (by decide) (by decide)).trans (rput_cg rfl (gup_gup _ _ _))) ?_
        refine z_aload_n d_X12_lineOfPlan_175 rfl rfl ?_
        refine z_bipush d_X12_lineOfPlan_176 (by decide) ?_
        refine z_cv0 (M1 := M_X12_sign) d_X12_lineOfPlan_178 lv_X12_228 k_X12_sign [qI 59] rfl rfl rput_o ⟨_, _, rfl⟩ (Nat.le_of_ble_eq_true rfl) (by decide) (by decide) (Nat.le_of_ble_eq_true rfl) (y_sign (N := N) (nuS (g 1) N 0 7 (pl4 (g 1) N s)) 59 hm hN hN4 (nuS_le (nuS_le (pl3_le ha)))) ?_
        refine z_aload_n d_X12_lineOfPlan_181 rfl rfl ?_
        refine z_dup d_X12_lineOfPlan_182 rfl ?_
        refine z_getf (v := qI (L : Int)) d_X12_lineOfPlan_183 fl_X12_222 rput_o rfl ?_
        refine z_iconst d_X12_lineOfPlan_186 (by decide) ?_
        refine z_iadd d_X12_lineOfPlan_187 (by omega) ?_
        refine z_putf (fs' := [qI (f 0), qI (f 1), qI (f 2), qI (((gnS (g 1) N 59 (nuS (g 1) N 0 7 (pl4 (g 1) N s))).1 : Nat) : Int), qI ((gnS (g 1) N 59 (nuS (g 1) N 0 7 (pl4 (g 1) N s))).2.1), qI ((gnS (g 1) N 59 (nuS (g 1) N 0 7 (pl4 (g 1) N s))).2.2), qI (f 6), qI (f 7), qR (m + 1), qR (m + 2), qR (m + 3), qR (m + 4), qR (m + 5), qR (m + 6), qR (m + 7), qR (m + 8), qR (m + 9), qR (m + 10), qI (f 18), qI (f 19), qI ((L : Int) + 1), qR (m + 11), qR (m + 12), qR (m + 13), qR (m + 14), qI (f 25), qR (m + 15), qI (f 27), qR (m + 16), qR (m + 17), qR (m + 18), qR (m + 19), qR (m + 20), qR (m + 21), qR (m + 22), qR (m + 23), qR (m + 24), qI (f 37), qI (f 38), qI (f 39), qI (f 40), qR (m + 25), qR (m + 26), qR (m + 27), qR (m + 28), qR (m + 29), qR (m + 30), qR (m + 31), qI (f 48), qR (m + 32), qR (m + 33), qR (m + 34), qR (m + 35), qR (m + 36), qR (m + 37)]) d_X12_lineOfPlan_188 fp_X12_222 rput_o (fun _ => rfl) (fun _ => rfl) (Nat.le_of_ble_eq_true rfl) rfl ?_
        refine z_eq rfl rfl ((rput_sf (f' := qup (qup (qup (qup (qup f 20 (L : Int)) 3 (((gnS (g 1) N 59 (nuS (g 1) N 0 7 (pl4 (g 1) N s))).1 : Nat) : Int)) 4 ((gnS (g 1) N 59 (nuS (g 1) N 0 7 (pl4 (g 1) N s))).2.1)) 5 ((gnS (g 1) N 59 (nuS (g 1) N 0 7 (pl4 (g 1) N s))).2.2)) 20 ((L : Int) + 1)) rfl).trans (rput_cg ((qup_comm (by decide)).trans (congrArg (fun z => qup z 5 ((gnS (g 1) N 59 (nuS (g 1) N 0 7 (pl4 (g 1) N s))).2.2)) ((qup_comm (by decide)).trans (congrArg (fun z => qup z 4 ((gnS (g 1) N 59 (nuS (g 1) N 0 7 (pl4 (g 1) N s))).2.1)) ((qup_comm (by decide)).trans (congrArg (fun z => qup z 3 (((gnS (g 1) N 59 (nuS (g 1) N 0 7 (pl4 (g 1) N s))).1 : Nat) : Int)) (qup_qup _ _ _ _))))))) rfl)) ?_
        exact z_vret d_X12_lineOfPlan_191 rfl er (eh.trans (by unfold plS pl5 plM row4; rw [qif_t (Classical.not_not.mp q0), qif_t (Classical.not_not.mp q0)]; try rfl))
    · exact absurd hck (by omega)
  · exact absurd hck (by omega)
section TreeWords
variable (B : Nat → Int) (N : Nat) (A : Nat → Int)
noncomputable def tr1 (s : pS) : pS := skS B N (tkS B N 17 s)
noncomputable def trK (s : pS) : Int := nuV B N (tr1 B N s)
noncomputable def tr2 (s : pS) : pS := nuS B N 1 15 (tr1 B N s)
noncomputable def tr3 (s : pS) : pS := qif ((tr2 B N s).2.1 = 0 ∧ A (trK B N s).toNat ≠ -1) (wrS 2 ((tr1 B N s).1 : Int) (tr2 B N s)) (tr2 B N s)
noncomputable def tr4 (s : pS) : pS := qif (tkQ B N 18 (tr3 B N A s)) (tkS B N 18 (tr3 B N A s)) (wrS 1 ((tkS B N 18 (tr3 B N A s)).1 : Int) (tkS B N 18 (tr3 B N A s)))
noncomputable def tr5 (s : pS) : pS := skS B N (tr4 B N A s)
noncomputable def trU (s : pS) : Int := nuV B N (tr5 B N A s)
noncomputable def tr6 (s : pS) : pS := nuS B N 0 14 (tr5 B N A s)
noncomputable def tr7 (s : pS) : pS := qif ((tr6 B N A s).2.1 = 0 ∧ trU B N A s ≥ trK B N s) (wrS 2 ((tr5 B N A s).1 : Int) (tr6 B N A s)) (tr6 B N A s)
noncomputable def trS (s : pS) : pS := gnS B N 59 (tr7 B N A s)
noncomputable def trX (s : pS) : Nat → Int := qif ((trS B N A s).2.1 = 0) (qup A (trK B N s).toNat (trU B N A s)) A
end TreeWords
section TreeLe
variable {B : Nat → Int} {N : Nat} {A : Nat → Int} {s : pS}
theorem tr1_le (h : s.1 ≤ N) : (tr1 B N s).1 ≤ N := skS_le (tkS_le (by decide) h)
theorem tr2_le (h : s.1 ≤ N) : (tr2 B N s).1 ≤ N := nuS_le (tr1_le h)
theorem tr3_le (h : s.1 ≤ N) : (tr3 B N A s).1 ≤ N := qif_or (fun z : pS => z.1 ≤ N) (wrS_le (tr2_le h)) (tr2_le h)
theorem tr4_le (h : s.1 ≤ N) : (tr4 B N A s).1 ≤ N := qif_or (fun z : pS => z.1 ≤ N) (tkS_le (by decide) (tr3_le h)) (wrS_le (tkS_le (by decide) (tr3_le h)))
theorem tr5_le (h : s.1 ≤ N) : (tr5 B N A s).1 ≤ N := skS_le (tr4_le h)
theorem tr6_le (h : s.1 ≤ N) : (tr6 B N A s).1 ≤ N := nuS_le (tr5_le h)
theorem tr7_le (h : s.1 ≤ N) : (tr7 B N A s).1 ≤ N := qif_or (fun z : pS => z.1 ≤ N) (wrS_le (tr6_le h)) (tr6_le h)
theorem trS_le (h : s.1 ≤ N) : (trS B N A s).1 ≤ N := gnS_le (by decide) (tr7_le h)
theorem tr3_0 (h : (tr3 B N A s).2.1 = 0) : (tr2 B N s).2.1 = 0 ∧ A (trK B N s).toNat = -1 ∧ tr3 B N A s = tr2 B N s := by
  unfold tr3 at h ⊢
  by_cases c : (tr2 B N s).2.1 = 0 ∧ A (trK B N s).toNat ≠ -1
  · rw [qif_t c] at h; exact (wr_0 (by decide) h).elim
  · rw [qif_f c] at h ⊢
    exact ⟨h, Classical.not_not.mp (fun z => c ⟨h, z⟩), rfl⟩
theorem tr4_0 (h : (tr4 B N A s).2.1 = 0) : (tr3 B N A s).2.1 = 0 ∧ kd B N (sk B N (tr3 B N A s).1) = 18 ∧ tr4 B N A s = (en B N (sk B N (tr3 B N A s).1), (tr3 B N A s).2) := by
  unfold tr4 at h ⊢
  by_cases c : tkQ B N 18 (tr3 B N A s)
  · rw [qif_t c]
    exact ⟨c.1, c.2, tkS_y c.1 c.2⟩
  · rw [qif_f c] at h; exact (wr_0 (by decide) h).elim
theorem tr7_0 (h : (tr7 B N A s).2.1 = 0) : (tr6 B N A s).2.1 = 0 ∧ trU B N A s < trK B N s ∧ tr7 B N A s = tr6 B N A s := by
  unfold tr7 at h ⊢
  by_cases c : (tr6 B N A s).2.1 = 0 ∧ trU B N A s ≥ trK B N s
  · rw [qif_t c] at h; exact (wr_0 (by decide) h).elim
  · rw [qif_f c] at h ⊢
    exact ⟨h, by have : ¬ trU B N A s ≥ trK B N s := fun z => c ⟨h, z⟩; omega, rfl⟩
theorem trS_0 (h : (trS B N A s).2.1 = 0) : (tr7 B N A s).2.1 = 0 ∧ (tr6 B N A s).2.1 = 0 ∧ (tr5 B N A s).2.1 = 0 ∧ (tr3 B N A s).2.1 = 0 ∧ (tr2 B N s).2.1 = 0 ∧ 1 ≤ trK B N s ∧ trK B N s ≤ 15 ∧ 0 ≤ trU B N A s ∧ trU B N A s < trK B N s := by
  have h7 := (gn_0 h).1
  have h6 := tr7_0 h7
  have h5 := nu_ok h6.1
  have h4 := tr4_0 h5.1
  have h3 := tr3_0 h4.1
  have h2 := nu_ok h3.1
  exact ⟨h7, h6.1, h5.1, h4.1, h3.1, h2.2.2.2.1, h2.2.2.2.2.1, h5.2.2.2.1, h6.2.1⟩
end TreeLe
set_option maxRecDepth 20000 in
set_option maxHeartbeats 4000000 in
theorem c_lineOfTree {h : qH} {m : Nat} {f : Nat → Int} {g : Nat → Nat → Int} {N L : Nat} (s : pS) (hm : 2 ≤ m) (hN : f 2 = (N : Int)) (hN4 : N ≤ 400) (ha : s.1 ≤ N) (hsk : sk (g 1) N s.1 = s.1) (hs0 : s.2.1 = 0) (hL : L ≤ 16) (hck : kd (g 1) N s.1 = 17 ∧ L < 16) : qEx M_X12_lineOfTree 0 [qR m, qU, qU, qU] [] (rput h m (qup (qup (qup (qup f 20 (L : Int)) 3 ((s.1 : Nat) : Int)) 4 s.2.1) 5 s.2.2) g) none (rput h m (qup (qup (qup (qup f 20 ((L : Int) + 1)) 3 (((trS (g 1) N (g 10) s).1 : Nat) : Int)) 4 ((trS (g 1) N (g 10) s).2.1)) 5 ((trS (g 1) N (g 10) s).2.2)) (gup g 10 (trX (g 1) N (g 10) s))) := by
  refine q_gen (fun r hr er eh => ?_)
  refine z_aload_n d_X12_lineOfTree_0 rfl rfl ?_
  refine z_bipush d_X12_lineOfTree_1 (by decide) ?_
  refine z_iconst d_X12_lineOfTree_3 (by decide) ?_
  refine z_iconst d_X12_lineOfTree_4 (by decide) ?_
  refine z_bipush d_X12_lineOfTree_5 (by decide) ?_
  refine z_iconst d_X12_lineOfTree_7 (by decide) ?_
  refine z_bipush d_X12_lineOfTree_8 (by decide) ?_
  refine z_cv (M1 := M_X12_isWord) d_X12_lineOfTree_10 lv_X12_185 k_X12_isWord [qI 11, qI 5, qI 5, qI 16, qI 5, qI 18] rfl rfl rput_o ⟨_, _, rfl⟩ (Nat.le_of_ble_eq_true rfl) (by decide) (by decide) (Nat.le_of_ble_eq_true rfl) (y_isW (N := N) s 11 17 11 5 5 16 5 18 hm hN hN4 ha hsk (by decide) (by decide) (by decide +kernel) (by decide) (by decide) (by decide) (by decide) (by decide) (by decide)) ?_
  refine z_ifneB 28 d_X12_lineOfTree_13 (by decide) (fun hc1 => ?_) (fun hc1 => ?_)
  · refine z_aload_n d_X12_lineOfTree_28 rfl rfl ?_
    refine z_getf (v := qI (L : Int)) d_X12_lineOfTree_29 fl_X12_222 rput_o rfl ?_
    refine z_bipush d_X12_lineOfTree_32 (by decide) ?_
    refine z_icmp_ne 46 d_X12_lineOfTree_34 (by decide) (fun hc2 => ?_) (fun hc2 => ?_)
    · refine z_aload_n d_X12_lineOfTree_46 rfl rfl ?_
      refine z_bipush d_X12_lineOfTree_47 (by decide) ?_
      refine z_iconst d_X12_lineOfTree_49 (by decide) ?_
      refine z_iconst d_X12_lineOfTree_50 (by decide) ?_
      refine z_bipush d_X12_lineOfTree_51 (by decide) ?_
      refine z_iconst d_X12_lineOfTree_53 (by decide) ?_
      refine z_bipush d_X12_lineOfTree_54 (by decide) ?_
      refine z_cv (M1 := M_X12_takes) d_X12_lineOfTree_56 lv_X12_203 k_X12_takes [qI 11, qI 5, qI 5, qI 16, qI 5, qI 18] rfl rfl rput_o ⟨_, _, rfl⟩ (Nat.le_of_ble_eq_true rfl) (by decide) (by decide) (Nat.le_of_ble_eq_true rfl) (z_end (y_takes2 (N := N) s 11 17 11 5 5 16 5 18 hm hN hN4 ha (by decide) (by decide) (by decide +kernel) (by decide) (by decide) (by decide) (by decide) (by decide) (by decide)) (show _ = some (qI 1) by rw [qb_t ⟨hs0, by rw [hsk]; exact hck.1⟩]) (show _ = (rput h m (qup (qup (qup (qup f 20 (L : Int)) 3 (((tkS (g 1) N 17 s).1 : Nat) : Int)) 4 ((tkS (g 1) N 17 s).2.1)) 5 ((tkS (g 1) N 17 s).2.2)) g) from rfl)) ?_
      refine z_if_ne 63 d_X12_lineOfTree_59 (by decide) (fun hc3 => ?_) (fun hc3 => absurd (by decide) hc3)
      refine z_aload_n d_X12_lineOfTree_63 rfl rfl ?_
      refine z_cv0 (M1 := M_X12_blanks) d_X12_lineOfTree_64 lv_X12_164 k_X12_blanks [] rfl rfl rput_o ⟨_, _, rfl⟩ (Nat.le_of_ble_eq_true rfl) (by decide) (by decide) (Nat.le_of_ble_eq_true rfl) (y_blanks (N := N) (tkS (g 1) N 17 s) hm hN hN4 (tkS_le (by decide) ha)) ?_
      refine z_eq rfl rfl (show (rput h m (qup (qup (qup (qup f 20 (L : Int)) 3 (((skS (g 1) N (tkS (g 1) N 17 s)).1 : Nat) : Int)) 4 ((skS (g 1) N (tkS (g 1) N 17 s)).2.1)) 5 ((skS (g 1) N (tkS (g 1) N 17 s)).2.2)) g) = (rput h m (qup (qup (qup (qup f 20 (L : Int)) 3 (((tr1 (g 1) N s).1 : Nat) : Int)) 4 ((tr1 (g 1) N s).2.1)) 5 ((tr1 (g 1) N s).2.2)) g) from rfl) ?_
      refine z_aload_n d_X12_lineOfTree_67 rfl rfl ?_
      refine z_getf (v := qI (((tr1 (g 1) N s).1 : Nat) : Int)) d_X12_lineOfTree_68 fl_X12_150 rput_o rfl ?_
      refine z_istore_n (ls' := [qR m, qI (((tr1 (g 1) N s).1 : Nat) : Int), qU, qU]) d_X12_lineOfTree_71 rfl (by decide) rfl ?_
      refine z_aload_n d_X12_lineOfTree_72 rfl rfl ?_
      refine z_iconst d_X12_lineOfTree_73 (by decide) ?_
      refine z_bipush d_X12_lineOfTree_74 (by decide) ?_
      refine z_cv (M1 := M_X12_number) d_X12_lineOfTree_76 lv_X12_206 k_X12_number [qI 1, qI 15] rfl rfl rput_o ⟨_, _, rfl⟩ (Nat.le_of_ble_eq_true rfl) (by decide) (by decide) (Nat.le_of_ble_eq_true rfl) (y_number (N := N) (tr1 (g 1) N s) 1 15 hm hN hN4 (tr1_le ha)) ?_
      refine z_istore_n (ls' := [qR m, qI (((tr1 (g 1) N s).1 : Nat) : Int), qI (nuV (g 1) N (tr1 (g 1) N s)), qU]) d_X12_lineOfTree_79 rfl (by decide) rfl ?_
      refine z_eq (show _ = [qR m, qI (((tr1 (g 1) N s).1 : Nat) : Int), qI (trK (g 1) N s), qU] from rfl) rfl rfl ?_
      refine z_eq rfl rfl (show (rput h m (qup (qup (qup (qup f 20 (L : Int)) 3 (((nuS (g 1) N 1 15 (tr1 (g 1) N s)).1 : Nat) : Int)) 4 ((nuS (g 1) N 1 15 (tr1 (g 1) N s)).2.1)) 5 ((nuS (g 1) N 1 15 (tr1 (g 1) N s)).2.2)) g) = (rput h m (qup (qup (qup (qup f 20 (L : Int)) 3 (((tr2 (g 1) N s).1 : Nat) : Int)) 4 ((tr2 (g 1) N s).2.1)) 5 ((tr2 (g 1) N s).2.2)) g) from rfl) ?_
      refine z_aload_n d_X12_lineOfTree_80 rfl rfl ?_
      refine z_getf (v := qI ((tr2 (g 1) N s).2.1)) d_X12_lineOfTree_81 fl_X12_141 rput_o rfl ?_
      suffices kH84 : qEx M_X12_lineOfTree 103 [qR m, qI (((tr1 (g 1) N s).1 : Nat) : Int), qI (trK (g 1) N s), qU] [] (rput h m (qup (qup (qup (qup f 20 (L : Int)) 3 (((tr3 (g 1) N (g 10) s).1 : Nat) : Int)) 4 ((tr3 (g 1) N (g 10) s).2.1)) 5 ((tr3 (g 1) N (g 10) s).2.2)) g) r hr by
        refine z_if_ne 103 d_X12_lineOfTree_84 (by decide) (fun q84 => ?_) (fun q84 => ?_)
        · exact z_eq rfl rfl (by unfold tr3; rw [qif_f (fun z => q84 z.1)]; try rfl) kH84
        · have hB := nu_ok (Classical.not_not.mp q84)
          have hB1 : 1 ≤ trK (g 1) N s ∧ trK (g 1) N s ≤ 15 := ⟨hB.2.2.2.1, hB.2.2.2.2.1⟩
          refine z_aload_n d_X12_lineOfTree_87 rfl rfl ?_
          refine z_getf (v := qR (m + 10)) d_X12_lineOfTree_88 fl_X12_41 rput_o rfl ?_
          refine z_iload_n d_X12_lineOfTree_91 rfl rfl ?_
          refine z_ild ((trK (g 1) N s).toNat) d_X12_lineOfTree_92 (rput_a2 10 (t := 0) (n := 16) (F := (g 10)) rfl rfl rfl (by decide) (by decide)) (by omega) (by omega) ?_
          refine z_iconst d_X12_lineOfTree_93 (by decide) ?_
          refine z_icmp_eq 103 d_X12_lineOfTree_94 (by decide) (fun q94 => ?_) (fun q94 => ?_)
          · exact z_eq rfl rfl (by unfold tr3; rw [qif_f (fun z => z.2 q94)]; try rfl) kH84
          · refine z_aload_n d_X12_lineOfTree_97 rfl rfl ?_
            refine z_iconst d_X12_lineOfTree_98 (by decide) ?_
            refine z_iload_n d_X12_lineOfTree_99 rfl rfl ?_
            refine z_cv0 (M1 := M_X12_wrong) d_X12_lineOfTree_100 lv_X12_196 k_X12_wrong [qI 2, qI (((tr1 (g 1) N s).1 : Nat) : Int)] rfl rfl rput_o ⟨_, _, rfl⟩ (Nat.le_of_ble_eq_true rfl) (by decide) (by decide) (Nat.le_of_ble_eq_true rfl) (y_wrong (tr2 (g 1) N s) 2 (((tr1 (g 1) N s).1 : Nat) : Int) hm) ?_
            exact z_eq rfl rfl (by unfold tr3; rw [qif_t ⟨Classical.not_not.mp q84, q94⟩]; try rfl) kH84
      refine z_aload_n d_X12_lineOfTree_103 rfl rfl ?_
      refine z_iconst d_X12_lineOfTree_104 (by decide) ?_
      refine z_iconst d_X12_lineOfTree_105 (by decide) ?_
      refine z_bipush d_X12_lineOfTree_106 (by decide) ?_
      refine z_bipush d_X12_lineOfTree_108 (by decide) ?_
      refine z_bipush d_X12_lineOfTree_110 (by decide) ?_
      refine z_iconst d_X12_lineOfTree_112 (by decide) ?_
      refine z_cv (M1 := M_X12_takes) d_X12_lineOfTree_113 lv_X12_203 k_X12_takes [qI 2, qI 5, qI 12, qI 15, qI 23, qI 0] rfl rfl rput_o ⟨_, _, rfl⟩ (Nat.le_of_ble_eq_true rfl) (by decide) (by decide) (Nat.le_of_ble_eq_true rfl) (y_takes2 (N := N) (tr3 (g 1) N (g 10) s) 12 18 2 5 12 15 23 0 hm hN hN4 (tr3_le ha) (by decide) (by decide) (by decide +kernel) (by decide) (by decide) (by decide) (by decide) (by decide) (by decide)) ?_
      suffices kH116 : qEx M_X12_lineOfTree 128 [qR m, qI (((tr1 (g 1) N s).1 : Nat) : Int), qI (trK (g 1) N s), qU] [] (rput h m (qup (qup (qup (qup f 20 (L : Int)) 3 (((tr4 (g 1) N (g 10) s).1 : Nat) : Int)) 4 ((tr4 (g 1) N (g 10) s).2.1)) 5 ((tr4 (g 1) N (g 10) s).2.2)) g) r hr by
        refine z_ifneB 128 d_X12_lineOfTree_116 (by decide) (fun q116 => ?_) (fun q116 => ?_)
        · exact z_eq rfl rfl (by unfold tr4; rw [qif_t q116]; try rfl) kH116
        · refine z_aload_n d_X12_lineOfTree_119 rfl rfl ?_
          refine z_iconst d_X12_lineOfTree_120 (by decide) ?_
          refine z_aload_n d_X12_lineOfTree_121 rfl rfl ?_
          refine z_getf (v := qI (((tkS (g 1) N 18 (tr3 (g 1) N (g 10) s)).1 : Nat) : Int)) d_X12_lineOfTree_122 fl_X12_150 rput_o rfl ?_
          refine z_cv0 (M1 := M_X12_wrong) d_X12_lineOfTree_125 lv_X12_196 k_X12_wrong [qI 1, qI (((tkS (g 1) N 18 (tr3 (g 1) N (g 10) s)).1 : Nat) : Int)] rfl rfl rput_o ⟨_, _, rfl⟩ (Nat.le_of_ble_eq_true rfl) (by decide) (by decide) (Nat.le_of_ble_eq_true rfl) (y_wrong (tkS (g 1) N 18 (tr3 (g 1) N (g 10) s)) 1 (((tkS (g 1) N 18 (tr3 (g 1) N (g 10) s)).1 : Nat) : Int) hm) ?_
          exact z_eq rfl rfl (by unfold tr4; rw [qif_f q116]; try rfl) kH116
      refine z_aload_n d_X12_lineOfTree_128 rfl rfl ?_
      refine z_cv0 (M1 := M_X12_blanks) d_X12_lineOfTree_129 lv_X12_164 k_X12_blanks [] rfl rfl rput_o ⟨_, _, rfl⟩ (Nat.le_of_ble_eq_true rfl) (by decide) (by decide) (Nat.le_of_ble_eq_true rfl) (y_blanks (N := N) (tr4 (g 1) N (g 10) s) hm hN hN4 (tr4_le ha)) ?_
      refine z_eq rfl rfl (show (rput h m (qup (qup (qup (qup f 20 (L : Int)) 3 (((skS (g 1) N (tr4 (g 1) N (g 10) s)).1 : Nat) : Int)) 4 ((skS (g 1) N (tr4 (g 1) N (g 10) s)).2.1)) 5 ((skS (g 1) N (tr4 (g 1) N (g 10) s)).2.2)) g) = (rput h m (qup (qup (qup (qup f 20 (L : Int)) 3 (((tr5 (g 1) N (g 10) s).1 : Nat) : Int)) 4 ((tr5 (g 1) N (g 10) s).2.1)) 5 ((tr5 (g 1) N (g 10) s).2.2)) g) from rfl) ?_
      refine z_aload_n d_X12_lineOfTree_132 rfl rfl ?_
      refine z_getf (v := qI (((tr5 (g 1) N (g 10) s).1 : Nat) : Int)) d_X12_lineOfTree_133 fl_X12_150 rput_o rfl ?_
      refine z_istore_n (ls' := [qR m, qI (((tr5 (g 1) N (g 10) s).1 : Nat) : Int), qI (trK (g 1) N s), qU]) d_X12_lineOfTree_136 rfl (by decide) rfl ?_
      refine z_aload_n d_X12_lineOfTree_137 rfl rfl ?_
      refine z_iconst d_X12_lineOfTree_138 (by decide) ?_
      refine z_bipush d_X12_lineOfTree_139 (by decide) ?_
      refine z_cv (M1 := M_X12_number) d_X12_lineOfTree_141 lv_X12_206 k_X12_number [qI 0, qI 14] rfl rfl rput_o ⟨_, _, rfl⟩ (Nat.le_of_ble_eq_true rfl) (by decide) (by decide) (Nat.le_of_ble_eq_true rfl) (y_number (N := N) (tr5 (g 1) N (g 10) s) 0 14 hm hN hN4 (tr5_le ha)) ?_
      refine z_istore_n (ls' := [qR m, qI (((tr5 (g 1) N (g 10) s).1 : Nat) : Int), qI (trK (g 1) N s), qI (nuV (g 1) N (tr5 (g 1) N (g 10) s))]) d_X12_lineOfTree_144 rfl (by decide) rfl ?_
      refine z_eq (show _ = [qR m, qI (((tr5 (g 1) N (g 10) s).1 : Nat) : Int), qI (trK (g 1) N s), qI (trU (g 1) N (g 10) s)] from rfl) rfl rfl ?_
      refine z_eq rfl rfl (show (rput h m (qup (qup (qup (qup f 20 (L : Int)) 3 (((nuS (g 1) N 0 14 (tr5 (g 1) N (g 10) s)).1 : Nat) : Int)) 4 ((nuS (g 1) N 0 14 (tr5 (g 1) N (g 10) s)).2.1)) 5 ((nuS (g 1) N 0 14 (tr5 (g 1) N (g 10) s)).2.2)) g) = (rput h m (qup (qup (qup (qup f 20 (L : Int)) 3 (((tr6 (g 1) N (g 10) s).1 : Nat) : Int)) 4 ((tr6 (g 1) N (g 10) s).2.1)) 5 ((tr6 (g 1) N (g 10) s).2.2)) g) from rfl) ?_
      refine z_aload_n d_X12_lineOfTree_145 rfl rfl ?_
      refine z_getf (v := qI ((tr6 (g 1) N (g 10) s).2.1)) d_X12_lineOfTree_146 fl_X12_141 rput_o rfl ?_
      suffices kH149 : qEx M_X12_lineOfTree 163 [qR m, qI (((tr5 (g 1) N (g 10) s).1 : Nat) : Int), qI (trK (g 1) N s), qI (trU (g 1) N (g 10) s)] [] (rput h m (qup (qup (qup (qup f 20 (L : Int)) 3 (((tr7 (g 1) N (g 10) s).1 : Nat) : Int)) 4 ((tr7 (g 1) N (g 10) s).2.1)) 5 ((tr7 (g 1) N (g 10) s).2.2)) g) r hr by
        refine z_if_ne 163 d_X12_lineOfTree_149 (by decide) (fun q149 => ?_) (fun q149 => ?_)
        · exact z_eq rfl rfl (by unfold tr7; rw [qif_f (fun z => q149 z.1)]; try rfl) kH149
        · refine z_iload_n d_X12_lineOfTree_152 rfl rfl ?_
          refine z_iload_n d_X12_lineOfTree_153 rfl rfl ?_
          refine z_icmp_lt 163 d_X12_lineOfTree_154 (by decide) (fun q154 => ?_) (fun q154 => ?_)
          · exact z_eq rfl rfl (by unfold tr7; rw [qif_f (fun z => absurd z.2 (by omega))]; try rfl) kH149
          · refine z_aload_n d_X12_lineOfTree_157 rfl rfl ?_
            refine z_iconst d_X12_lineOfTree_158 (by decide) ?_
            refine z_iload_n d_X12_lineOfTree_159 rfl rfl ?_
            refine z_cv0 (M1 := M_X12_wrong) d_X12_lineOfTree_160 lv_X12_196 k_X12_wrong [qI 2, qI (((tr5 (g 1) N (g 10) s).1 : Nat) : Int)] rfl rfl rput_o ⟨_, _, rfl⟩ (Nat.le_of_ble_eq_true rfl) (by decide) (by decide) (Nat.le_of_ble_eq_true rfl) (y_wrong (tr6 (g 1) N (g 10) s) 2 (((tr5 (g 1) N (g 10) s).1 : Nat) : Int) hm) ?_
            exact z_eq rfl rfl (by unfold tr7; rw [qif_t ⟨Classical.not_not.mp q149, Int.not_lt.mp q154⟩]; try rfl) kH149
      refine z_aload_n d_X12_lineOfTree_163 rfl rfl ?_
      refine z_bipush d_X12_lineOfTree_164 (by decide) ?_
      refine z_cv0 (M1 := M_X12_sign) d_X12_lineOfTree_166 lv_X12_228 k_X12_sign [qI 59] rfl rfl rput_o ⟨_, _, rfl⟩ (Nat.le_of_ble_eq_true rfl) (by decide) (by decide) (Nat.le_of_ble_eq_true rfl) (y_sign (N := N) (tr7 (g 1) N (g 10) s) 59 hm hN hN4 (tr7_le ha)) ?_
      refine z_eq rfl rfl (show (rput h m (qup (qup (qup (qup f 20 (L : Int)) 3 (((gnS (g 1) N 59 (tr7 (g 1) N (g 10) s)).1 : Nat) : Int)) 4 ((gnS (g 1) N 59 (tr7 (g 1) N (g 10) s)).2.1)) 5 ((gnS (g 1) N 59 (tr7 (g 1) N (g 10) s)).2.2)) g) = (rput h m (qup (qup (qup (qup f 20 (L : Int)) 3 (((trS (g 1) N (g 10) s).1 : Nat) : Int)) 4 ((trS (g 1) N (g 10) s).2.1)) 5 ((trS (g 1) N (g 10) s).2.2)) g) from rfl) ?_
      refine z_aload_n d_X12_lineOfTree_169 rfl rfl ?_
      refine z_getf (v := qI ((trS (g 1) N (g 10) s).2.1)) d_X12_lineOfTree_170 fl_X12_141 rput_o rfl ?_
      suffices kH173 : qEx M_X12_lineOfTree 183 [qR m, qI (((tr5 (g 1) N (g 10) s).1 : Nat) : Int), qI (trK (g 1) N s), qI (trU (g 1) N (g 10) s)] [] (rput h m (qup (qup (qup (qup f 20 (L : Int)) 3 (((trS (g 1) N (g 10) s).1 : Nat) : Int)) 4 ((trS (g 1) N (g 10) s).2.1)) 5 ((trS (g 1) N (g 10) s).2.2)) (gup g 10 (trX (g 1) N (g 10) s))) r hr by
        refine z_if_ne 183 d_X12_lineOfTree_173 (by decide) (fun q173 => ?_) (fun q173 => ?_)
        · exact z_eq rfl rfl (by unfold trX; rw [qif_f q173, gup_self rfl]; try rfl) kH173
        · have hB := trS_0 (A := (g 10)) (Classical.not_not.mp q173)
          refine z_aload_n d_X12_lineOfTree_176 rfl rfl ?_
          refine z_getf (v := qR (m + 10)) d_X12_lineOfTree_177 fl_X12_41 rput_o rfl ?_
          refine z_iload_n d_X12_lineOfTree_180 rfl rfl ?_
          refine z_iload_n d_X12_lineOfTree_181 rfl rfl ?_
          refine z_ist ((trK (g 1) N s).toNat) d_X12_lineOfTree_182 (rput_a2 10 (t := 0) (n := 16) (F := (g 10)) rfl rfl rfl (by decide) (by decide)) (by omega) (by omega) (by omega) ?_
          refine z_eq rfl rfl (rput_sa 10 rfl rfl (by decide) (by decide)) ?_
          exact z_eq rfl rfl (by unfold trX; rw [qif_t (Classical.not_not.mp q173)]; try rfl) kH173
      refine z_aload_n d_X12_lineOfTree_183 rfl rfl ?_
      refine z_dup d_X12_lineOfTree_184 rfl ?_
      refine z_getf (v := qI (L : Int)) d_X12_lineOfTree_185 fl_X12_222 rput_o rfl ?_
      refine z_iconst d_X12_lineOfTree_188 (by decide) ?_
      refine z_iadd d_X12_lineOfTree_189 (by omega) ?_
      refine z_putf (fs' := [qI (f 0), qI (f 1), qI (f 2), qI (((trS (g 1) N (g 10) s).1 : Nat) : Int), qI ((trS (g 1) N (g 10) s).2.1), qI ((trS (g 1) N (g 10) s).2.2), qI (f 6), qI (f 7), qR (m + 1), qR (m + 2), qR (m + 3), qR (m + 4), qR (m + 5), qR (m + 6), qR (m + 7), qR (m + 8), qR (m + 9), qR (m + 10), qI (f 18), qI (f 19), qI ((L : Int) + 1), qR (m + 11), qR (m + 12), qR (m + 13), qR (m + 14), qI (f 25), qR (m + 15), qI (f 27), qR (m + 16), qR (m + 17), qR (m + 18), qR (m + 19), qR (m + 20), qR (m + 21), qR (m + 22), qR (m + 23), qR (m + 24), qI (f 37), qI (f 38), qI (f 39), qI (f 40), qR (m + 25), qR (m + 26), qR (m + 27), qR (m + 28), qR (m + 29), qR (m + 30), qR (m + 31), qI (f 48), qR (m + 32), qR (m + 33), qR (m + 34), qR (m + 35), qR (m + 36), qR (m + 37)]) d_X12_lineOfTree_190 fp_X12_222 rput_o (fun _ => rfl) (fun _ => rfl) (Nat.le_of_ble_eq_true rfl) rfl ?_
      refine z_eq rfl rfl ((rput_sf (f' := qup (qup (qup (qup (qup f 20 (L : Int)) 3 (((trS (g 1) N (g 10) s).1 : Nat) : Int)) 4 ((trS (g 1) N (g 10) s).2.1)) 5 ((trS (g 1) N (g 10) s).2.2)) 20 ((L : Int) + 1)) rfl).trans (rput_cg ((qup_comm (by decide)).trans (congrArg (fun z => qup z 5 ((trS (g 1) N (g 10) s).2.2)) ((qup_comm (by decide)).trans (congrArg (fun z => qup z 4 ((trS (g 1) N (g 10) s).2.1)) ((qup_comm (by decide)).trans (congrArg (fun z => qup z 3 (((trS (g 1) N (g 10) s).1 : Nat) : Int)) (qup_qup _ _ _ _))))))) rfl)) ?_
      exact z_vret d_X12_lineOfTree_193 rfl er eh
    · exact absurd hck (by omega)
  · exact absurd hck (by omega)
